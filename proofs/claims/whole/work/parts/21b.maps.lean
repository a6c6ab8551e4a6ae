set_option maxHeartbeats 4000000 in
set_option maxRecDepth 100000 in
theorem c_X9_put (l : Launch) (hfl : l.stackTraces = false) (D : va_G) (ay : Nat → ClassId) (sa : Nat → Nat) (ad : Nat → Nat) (Z : DS) (mp : Int32) (ky : Int32) (vl : Int32) (hI : ∀ m, m < 2 → mI Z m) : jMx l yX9_put (jws yX9_put cX9_put 5 (some .int)) 8 143 3 18 D ay sa [.ref (ad 0), .int mp, .int ky, .int vl] (dW ay ad Z) (fun v w => ∃ (m : Nat), ∃ (y : Nat), ∃ (z : Nat), m < 2 ∧ y < 100 ∧ z < 1000 ∧ mp = nI m ∧ ky = nI y ∧ vl = nI z ∧ v = some (.int (if fx (Z.2.2 (2 * m)) (nI y) (Z.1 m) < (Z.1 m) then (Z.2.2 (2 * m + 1)) y else -1)) ∧ w = (dW ay ad (mU Z m (stN (Z.2.2 (2 * m)) (Z.1 m) (nI y) (Z.1 (12 + m))) (stF (Z.2.2 (2 * m)) (Z.1 m) (nI y) (Z.1 (12 + m))) 0 (Z.2.1 (2 + 5 * m)) (Z.2.1 (3 + 5 * m)) (upd (Z.2.2 (2 * m + 1)) y (nI z)) (Z.1 (12 + m)) (if usN (Z.2.2 (2 * m)) (Z.1 m) (nI y) ≤ (Z.1 (12 + m)) then (Z.2.1 (4 + 5 * m)) else (Z.2.1 (4 + 5 * m)) + 1) (if usN (Z.2.2 (2 * m)) (Z.1 m) (nI y) ≤ (Z.1 (12 + m)) then (Z.2.1 (5 + 5 * m)) else usF (Z.2.2 (2 * m)) (Z.1 m) (nI y) 0)))) (fun E w => (E = eIA ∧ (oob mp 0 1 ∨ oob ky 0 99 ∨ oob vl 0 999) ∧ w = (dW ay ad Z))) := by
  refine jMx_of l hfl (by decide) [(0, .ref (ad 0)), (1, .int mp), (2, .int ky), (3, .int vl)] rfl rfl (fun p9 e9 s9 m9 a9 b9 me9 c9 A9 F hX hT => ?_)
  refine j_aload_n F 0 dX9_put_0 rfl ?_
  refine j_iload_n F 1 dX9_put_1 rfl ?_
  refine j_sxcallV F hX hT kX9_53 (As := [.int mp]) (rest := []) (c_X9_chosenMap l hfl D ay sa ad Z mp) 0 0 55 rfl rfl rfl rfl rfl rfl ⟨Nat.le_of_ble_eq_true rfl, Nat.le_of_ble_eq_true rfl⟩ dX9_put_2 ⟨Nat.le_of_ble_eq_true rfl, Nat.le_of_ble_eq_true rfl⟩ (fun E w h => ⟨h.2.2, ⟨h.1, Or.inl h.2.1, rfl⟩⟩) (fun v w hw => ?_)
  obtain ⟨m_2, h2_0, rfl, rfl, rfl⟩ := hw
  refine ⟨rfl, (dW ay ad Z), slp_all _ _ rfl, ?_⟩
  refine j_astore F 4 [(4, .ref (ad (1 + 5 * m_2))), (0, .ref (ad 0)), (1, .int (nI m_2)), (2, .int ky), (3, .int vl)] dX9_put_5 (by decide) rfl ?_
  refine j_iload_n F 3 dX9_put_7 rfl ?_
  refine j_excallS F hX hT kX9_57 (As := [.int ky]) (rest := []) (c_X9_requireKey l hfl D ay sa ky) rfl rfl rfl rfl ⟨Nat.le_of_ble_eq_true rfl, Nat.le_of_ble_eq_true rfl⟩ dX9_put_8 ⟨Nat.le_of_ble_eq_true rfl, Nat.le_of_ble_eq_true rfl⟩ (fun E w h => ⟨h.2.2, ⟨h.1, Or.inr (Or.inl h.2.1), rfl⟩⟩) (fun v w hw => ?_)
  obtain ⟨y_8, h8_0, rfl, rfl, rfl⟩ := hw
  refine ⟨rfl, ?_⟩
  refine j_iload_n F 4 dX9_put_11 rfl ?_
  refine j_excallS F hX hT kX9_60 (As := [.int vl]) (rest := []) (c_X9_requireValue l hfl D ay sa vl) rfl rfl rfl rfl ⟨Nat.le_of_ble_eq_true rfl, Nat.le_of_ble_eq_true rfl⟩ dX9_put_12 ⟨Nat.le_of_ble_eq_true rfl, Nat.le_of_ble_eq_true rfl⟩ (fun E w h => ⟨h.2.2, ⟨h.1, Or.inr (Or.inr h.2.1), rfl⟩⟩) (fun v w hw => ?_)
  obtain ⟨z_12, h12_0, rfl, rfl, rfl⟩ := hw
  refine ⟨rfl, ?_⟩
  have hm := hI m_2 h2_0
  refine j_aload F 0 dX9_put_15 rfl ?_
  refine j_iload_n F 3 dX9_put_17 rfl ?_
  refine j_iload_n F 4 dX9_put_18 rfl ?_
  refine j_ws (slp (1 + 5 * m_2) 5 (dW ay ad Z) [(ad (1 + 5 * m_2), .inr (7, [.ref (ad (2 + 5 * m_2)), .ref (ad (4 + 5 * m_2)), .ref (ad (5 + 5 * m_2)), .int (nI (Z.1 (12 + m_2))), .int (Z.2.1 (4 + 5 * m_2)), .int (Z.2.1 (5 + 5 * m_2))])), (ad (2 + 5 * m_2), .inr (8, [.ref (ad (3 + 5 * m_2)), .int (nI (Z.1 m_2))])), (ad (3 + 5 * m_2), .inl (ay 0, 100, .inl (Z.2.2 (2 * m_2)))), (ad (4 + 5 * m_2), .inr (1, [.int (Z.2.1 (1 + 5 * m_2)), .int (Z.2.1 (2 + 5 * m_2)), .int (Z.2.1 (3 + 5 * m_2))])), (ad (5 + 5 * m_2), .inl (ay 0, 100, .inl (Z.2.2 (2 * m_2 + 1))))]) (dW_mo ay ad Z h2_0).symm ?_
  refine j_ocallV F (dW_mh ay ad Z h2_0) kX9_63 (As := [.int (nI y_8), .int (nI z_12)]) (rest := []) (c_X7_store l D ay (ad (1 + 5 * m_2)) (ad (2 + 5 * m_2)) (ad (3 + 5 * m_2)) (ad (4 + 5 * m_2)) (ad (5 + 5 * m_2)) (Z.1 m_2) (Z.2.2 (2 * m_2)) (Z.2.1 (1 + 5 * m_2)) (Z.2.1 (2 + 5 * m_2)) (Z.2.1 (3 + 5 * m_2)) (Z.2.2 (2 * m_2 + 1)) (Z.1 (12 + m_2)) (Z.2.1 (4 + 5 * m_2)) (Z.2.1 (5 + 5 * m_2)) y_8 (nI z_12) hm.n h8_0 (hm.1.q h8_0) hm.b (hm.1.z h8_0)) 0 0 5 rfl rfl rfl rfl rfl rfl rfl rfl rfl ⟨Nat.le_of_ble_eq_true rfl, Nat.le_of_ble_eq_true rfl⟩ dX9_put_19 (fun v w hw => ?_)
  obtain ⟨rfl, rfl⟩ := hw
  refine ⟨rfl, [(ad (1 + 5 * m_2), .inr (7, [.ref (ad (2 + 5 * m_2)), .ref (ad (4 + 5 * m_2)), .ref (ad (5 + 5 * m_2)), .int (nI (Z.1 (12 + m_2))), .int (if usN (Z.2.2 (2 * m_2)) (Z.1 m_2) (nI y_8) ≤ (Z.1 (12 + m_2)) then (Z.2.1 (4 + 5 * m_2)) else (Z.2.1 (4 + 5 * m_2)) + 1), .int (if usN (Z.2.2 (2 * m_2)) (Z.1 m_2) (nI y_8) ≤ (Z.1 (12 + m_2)) then (Z.2.1 (5 + 5 * m_2)) else usF (Z.2.2 (2 * m_2)) (Z.1 m_2) (nI y_8) 0)])), (ad (2 + 5 * m_2), .inr (8, [.ref (ad (3 + 5 * m_2)), .int (nI (stN (Z.2.2 (2 * m_2)) (Z.1 m_2) (nI y_8) (Z.1 (12 + m_2))))])), (ad (3 + 5 * m_2), .inl (ay 0, 100, .inl (stF (Z.2.2 (2 * m_2)) (Z.1 m_2) (nI y_8) (Z.1 (12 + m_2))))), (ad (4 + 5 * m_2), .inr (1, [.int 0, .int (Z.2.1 (2 + 5 * m_2)), .int (Z.2.1 (3 + 5 * m_2))])), (ad (5 + 5 * m_2), .inl (ay 0, 100, .inl (upd (Z.2.2 (2 * m_2 + 1)) y_8 (nI z_12))))], rfl, ?_⟩
  exact j_xr (j_iret F ⟨m_2, y_8, z_12, h2_0, h8_0, h12_0, rfl, rfl, rfl, rfl, dW_mc ay ad Z h2_0 ..⟩ dX9_put_22 (Nat.le_of_ble_eq_true rfl) (Nat.le_of_ble_eq_true rfl))

set_option maxHeartbeats 4000000 in
set_option maxRecDepth 100000 in
theorem c_X9_putIfAbsent (l : Launch) (hfl : l.stackTraces = false) (D : va_G) (ay : Nat → ClassId) (sa : Nat → Nat) (ad : Nat → Nat) (Z : DS) (mp : Int32) (ky : Int32) (vl : Int32) (hI : ∀ m, m < 2 → mI Z m) : jMx l yX9_putIfAbsent (jws yX9_putIfAbsent cX9_putIfAbsent 5 (some .int)) 8 143 3 18 D ay sa [.ref (ad 0), .int mp, .int ky, .int vl] (dW ay ad Z) (fun v w => ∃ (m : Nat), ∃ (y : Nat), ∃ (z : Nat), m < 2 ∧ y < 100 ∧ z < 1000 ∧ mp = nI m ∧ ky = nI y ∧ vl = nI z ∧ v = some (.int (if fx (Z.2.2 (2 * m)) (nI y) (Z.1 m) < (Z.1 m) then (Z.2.2 (2 * m + 1)) y else -1)) ∧ w = (dW ay ad (mU Z m (stN (Z.2.2 (2 * m)) (Z.1 m) (nI y) (Z.1 (12 + m))) (stF (Z.2.2 (2 * m)) (Z.1 m) (nI y) (Z.1 (12 + m))) 0 (Z.2.1 (2 + 5 * m)) (Z.2.1 (3 + 5 * m)) (upd (Z.2.2 (2 * m + 1)) y (if fx (Z.2.2 (2 * m)) (nI y) (Z.1 m) < (Z.1 m) then (Z.2.2 (2 * m + 1)) y else (nI z))) (Z.1 (12 + m)) (if usN (Z.2.2 (2 * m)) (Z.1 m) (nI y) ≤ (Z.1 (12 + m)) then (Z.2.1 (4 + 5 * m)) else (Z.2.1 (4 + 5 * m)) + 1) (if usN (Z.2.2 (2 * m)) (Z.1 m) (nI y) ≤ (Z.1 (12 + m)) then (Z.2.1 (5 + 5 * m)) else usF (Z.2.2 (2 * m)) (Z.1 m) (nI y) 0)))) (fun E w => (E = eIA ∧ (oob mp 0 1 ∨ oob ky 0 99 ∨ oob vl 0 999) ∧ w = (dW ay ad Z))) := by
  refine jMx_of l hfl (by decide) [(0, .ref (ad 0)), (1, .int mp), (2, .int ky), (3, .int vl)] rfl rfl (fun p9 e9 s9 m9 a9 b9 me9 c9 A9 F hX hT => ?_)
  refine j_aload_n F 0 dX9_putIfAbsent_0 rfl ?_
  refine j_iload_n F 1 dX9_putIfAbsent_1 rfl ?_
  refine j_sxcallV F hX hT kX9_53 (As := [.int mp]) (rest := []) (c_X9_chosenMap l hfl D ay sa ad Z mp) 0 0 55 rfl rfl rfl rfl rfl rfl ⟨Nat.le_of_ble_eq_true rfl, Nat.le_of_ble_eq_true rfl⟩ dX9_putIfAbsent_2 ⟨Nat.le_of_ble_eq_true rfl, Nat.le_of_ble_eq_true rfl⟩ (fun E w h => ⟨h.2.2, ⟨h.1, Or.inl h.2.1, rfl⟩⟩) (fun v w hw => ?_)
  obtain ⟨m_2, h2_0, rfl, rfl, rfl⟩ := hw
  refine ⟨rfl, (dW ay ad Z), slp_all _ _ rfl, ?_⟩
  refine j_astore F 4 [(4, .ref (ad (1 + 5 * m_2))), (0, .ref (ad 0)), (1, .int (nI m_2)), (2, .int ky), (3, .int vl)] dX9_putIfAbsent_5 (by decide) rfl ?_
  refine j_iload_n F 3 dX9_putIfAbsent_7 rfl ?_
  refine j_excallS F hX hT kX9_57 (As := [.int ky]) (rest := []) (c_X9_requireKey l hfl D ay sa ky) rfl rfl rfl rfl ⟨Nat.le_of_ble_eq_true rfl, Nat.le_of_ble_eq_true rfl⟩ dX9_putIfAbsent_8 ⟨Nat.le_of_ble_eq_true rfl, Nat.le_of_ble_eq_true rfl⟩ (fun E w h => ⟨h.2.2, ⟨h.1, Or.inr (Or.inl h.2.1), rfl⟩⟩) (fun v w hw => ?_)
  obtain ⟨y_8, h8_0, rfl, rfl, rfl⟩ := hw
  refine ⟨rfl, ?_⟩
  refine j_iload_n F 4 dX9_putIfAbsent_11 rfl ?_
  refine j_excallS F hX hT kX9_60 (As := [.int vl]) (rest := []) (c_X9_requireValue l hfl D ay sa vl) rfl rfl rfl rfl ⟨Nat.le_of_ble_eq_true rfl, Nat.le_of_ble_eq_true rfl⟩ dX9_putIfAbsent_12 ⟨Nat.le_of_ble_eq_true rfl, Nat.le_of_ble_eq_true rfl⟩ (fun E w h => ⟨h.2.2, ⟨h.1, Or.inr (Or.inr h.2.1), rfl⟩⟩) (fun v w hw => ?_)
  obtain ⟨z_12, h12_0, rfl, rfl, rfl⟩ := hw
  refine ⟨rfl, ?_⟩
  have hm := hI m_2 h2_0
  refine j_aload F 0 dX9_putIfAbsent_15 rfl ?_
  refine j_iload_n F 3 dX9_putIfAbsent_17 rfl ?_
  refine j_iload_n F 4 dX9_putIfAbsent_18 rfl ?_
  refine j_ws (slp (1 + 5 * m_2) 5 (dW ay ad Z) [(ad (1 + 5 * m_2), .inr (7, [.ref (ad (2 + 5 * m_2)), .ref (ad (4 + 5 * m_2)), .ref (ad (5 + 5 * m_2)), .int (nI (Z.1 (12 + m_2))), .int (Z.2.1 (4 + 5 * m_2)), .int (Z.2.1 (5 + 5 * m_2))])), (ad (2 + 5 * m_2), .inr (8, [.ref (ad (3 + 5 * m_2)), .int (nI (Z.1 m_2))])), (ad (3 + 5 * m_2), .inl (ay 0, 100, .inl (Z.2.2 (2 * m_2)))), (ad (4 + 5 * m_2), .inr (1, [.int (Z.2.1 (1 + 5 * m_2)), .int (Z.2.1 (2 + 5 * m_2)), .int (Z.2.1 (3 + 5 * m_2))])), (ad (5 + 5 * m_2), .inl (ay 0, 100, .inl (Z.2.2 (2 * m_2 + 1))))]) (dW_mo ay ad Z h2_0).symm ?_
  refine j_ocallV F (dW_mh ay ad Z h2_0) kX9_67 (As := [.int (nI y_8), .int (nI z_12)]) (rest := []) (c_X7_storeIfMissing l D ay (ad (1 + 5 * m_2)) (ad (2 + 5 * m_2)) (ad (3 + 5 * m_2)) (ad (4 + 5 * m_2)) (ad (5 + 5 * m_2)) (Z.1 m_2) (Z.2.2 (2 * m_2)) (Z.2.1 (1 + 5 * m_2)) (Z.2.1 (2 + 5 * m_2)) (Z.2.1 (3 + 5 * m_2)) (Z.2.2 (2 * m_2 + 1)) (Z.1 (12 + m_2)) (Z.2.1 (4 + 5 * m_2)) (Z.2.1 (5 + 5 * m_2)) y_8 (nI z_12) hm.n h8_0 (hm.1.q h8_0) hm.b (hm.1.z h8_0) (hm.v h8_0)) 0 0 5 rfl rfl rfl rfl rfl rfl rfl rfl rfl ⟨Nat.le_of_ble_eq_true rfl, Nat.le_of_ble_eq_true rfl⟩ dX9_putIfAbsent_19 (fun v w hw => ?_)
  obtain ⟨rfl, rfl⟩ := hw
  refine ⟨rfl, [(ad (1 + 5 * m_2), .inr (7, [.ref (ad (2 + 5 * m_2)), .ref (ad (4 + 5 * m_2)), .ref (ad (5 + 5 * m_2)), .int (nI (Z.1 (12 + m_2))), .int (if usN (Z.2.2 (2 * m_2)) (Z.1 m_2) (nI y_8) ≤ (Z.1 (12 + m_2)) then (Z.2.1 (4 + 5 * m_2)) else (Z.2.1 (4 + 5 * m_2)) + 1), .int (if usN (Z.2.2 (2 * m_2)) (Z.1 m_2) (nI y_8) ≤ (Z.1 (12 + m_2)) then (Z.2.1 (5 + 5 * m_2)) else usF (Z.2.2 (2 * m_2)) (Z.1 m_2) (nI y_8) 0)])), (ad (2 + 5 * m_2), .inr (8, [.ref (ad (3 + 5 * m_2)), .int (nI (stN (Z.2.2 (2 * m_2)) (Z.1 m_2) (nI y_8) (Z.1 (12 + m_2))))])), (ad (3 + 5 * m_2), .inl (ay 0, 100, .inl (stF (Z.2.2 (2 * m_2)) (Z.1 m_2) (nI y_8) (Z.1 (12 + m_2))))), (ad (4 + 5 * m_2), .inr (1, [.int 0, .int (Z.2.1 (2 + 5 * m_2)), .int (Z.2.1 (3 + 5 * m_2))])), (ad (5 + 5 * m_2), .inl (ay 0, 100, .inl (upd (Z.2.2 (2 * m_2 + 1)) y_8 (if fx (Z.2.2 (2 * m_2)) (nI y_8) (Z.1 m_2) < (Z.1 m_2) then (Z.2.2 (2 * m_2 + 1)) y_8 else (nI z_12)))))], rfl, ?_⟩
  exact j_xr (j_iret F ⟨m_2, y_8, z_12, h2_0, h8_0, h12_0, rfl, rfl, rfl, rfl, dW_mc ay ad Z h2_0 ..⟩ dX9_putIfAbsent_22 (Nat.le_of_ble_eq_true rfl) (Nat.le_of_ble_eq_true rfl))

set_option maxHeartbeats 4000000 in
set_option maxRecDepth 100000 in
theorem c_X9_get (l : Launch) (hfl : l.stackTraces = false) (D : va_G) (ay : Nat → ClassId) (sa : Nat → Nat) (ad : Nat → Nat) (Z : DS) (mp : Int32) (ky : Int32) (hI : ∀ m, m < 2 → mI Z m) : jMx l yX9_get (jws yX9_get cX9_get 4 (some .int)) 8 143 3 18 D ay sa [.ref (ad 0), .int mp, .int ky] (dW ay ad Z) (fun v w => ∃ (m : Nat), ∃ (y : Nat), m < 2 ∧ y < 100 ∧ mp = nI m ∧ ky = nI y ∧ v = some (.int (if fx (Z.2.2 (2 * m)) (nI y) (Z.1 m) < (Z.1 m) then (Z.2.2 (2 * m + 1)) y else -1)) ∧ w = (dW ay ad (mU Z m (Z.1 m) (if fx (Z.2.2 (2 * m)) (nI y) (Z.1 m) < (Z.1 m) then usF (Z.2.2 (2 * m)) (Z.1 m) (nI y) else (Z.2.2 (2 * m))) 0 (Z.2.1 (2 + 5 * m)) (Z.2.1 (3 + 5 * m)) (Z.2.2 (2 * m + 1)) (Z.1 (12 + m)) (Z.2.1 (4 + 5 * m)) (Z.2.1 (5 + 5 * m))))) (fun E w => (E = eIA ∧ (oob mp 0 1 ∨ oob ky 0 99) ∧ w = (dW ay ad Z))) := by
  refine jMx_of l hfl (by decide) [(0, .ref (ad 0)), (1, .int mp), (2, .int ky)] rfl rfl (fun p9 e9 s9 m9 a9 b9 me9 c9 A9 F hX hT => ?_)
  refine j_aload_n F 0 dX9_get_0 rfl ?_
  refine j_iload_n F 1 dX9_get_1 rfl ?_
  refine j_sxcallV F hX hT kX9_53 (As := [.int mp]) (rest := []) (c_X9_chosenMap l hfl D ay sa ad Z mp) 0 0 55 rfl rfl rfl rfl rfl rfl ⟨Nat.le_of_ble_eq_true rfl, Nat.le_of_ble_eq_true rfl⟩ dX9_get_2 ⟨Nat.le_of_ble_eq_true rfl, Nat.le_of_ble_eq_true rfl⟩ (fun E w h => ⟨h.2.2, ⟨h.1, Or.inl h.2.1, rfl⟩⟩) (fun v w hw => ?_)
  obtain ⟨m_2, h2_0, rfl, rfl, rfl⟩ := hw
  refine ⟨rfl, (dW ay ad Z), slp_all _ _ rfl, ?_⟩
  refine j_astore_n F 3 [(3, .ref (ad (1 + 5 * m_2))), (0, .ref (ad 0)), (1, .int (nI m_2)), (2, .int ky)] dX9_get_5 rfl (by decide) rfl ?_
  refine j_iload_n F 3 dX9_get_6 rfl ?_
  refine j_excallS F hX hT kX9_57 (As := [.int ky]) (rest := []) (c_X9_requireKey l hfl D ay sa ky) rfl rfl rfl rfl ⟨Nat.le_of_ble_eq_true rfl, Nat.le_of_ble_eq_true rfl⟩ dX9_get_7 ⟨Nat.le_of_ble_eq_true rfl, Nat.le_of_ble_eq_true rfl⟩ (fun E w h => ⟨h.2.2, ⟨h.1, Or.inr h.2.1, rfl⟩⟩) (fun v w hw => ?_)
  obtain ⟨y_7, h7_0, rfl, rfl, rfl⟩ := hw
  refine ⟨rfl, ?_⟩
  have hm := hI m_2 h2_0
  refine j_aload_n F 0 dX9_get_10 rfl ?_
  refine j_iload_n F 3 dX9_get_11 rfl ?_
  refine j_ws (slp (1 + 5 * m_2) 5 (dW ay ad Z) [(ad (1 + 5 * m_2), .inr (7, [.ref (ad (2 + 5 * m_2)), .ref (ad (4 + 5 * m_2)), .ref (ad (5 + 5 * m_2)), .int (nI (Z.1 (12 + m_2))), .int (Z.2.1 (4 + 5 * m_2)), .int (Z.2.1 (5 + 5 * m_2))])), (ad (2 + 5 * m_2), .inr (8, [.ref (ad (3 + 5 * m_2)), .int (nI (Z.1 m_2))])), (ad (3 + 5 * m_2), .inl (ay 0, 100, .inl (Z.2.2 (2 * m_2)))), (ad (4 + 5 * m_2), .inr (1, [.int (Z.2.1 (1 + 5 * m_2)), .int (Z.2.1 (2 + 5 * m_2)), .int (Z.2.1 (3 + 5 * m_2))])), (ad (5 + 5 * m_2), .inl (ay 0, 100, .inl (Z.2.2 (2 * m_2 + 1))))]) (dW_mo ay ad Z h2_0).symm ?_
  refine j_ocallV F (dW_mh ay ad Z h2_0) kX9_70 (As := [.int (nI y_7)]) (rest := []) (c_X7_fetch l D ay (ad (1 + 5 * m_2)) (ad (2 + 5 * m_2)) (ad (3 + 5 * m_2)) (ad (4 + 5 * m_2)) (ad (5 + 5 * m_2)) (Z.1 m_2) (Z.2.2 (2 * m_2)) (Z.2.1 (1 + 5 * m_2)) (Z.2.1 (2 + 5 * m_2)) (Z.2.1 (3 + 5 * m_2)) (Z.2.2 (2 * m_2 + 1)) (Z.1 (12 + m_2)) (Z.2.1 (4 + 5 * m_2)) (Z.2.1 (5 + 5 * m_2)) y_7 hm.n h7_0 (hm.v h7_0)) 0 0 5 rfl rfl rfl rfl rfl rfl rfl rfl rfl ⟨Nat.le_of_ble_eq_true rfl, Nat.le_of_ble_eq_true rfl⟩ dX9_get_12 (fun v w hw => ?_)
  obtain ⟨rfl, rfl⟩ := hw
  refine ⟨rfl, [(ad (1 + 5 * m_2), .inr (7, [.ref (ad (2 + 5 * m_2)), .ref (ad (4 + 5 * m_2)), .ref (ad (5 + 5 * m_2)), .int (nI (Z.1 (12 + m_2))), .int (Z.2.1 (4 + 5 * m_2)), .int (Z.2.1 (5 + 5 * m_2))])), (ad (2 + 5 * m_2), .inr (8, [.ref (ad (3 + 5 * m_2)), .int (nI (Z.1 m_2))])), (ad (3 + 5 * m_2), .inl (ay 0, 100, .inl (if fx (Z.2.2 (2 * m_2)) (nI y_7) (Z.1 m_2) < (Z.1 m_2) then usF (Z.2.2 (2 * m_2)) (Z.1 m_2) (nI y_7) else (Z.2.2 (2 * m_2))))), (ad (4 + 5 * m_2), .inr (1, [.int 0, .int (Z.2.1 (2 + 5 * m_2)), .int (Z.2.1 (3 + 5 * m_2))])), (ad (5 + 5 * m_2), .inl (ay 0, 100, .inl (Z.2.2 (2 * m_2 + 1))))], rfl, ?_⟩
  exact j_xr (j_iret F ⟨m_2, y_7, h2_0, h7_0, rfl, rfl, rfl, dW_mc ay ad Z h2_0 ..⟩ dX9_get_15 (Nat.le_of_ble_eq_true rfl) (Nat.le_of_ble_eq_true rfl))

set_option maxHeartbeats 4000000 in
set_option maxRecDepth 100000 in
theorem c_X9_getOrDefault (l : Launch) (hfl : l.stackTraces = false) (D : va_G) (ay : Nat → ClassId) (sa : Nat → Nat) (ad : Nat → Nat) (Z : DS) (mp : Int32) (ky : Int32) (vl : Int32) (hI : ∀ m, m < 2 → mI Z m) : jMx l yX9_getOrDefault (jws yX9_getOrDefault cX9_getOrDefault 6 (some .int)) 8 143 3 18 D ay sa [.ref (ad 0), .int mp, .int ky, .int vl] (dW ay ad Z) (fun v w => ∃ (m : Nat), ∃ (y : Nat), m < 2 ∧ y < 100 ∧ mp = nI m ∧ ky = nI y ∧ v = some (.int (if fx (Z.2.2 (2 * m)) (nI y) (Z.1 m) < Z.1 m then Z.2.2 (2 * m + 1) y else vl)) ∧ w = (dW ay ad (mU Z m (Z.1 m) (if fx (Z.2.2 (2 * m)) (nI y) (Z.1 m) < (Z.1 m) then usF (Z.2.2 (2 * m)) (Z.1 m) (nI y) else (Z.2.2 (2 * m))) 0 (Z.2.1 (2 + 5 * m)) (Z.2.1 (3 + 5 * m)) (Z.2.2 (2 * m + 1)) (Z.1 (12 + m)) (Z.2.1 (4 + 5 * m)) (Z.2.1 (5 + 5 * m))))) (fun E w => (E = eIA ∧ (oob mp 0 1 ∨ oob ky 0 99) ∧ w = (dW ay ad Z))) := by
  refine jMx_of l hfl (by decide) [(0, .ref (ad 0)), (1, .int mp), (2, .int ky), (3, .int vl)] rfl rfl (fun p9 e9 s9 m9 a9 b9 me9 c9 A9 F hX hT => ?_)
  refine j_aload_n F 0 dX9_getOrDefault_0 rfl ?_
  refine j_iload_n F 1 dX9_getOrDefault_1 rfl ?_
  refine j_sxcallV F hX hT kX9_53 (As := [.int mp]) (rest := []) (c_X9_chosenMap l hfl D ay sa ad Z mp) 0 0 55 rfl rfl rfl rfl rfl rfl ⟨Nat.le_of_ble_eq_true rfl, Nat.le_of_ble_eq_true rfl⟩ dX9_getOrDefault_2 ⟨Nat.le_of_ble_eq_true rfl, Nat.le_of_ble_eq_true rfl⟩ (fun E w h => ⟨h.2.2, ⟨h.1, Or.inl h.2.1, rfl⟩⟩) (fun v w hw => ?_)
  obtain ⟨m_2, h2_0, rfl, rfl, rfl⟩ := hw
  refine ⟨rfl, (dW ay ad Z), slp_all _ _ rfl, ?_⟩
  refine j_astore F 4 [(4, .ref (ad (1 + 5 * m_2))), (0, .ref (ad 0)), (1, .int (nI m_2)), (2, .int ky), (3, .int vl)] dX9_getOrDefault_5 (by decide) rfl ?_
  refine j_iload_n F 3 dX9_getOrDefault_7 rfl ?_
  refine j_excallS F hX hT kX9_57 (As := [.int ky]) (rest := []) (c_X9_requireKey l hfl D ay sa ky) rfl rfl rfl rfl ⟨Nat.le_of_ble_eq_true rfl, Nat.le_of_ble_eq_true rfl⟩ dX9_getOrDefault_8 ⟨Nat.le_of_ble_eq_true rfl, Nat.le_of_ble_eq_true rfl⟩ (fun E w h => ⟨h.2.2, ⟨h.1, Or.inr h.2.1, rfl⟩⟩) (fun v w hw => ?_)
  obtain ⟨y_8, h8_0, rfl, rfl, rfl⟩ := hw
  refine ⟨rfl, ?_⟩
  have hm := hI m_2 h2_0
  refine j_aload F 0 dX9_getOrDefault_11 rfl ?_
  refine j_iload_n F 3 dX9_getOrDefault_13 rfl ?_
  refine j_ws (slp (1 + 5 * m_2) 5 (dW ay ad Z) [(ad (1 + 5 * m_2), .inr (7, [.ref (ad (2 + 5 * m_2)), .ref (ad (4 + 5 * m_2)), .ref (ad (5 + 5 * m_2)), .int (nI (Z.1 (12 + m_2))), .int (Z.2.1 (4 + 5 * m_2)), .int (Z.2.1 (5 + 5 * m_2))])), (ad (2 + 5 * m_2), .inr (8, [.ref (ad (3 + 5 * m_2)), .int (nI (Z.1 m_2))])), (ad (3 + 5 * m_2), .inl (ay 0, 100, .inl (Z.2.2 (2 * m_2)))), (ad (4 + 5 * m_2), .inr (1, [.int (Z.2.1 (1 + 5 * m_2)), .int (Z.2.1 (2 + 5 * m_2)), .int (Z.2.1 (3 + 5 * m_2))])), (ad (5 + 5 * m_2), .inl (ay 0, 100, .inl (Z.2.2 (2 * m_2 + 1))))]) (dW_mo ay ad Z h2_0).symm ?_
  refine j_ocallV F (dW_mh ay ad Z h2_0) kX9_70 (As := [.int (nI y_8)]) (rest := []) (c_X7_fetch l D ay (ad (1 + 5 * m_2)) (ad (2 + 5 * m_2)) (ad (3 + 5 * m_2)) (ad (4 + 5 * m_2)) (ad (5 + 5 * m_2)) (Z.1 m_2) (Z.2.2 (2 * m_2)) (Z.2.1 (1 + 5 * m_2)) (Z.2.1 (2 + 5 * m_2)) (Z.2.1 (3 + 5 * m_2)) (Z.2.2 (2 * m_2 + 1)) (Z.1 (12 + m_2)) (Z.2.1 (4 + 5 * m_2)) (Z.2.1 (5 + 5 * m_2)) y_8 hm.n h8_0 (hm.v h8_0)) 0 0 5 rfl rfl rfl rfl rfl rfl rfl rfl rfl ⟨Nat.le_of_ble_eq_true rfl, Nat.le_of_ble_eq_true rfl⟩ dX9_getOrDefault_14 (fun v w hw => ?_)
  obtain ⟨rfl, rfl⟩ := hw
  refine ⟨rfl, [(ad (1 + 5 * m_2), .inr (7, [.ref (ad (2 + 5 * m_2)), .ref (ad (4 + 5 * m_2)), .ref (ad (5 + 5 * m_2)), .int (nI (Z.1 (12 + m_2))), .int (Z.2.1 (4 + 5 * m_2)), .int (Z.2.1 (5 + 5 * m_2))])), (ad (2 + 5 * m_2), .inr (8, [.ref (ad (3 + 5 * m_2)), .int (nI (Z.1 m_2))])), (ad (3 + 5 * m_2), .inl (ay 0, 100, .inl (if fx (Z.2.2 (2 * m_2)) (nI y_8) (Z.1 m_2) < (Z.1 m_2) then usF (Z.2.2 (2 * m_2)) (Z.1 m_2) (nI y_8) else (Z.2.2 (2 * m_2))))), (ad (4 + 5 * m_2), .inr (1, [.int 0, .int (Z.2.1 (2 + 5 * m_2)), .int (Z.2.1 (3 + 5 * m_2))])), (ad (5 + 5 * m_2), .inl (ay 0, 100, .inl (Z.2.2 (2 * m_2 + 1))))], rfl, ?_⟩
  by_cases hf : fx (Z.2.2 (2 * m_2)) (nI y_8) (Z.1 m_2) < Z.1 m_2
  · skip
    refine j_top (Z.2.2 (2 * m_2 + 1) y_8) (if_pos hf) ?_
    refine j_istore F 5 [(5, .int (Z.2.2 (2 * m_2 + 1) y_8)), (4, .ref (ad (1 + 5 * m_2))), (0, .ref (ad 0)), (1, .int (nI m_2)), (2, .int (nI y_8)), (3, .int vl)] dX9_getOrDefault_17 (by decide) rfl ?_
    refine j_iload F 0 dX9_getOrDefault_19 rfl ?_
    refine j_iconst F (v := (-1)) dX9_getOrDefault_21 (by decide) ?_
    refine j_icmp_ne F 29 dX9_getOrDefault_22 (by decide) (fun c_22 => ?_) (fun c_22 => absurd c_22 (hm.v h8_0 hf))
    refine j_iload F 0 dX9_getOrDefault_29 rfl ?_
    exact j_xr (j_iret F ⟨m_2, y_8, h2_0, h8_0, rfl, rfl, by rw [if_pos hf], dW_mc ay ad Z h2_0 ..⟩ dX9_getOrDefault_31 (Nat.le_of_ble_eq_true rfl) (Nat.le_of_ble_eq_true rfl))
  · skip
    refine j_top (-1) (if_neg hf) ?_
    refine j_istore F 5 [(5, .int (-1)), (4, .ref (ad (1 + 5 * m_2))), (0, .ref (ad 0)), (1, .int (nI m_2)), (2, .int (nI y_8)), (3, .int vl)] dX9_getOrDefault_17 (by decide) rfl ?_
    refine j_iload F 0 dX9_getOrDefault_19 rfl ?_
    refine j_iconst F (v := (-1)) dX9_getOrDefault_21 (by decide) ?_
    refine j_icmp_ne F 29 dX9_getOrDefault_22 (by decide) (fun c_22 => absurd rfl c_22) (fun c_22 => ?_)
    refine j_iload_n F 5 dX9_getOrDefault_25 rfl ?_
    refine j_goto F 31 dX9_getOrDefault_26 (by decide) ?_
    exact j_xr (j_iret F ⟨m_2, y_8, h2_0, h8_0, rfl, rfl, by rw [if_neg hf], dW_mc ay ad Z h2_0 ..⟩ dX9_getOrDefault_31 (Nat.le_of_ble_eq_true rfl) (Nat.le_of_ble_eq_true rfl))

set_option maxHeartbeats 4000000 in
set_option maxRecDepth 100000 in
theorem c_X9_remove (l : Launch) (hfl : l.stackTraces = false) (D : va_G) (ay : Nat → ClassId) (sa : Nat → Nat) (ad : Nat → Nat) (Z : DS) (mp : Int32) (ky : Int32) (hI : ∀ m, m < 2 → mI Z m) : jMx l yX9_remove (jws yX9_remove cX9_remove 4 (some .int)) 8 143 3 18 D ay sa [.ref (ad 0), .int mp, .int ky] (dW ay ad Z) (fun v w => ∃ (m : Nat), ∃ (y : Nat), m < 2 ∧ y < 100 ∧ mp = nI m ∧ ky = nI y ∧ v = some (.int (if fx (Z.2.2 (2 * m)) (nI y) (Z.1 m) < (Z.1 m) then (Z.2.2 (2 * m + 1)) y else -1)) ∧ w = (dW ay ad (mU Z m (if fx (Z.2.2 (2 * m)) (nI y) (Z.1 m) < (Z.1 m) then (Z.1 m) - 1 else (Z.1 m)) (if fx (Z.2.2 (2 * m)) (nI y) (Z.1 m) < (Z.1 m) then shf (Z.2.2 (2 * m)) (fx (Z.2.2 (2 * m)) (nI y) (Z.1 m)) (Z.1 m) else (Z.2.2 (2 * m))) 0 (Z.2.1 (2 + 5 * m)) (Z.2.1 (3 + 5 * m)) (Z.2.2 (2 * m + 1)) (Z.1 (12 + m)) (Z.2.1 (4 + 5 * m)) (Z.2.1 (5 + 5 * m))))) (fun E w => (E = eIA ∧ (oob mp 0 1 ∨ oob ky 0 99) ∧ w = (dW ay ad Z))) := by
  refine jMx_of l hfl (by decide) [(0, .ref (ad 0)), (1, .int mp), (2, .int ky)] rfl rfl (fun p9 e9 s9 m9 a9 b9 me9 c9 A9 F hX hT => ?_)
  refine j_aload_n F 0 dX9_remove_0 rfl ?_
  refine j_iload_n F 1 dX9_remove_1 rfl ?_
  refine j_sxcallV F hX hT kX9_53 (As := [.int mp]) (rest := []) (c_X9_chosenMap l hfl D ay sa ad Z mp) 0 0 55 rfl rfl rfl rfl rfl rfl ⟨Nat.le_of_ble_eq_true rfl, Nat.le_of_ble_eq_true rfl⟩ dX9_remove_2 ⟨Nat.le_of_ble_eq_true rfl, Nat.le_of_ble_eq_true rfl⟩ (fun E w h => ⟨h.2.2, ⟨h.1, Or.inl h.2.1, rfl⟩⟩) (fun v w hw => ?_)
  obtain ⟨m_2, h2_0, rfl, rfl, rfl⟩ := hw
  refine ⟨rfl, (dW ay ad Z), slp_all _ _ rfl, ?_⟩
  refine j_astore_n F 3 [(3, .ref (ad (1 + 5 * m_2))), (0, .ref (ad 0)), (1, .int (nI m_2)), (2, .int ky)] dX9_remove_5 rfl (by decide) rfl ?_
  refine j_iload_n F 3 dX9_remove_6 rfl ?_
  refine j_excallS F hX hT kX9_57 (As := [.int ky]) (rest := []) (c_X9_requireKey l hfl D ay sa ky) rfl rfl rfl rfl ⟨Nat.le_of_ble_eq_true rfl, Nat.le_of_ble_eq_true rfl⟩ dX9_remove_7 ⟨Nat.le_of_ble_eq_true rfl, Nat.le_of_ble_eq_true rfl⟩ (fun E w h => ⟨h.2.2, ⟨h.1, Or.inr h.2.1, rfl⟩⟩) (fun v w hw => ?_)
  obtain ⟨y_7, h7_0, rfl, rfl, rfl⟩ := hw
  refine ⟨rfl, ?_⟩
  have hm := hI m_2 h2_0
  refine j_aload_n F 0 dX9_remove_10 rfl ?_
  refine j_iload_n F 3 dX9_remove_11 rfl ?_
  refine j_ws (slp (1 + 5 * m_2) 5 (dW ay ad Z) [(ad (1 + 5 * m_2), .inr (7, [.ref (ad (2 + 5 * m_2)), .ref (ad (4 + 5 * m_2)), .ref (ad (5 + 5 * m_2)), .int (nI (Z.1 (12 + m_2))), .int (Z.2.1 (4 + 5 * m_2)), .int (Z.2.1 (5 + 5 * m_2))])), (ad (2 + 5 * m_2), .inr (8, [.ref (ad (3 + 5 * m_2)), .int (nI (Z.1 m_2))])), (ad (3 + 5 * m_2), .inl (ay 0, 100, .inl (Z.2.2 (2 * m_2)))), (ad (4 + 5 * m_2), .inr (1, [.int (Z.2.1 (1 + 5 * m_2)), .int (Z.2.1 (2 + 5 * m_2)), .int (Z.2.1 (3 + 5 * m_2))])), (ad (5 + 5 * m_2), .inl (ay 0, 100, .inl (Z.2.2 (2 * m_2 + 1))))]) (dW_mo ay ad Z h2_0).symm ?_
  refine j_ocallV F (dW_mh ay ad Z h2_0) kX9_74 (As := [.int (nI y_7)]) (rest := []) (c_X7_drop l D ay (ad (1 + 5 * m_2)) (ad (2 + 5 * m_2)) (ad (3 + 5 * m_2)) (ad (4 + 5 * m_2)) (ad (5 + 5 * m_2)) (Z.1 m_2) (Z.2.2 (2 * m_2)) (Z.2.1 (1 + 5 * m_2)) (Z.2.1 (2 + 5 * m_2)) (Z.2.1 (3 + 5 * m_2)) (Z.2.2 (2 * m_2 + 1)) (Z.1 (12 + m_2)) (Z.2.1 (4 + 5 * m_2)) (Z.2.1 (5 + 5 * m_2)) y_7 hm.n h7_0) 0 0 5 rfl rfl rfl rfl rfl rfl rfl rfl rfl ⟨Nat.le_of_ble_eq_true rfl, Nat.le_of_ble_eq_true rfl⟩ dX9_remove_12 (fun v w hw => ?_)
  obtain ⟨rfl, rfl⟩ := hw
  refine ⟨rfl, [(ad (1 + 5 * m_2), .inr (7, [.ref (ad (2 + 5 * m_2)), .ref (ad (4 + 5 * m_2)), .ref (ad (5 + 5 * m_2)), .int (nI (Z.1 (12 + m_2))), .int (Z.2.1 (4 + 5 * m_2)), .int (Z.2.1 (5 + 5 * m_2))])), (ad (2 + 5 * m_2), .inr (8, [.ref (ad (3 + 5 * m_2)), .int (nI (if fx (Z.2.2 (2 * m_2)) (nI y_7) (Z.1 m_2) < (Z.1 m_2) then (Z.1 m_2) - 1 else (Z.1 m_2)))])), (ad (3 + 5 * m_2), .inl (ay 0, 100, .inl (if fx (Z.2.2 (2 * m_2)) (nI y_7) (Z.1 m_2) < (Z.1 m_2) then shf (Z.2.2 (2 * m_2)) (fx (Z.2.2 (2 * m_2)) (nI y_7) (Z.1 m_2)) (Z.1 m_2) else (Z.2.2 (2 * m_2))))), (ad (4 + 5 * m_2), .inr (1, [.int 0, .int (Z.2.1 (2 + 5 * m_2)), .int (Z.2.1 (3 + 5 * m_2))])), (ad (5 + 5 * m_2), .inl (ay 0, 100, .inl (Z.2.2 (2 * m_2 + 1))))], rfl, ?_⟩
  exact j_xr (j_iret F ⟨m_2, y_7, h2_0, h7_0, rfl, rfl, rfl, dW_mc ay ad Z h2_0 ..⟩ dX9_remove_15 (Nat.le_of_ble_eq_true rfl) (Nat.le_of_ble_eq_true rfl))

set_option maxHeartbeats 4000000 in
set_option maxRecDepth 100000 in
theorem c_X9_clear (l : Launch) (hfl : l.stackTraces = false) (D : va_G) (ay : Nat → ClassId) (sa : Nat → Nat) (ad : Nat → Nat) (Z : DS) (mp : Int32) : jMx l yX9_clear (jws yX9_clear cX9_clear 2 (some .int)) 8 143 3 18 D ay sa [.ref (ad 0), .int mp] (dW ay ad Z) (fun v w => ∃ (m : Nat), m < 2 ∧ mp = nI m ∧ v = some (.int (nI (Z.1 m))) ∧ w = (dW ay ad (mU Z m 0 (Z.2.2 (2 * m)) 0 (Z.2.1 (2 + 5 * m)) (Z.2.1 (3 + 5 * m)) (Z.2.2 (2 * m + 1)) (Z.1 (12 + m)) (Z.2.1 (4 + 5 * m)) (Z.2.1 (5 + 5 * m))))) (fun E w => (E = eIA ∧ (oob mp 0 1) ∧ w = (dW ay ad Z))) := by
  refine jMx_of l hfl (by decide) [(0, .ref (ad 0)), (1, .int mp)] rfl rfl (fun p9 e9 s9 m9 a9 b9 me9 c9 A9 F hX hT => ?_)
  refine j_aload_n F 0 dX9_clear_0 rfl ?_
  refine j_iload_n F 1 dX9_clear_1 rfl ?_
  refine j_sxcallV F hX hT kX9_53 (As := [.int mp]) (rest := []) (c_X9_chosenMap l hfl D ay sa ad Z mp) 0 0 55 rfl rfl rfl rfl rfl rfl ⟨Nat.le_of_ble_eq_true rfl, Nat.le_of_ble_eq_true rfl⟩ dX9_clear_2 ⟨Nat.le_of_ble_eq_true rfl, Nat.le_of_ble_eq_true rfl⟩ (fun E w h => ⟨h.2.2, ⟨h.1, h.2.1, rfl⟩⟩) (fun v w hw => ?_)
  obtain ⟨m_2, h2_0, rfl, rfl, rfl⟩ := hw
  refine ⟨rfl, (dW ay ad Z), slp_all _ _ rfl, ?_⟩
  refine j_ws (slp (1 + 5 * m_2) 5 (dW ay ad Z) [(ad (1 + 5 * m_2), .inr (7, [.ref (ad (2 + 5 * m_2)), .ref (ad (4 + 5 * m_2)), .ref (ad (5 + 5 * m_2)), .int (nI (Z.1 (12 + m_2))), .int (Z.2.1 (4 + 5 * m_2)), .int (Z.2.1 (5 + 5 * m_2))])), (ad (2 + 5 * m_2), .inr (8, [.ref (ad (3 + 5 * m_2)), .int (nI (Z.1 m_2))])), (ad (3 + 5 * m_2), .inl (ay 0, 100, .inl (Z.2.2 (2 * m_2)))), (ad (4 + 5 * m_2), .inr (1, [.int (Z.2.1 (1 + 5 * m_2)), .int (Z.2.1 (2 + 5 * m_2)), .int (Z.2.1 (3 + 5 * m_2))])), (ad (5 + 5 * m_2), .inl (ay 0, 100, .inl (Z.2.2 (2 * m_2 + 1))))]) (dW_mo ay ad Z h2_0).symm ?_
  refine j_ocallV F (dW_mh ay ad Z h2_0) kX9_77 (As := []) (rest := []) (c_X7_dropAll l D ay (ad (1 + 5 * m_2)) (ad (2 + 5 * m_2)) (ad (3 + 5 * m_2)) (ad (4 + 5 * m_2)) (ad (5 + 5 * m_2)) (Z.1 m_2) (Z.2.2 (2 * m_2)) (Z.2.1 (1 + 5 * m_2)) (Z.2.1 (2 + 5 * m_2)) (Z.2.1 (3 + 5 * m_2)) (Z.2.2 (2 * m_2 + 1)) (Z.1 (12 + m_2)) (Z.2.1 (4 + 5 * m_2)) (Z.2.1 (5 + 5 * m_2))) 0 0 5 rfl rfl rfl rfl rfl rfl rfl rfl rfl ⟨Nat.le_of_ble_eq_true rfl, Nat.le_of_ble_eq_true rfl⟩ dX9_clear_5 (fun v w hw => ?_)
  obtain ⟨rfl, rfl⟩ := hw
  refine ⟨rfl, [(ad (1 + 5 * m_2), .inr (7, [.ref (ad (2 + 5 * m_2)), .ref (ad (4 + 5 * m_2)), .ref (ad (5 + 5 * m_2)), .int (nI (Z.1 (12 + m_2))), .int (Z.2.1 (4 + 5 * m_2)), .int (Z.2.1 (5 + 5 * m_2))])), (ad (2 + 5 * m_2), .inr (8, [.ref (ad (3 + 5 * m_2)), .int (nI 0)])), (ad (3 + 5 * m_2), .inl (ay 0, 100, .inl (Z.2.2 (2 * m_2)))), (ad (4 + 5 * m_2), .inr (1, [.int 0, .int (Z.2.1 (2 + 5 * m_2)), .int (Z.2.1 (3 + 5 * m_2))])), (ad (5 + 5 * m_2), .inl (ay 0, 100, .inl (Z.2.2 (2 * m_2 + 1))))], rfl, ?_⟩
  exact j_xr (j_iret F ⟨m_2, h2_0, rfl, rfl, dW_mc ay ad Z h2_0 ..⟩ dX9_clear_8 (Nat.le_of_ble_eq_true rfl) (Nat.le_of_ble_eq_true rfl))

set_option maxHeartbeats 4000000 in
set_option maxRecDepth 100000 in
theorem c_X9_setBound (l : Launch) (hfl : l.stackTraces = false) (D : va_G) (ay : Nat → ClassId) (sa : Nat → Nat) (ad : Nat → Nat) (Z : DS) (bd : Int32) : jMx l yX9_setBound (jws yX9_setBound cX9_setBound 2 (some .int)) 7 122 3 18 D ay sa [.ref (ad 0), .int bd] (dW ay ad Z) (fun v w => ∃ (b : Nat), 1 ≤ b ∧ b ≤ 20 ∧ bd = nI b ∧ v = some (.int (nI (Z.1 13))) ∧ w = (dW ay ad (mU Z 1 0 (Z.2.2 2) 0 (Z.2.1 7) (Z.2.1 8) (Z.2.2 3) b (Z.2.1 9) (Z.2.1 10)))) (fun E w => (E = eIA ∧ (oob bd 1 20) ∧ w = (dW ay ad Z))) := by
  refine jMx_of l hfl (by decide) [(0, .ref (ad 0)), (1, .int bd)] rfl rfl (fun p9 e9 s9 m9 a9 b9 me9 c9 A9 F hX hT => ?_)
  refine j_iload_n F 1 dX9_setBound_0 rfl ?_
  refine j_iconst F (v := 1) dX9_setBound_1 (by decide) ?_
  refine j_bipush F (v := 20) dX9_setBound_2 (by decide) ?_
  refine j_excallS F hX hT kX9_81 (As := [.int bd, .int 1, .int 20]) (rest := []) (c_X9_requireRange l hfl D ay sa bd 1 20) rfl rfl rfl rfl ⟨Nat.le_of_ble_eq_true rfl, Nat.le_of_ble_eq_true rfl⟩ dX9_setBound_4 ⟨Nat.le_of_ble_eq_true rfl, Nat.le_of_ble_eq_true rfl⟩ (fun E w h => ⟨h.2.2, ⟨h.1, h.2.1, rfl⟩⟩) (fun v w hw => ?_)
  obtain ⟨h4_0, rfl, rfl⟩ := hw
  refine ⟨rfl, ?_⟩
  obtain ⟨b, hb1, hb2, rfl⟩ := oob_nI 1 20 (by decide) (by decide) h4_0
  refine j_aload_n F 0 dX9_setBound_7 rfl ?_
  refine j_getf F fX9_18 0 rfl rfl dX9_setBound_8 ?_
  refine j_iload_n F 1 dX9_setBound_11 rfl ?_
  refine j_scallV F kX9_85 (As := [.int (nI b)]) (rest := []) (c_X7_changeBound l D ay (ad 6) (ad 7) (ad 8) (ad 9) (ad 10) (Z.1 1) (Z.2.2 2) (Z.2.1 6) (Z.2.1 7) (Z.2.1 8) (Z.2.2 3) (Z.1 13) (Z.2.1 9) (Z.2.1 10) (nI b)) 6 6 5 rfl rfl rfl rfl rfl rfl ⟨Nat.le_of_ble_eq_true rfl, Nat.le_of_ble_eq_true rfl⟩ dX9_setBound_12 (fun v w hw => ?_)
  obtain ⟨rfl, rfl⟩ := hw
  refine ⟨rfl, (dW ay ad (mU Z 1 0 (Z.2.2 2) 0 (Z.2.1 7) (Z.2.1 8) (Z.2.2 3) b (Z.2.1 9) (Z.2.1 10))), rfl, ?_⟩
  exact j_xr (j_iret F ⟨b, hb1, hb2, rfl, rfl, rfl⟩ dX9_setBound_15 (Nat.le_of_ble_eq_true rfl) (Nat.le_of_ble_eq_true rfl))

set_option maxHeartbeats 4000000 in
set_option maxRecDepth 100000 in
theorem c_X9_hasKey (l : Launch) (hfl : l.stackTraces = false) (D : va_G) (ay : Nat → ClassId) (sa : Nat → Nat) (ad : Nat → Nat) (Z : DS) (mp : Int32) (ky : Int32) (hI : ∀ m, m < 2 → mI Z m) : jMx l yX9_hasKey (jws yX9_hasKey cX9_hasKey 4 (some .boolean)) 8 143 3 18 D ay sa [.ref (ad 0), .int mp, .int ky] (dW ay ad Z) (fun v w => ∃ (m : Nat), ∃ (y : Nat), m < 2 ∧ y < 100 ∧ mp = nI m ∧ ky = nI y ∧ v = some (.int (if fx (Z.2.2 (2 * m)) (nI y) (Z.1 m) < Z.1 m then 1 else 0)) ∧ w = (dW ay ad Z)) (fun E w => (E = eIA ∧ (oob mp 0 1 ∨ oob ky 0 99) ∧ w = (dW ay ad Z))) := by
  refine jMx_of l hfl (by decide) [(0, .ref (ad 0)), (1, .int mp), (2, .int ky)] rfl rfl (fun p9 e9 s9 m9 a9 b9 me9 c9 A9 F hX hT => ?_)
  refine j_aload_n F 0 dX9_hasKey_0 rfl ?_
  refine j_iload_n F 1 dX9_hasKey_1 rfl ?_
  refine j_sxcallV F hX hT kX9_53 (As := [.int mp]) (rest := []) (c_X9_chosenMap l hfl D ay sa ad Z mp) 0 0 55 rfl rfl rfl rfl rfl rfl ⟨Nat.le_of_ble_eq_true rfl, Nat.le_of_ble_eq_true rfl⟩ dX9_hasKey_2 ⟨Nat.le_of_ble_eq_true rfl, Nat.le_of_ble_eq_true rfl⟩ (fun E w h => ⟨h.2.2, ⟨h.1, Or.inl h.2.1, rfl⟩⟩) (fun v w hw => ?_)
  obtain ⟨m_2, h2_0, rfl, rfl, rfl⟩ := hw
  refine ⟨rfl, (dW ay ad Z), slp_all _ _ rfl, ?_⟩
  refine j_astore_n F 3 [(3, .ref (ad (1 + 5 * m_2))), (0, .ref (ad 0)), (1, .int (nI m_2)), (2, .int ky)] dX9_hasKey_5 rfl (by decide) rfl ?_
  refine j_iload_n F 3 dX9_hasKey_6 rfl ?_
  refine j_excallS F hX hT kX9_57 (As := [.int ky]) (rest := []) (c_X9_requireKey l hfl D ay sa ky) rfl rfl rfl rfl ⟨Nat.le_of_ble_eq_true rfl, Nat.le_of_ble_eq_true rfl⟩ dX9_hasKey_7 ⟨Nat.le_of_ble_eq_true rfl, Nat.le_of_ble_eq_true rfl⟩ (fun E w h => ⟨h.2.2, ⟨h.1, Or.inr h.2.1, rfl⟩⟩) (fun v w hw => ?_)
  obtain ⟨y_7, h7_0, rfl, rfl, rfl⟩ := hw
  refine ⟨rfl, ?_⟩
  have hm := hI m_2 h2_0
  refine j_aload_n F 0 dX9_hasKey_10 rfl ?_
  refine j_iload_n F 3 dX9_hasKey_11 rfl ?_
  refine j_ws (slp (1 + 5 * m_2) 5 (dW ay ad Z) [(ad (1 + 5 * m_2), .inr (7, [.ref (ad (2 + 5 * m_2)), .ref (ad (4 + 5 * m_2)), .ref (ad (5 + 5 * m_2)), .int (nI (Z.1 (12 + m_2))), .int (Z.2.1 (4 + 5 * m_2)), .int (Z.2.1 (5 + 5 * m_2))])), (ad (2 + 5 * m_2), .inr (8, [.ref (ad (3 + 5 * m_2)), .int (nI (Z.1 m_2))])), (ad (3 + 5 * m_2), .inl (ay 0, 100, .inl (Z.2.2 (2 * m_2)))), (ad (4 + 5 * m_2), .inr (1, [.int (Z.2.1 (1 + 5 * m_2)), .int (Z.2.1 (2 + 5 * m_2)), .int (Z.2.1 (3 + 5 * m_2))])), (ad (5 + 5 * m_2), .inl (ay 0, 100, .inl (Z.2.2 (2 * m_2 + 1))))]) (dW_mo ay ad Z h2_0).symm ?_
  refine j_ocallV F (dW_mh ay ad Z h2_0) kX9_88 (As := [.int (nI y_7)]) (rest := []) (c_X7_lookUp l D ay (ad (1 + 5 * m_2)) (ad (2 + 5 * m_2)) (ad (3 + 5 * m_2)) (ad (4 + 5 * m_2)) (ad (5 + 5 * m_2)) (Z.1 m_2) (Z.2.2 (2 * m_2)) (Z.2.1 (1 + 5 * m_2)) (Z.2.1 (2 + 5 * m_2)) (Z.2.1 (3 + 5 * m_2)) (Z.2.2 (2 * m_2 + 1)) (Z.1 (12 + m_2)) (Z.2.1 (4 + 5 * m_2)) (Z.2.1 (5 + 5 * m_2)) y_7 hm.n h7_0) 0 0 5 rfl rfl rfl rfl rfl rfl rfl rfl rfl ⟨Nat.le_of_ble_eq_true rfl, Nat.le_of_ble_eq_true rfl⟩ dX9_hasKey_12 (fun v w hw => ?_)
  obtain ⟨rfl, rfl⟩ := hw
  refine ⟨rfl, [(ad (1 + 5 * m_2), .inr (7, [.ref (ad (2 + 5 * m_2)), .ref (ad (4 + 5 * m_2)), .ref (ad (5 + 5 * m_2)), .int (nI (Z.1 (12 + m_2))), .int (Z.2.1 (4 + 5 * m_2)), .int (Z.2.1 (5 + 5 * m_2))])), (ad (2 + 5 * m_2), .inr (8, [.ref (ad (3 + 5 * m_2)), .int (nI (Z.1 m_2))])), (ad (3 + 5 * m_2), .inl (ay 0, 100, .inl (Z.2.2 (2 * m_2)))), (ad (4 + 5 * m_2), .inr (1, [.int (Z.2.1 (1 + 5 * m_2)), .int (Z.2.1 (2 + 5 * m_2)), .int (Z.2.1 (3 + 5 * m_2))])), (ad (5 + 5 * m_2), .inl (ay 0, 100, .inl (Z.2.2 (2 * m_2 + 1))))], rfl, ?_⟩
  by_cases hf : fx (Z.2.2 (2 * m_2)) (nI y_7) (Z.1 m_2) < Z.1 m_2
  · skip
    refine j_top (Z.2.2 (2 * m_2 + 1) y_7) (if_pos hf) ?_
    refine j_iconst F (v := (-1)) dX9_hasKey_15 (by decide) ?_
    refine j_icmp_eq F 23 dX9_hasKey_16 (by decide) (fun c_16 => absurd c_16 (hm.v h7_0 hf)) (fun c_16 => ?_)
    refine j_iconst F (v := 1) dX9_hasKey_19 (by decide) ?_
    refine j_goto F 24 dX9_hasKey_20 (by decide) ?_
    exact j_xr (j_zret F (Or.inr rfl) ⟨m_2, y_7, h2_0, h7_0, rfl, rfl, by rw [if_pos hf], dW_mo ay ad Z h2_0⟩ dX9_hasKey_24 (Nat.le_of_ble_eq_true rfl) (Nat.le_of_ble_eq_true rfl))
  · skip
    refine j_top (-1) (if_neg hf) ?_
    refine j_iconst F (v := (-1)) dX9_hasKey_15 (by decide) ?_
    refine j_icmp_eq F 23 dX9_hasKey_16 (by decide) (fun c_16 => ?_) (fun c_16 => absurd rfl c_16)
    refine j_iconst F (v := 0) dX9_hasKey_23 (by decide) ?_
    exact j_xr (j_zret F (Or.inl rfl) ⟨m_2, y_7, h2_0, h7_0, rfl, rfl, by rw [if_neg hf], dW_mo ay ad Z h2_0⟩ dX9_hasKey_24 (Nat.le_of_ble_eq_true rfl) (Nat.le_of_ble_eq_true rfl))

set_option maxHeartbeats 4000000 in
set_option maxRecDepth 100000 in
theorem c_X9_hasValue (l : Launch) (hfl : l.stackTraces = false) (D : va_G) (ay : Nat → ClassId) (sa : Nat → Nat) (ad : Nat → Nat) (Z : DS) (mp : Int32) (vl : Int32) (hI : ∀ m, m < 2 → mI Z m) : jMx l yX9_hasValue (jws yX9_hasValue cX9_hasValue 4 (some .boolean)) 8 143 3 18 D ay sa [.ref (ad 0), .int mp, .int vl] (dW ay ad Z) (fun v w => ∃ (m : Nat), ∃ (z : Nat), m < 2 ∧ z < 1000 ∧ mp = nI m ∧ vl = nI z ∧ v = some (.int (if fx (fun j => Z.2.2 (2 * m + 1) (kN (Z.2.2 (2 * m)) j)) (nI z) (Z.1 m) < Z.1 m then 1 else 0)) ∧ w = (dW ay ad Z)) (fun E w => (E = eIA ∧ (oob mp 0 1 ∨ oob vl 0 999) ∧ w = (dW ay ad Z))) := by
  refine jMx_of l hfl (by decide) [(0, .ref (ad 0)), (1, .int mp), (2, .int vl)] rfl rfl (fun p9 e9 s9 m9 a9 b9 me9 c9 A9 F hX hT => ?_)
  refine j_aload_n F 0 dX9_hasValue_0 rfl ?_
  refine j_iload_n F 1 dX9_hasValue_1 rfl ?_
  refine j_sxcallV F hX hT kX9_53 (As := [.int mp]) (rest := []) (c_X9_chosenMap l hfl D ay sa ad Z mp) 0 0 55 rfl rfl rfl rfl rfl rfl ⟨Nat.le_of_ble_eq_true rfl, Nat.le_of_ble_eq_true rfl⟩ dX9_hasValue_2 ⟨Nat.le_of_ble_eq_true rfl, Nat.le_of_ble_eq_true rfl⟩ (fun E w h => ⟨h.2.2, ⟨h.1, Or.inl h.2.1, rfl⟩⟩) (fun v w hw => ?_)
  obtain ⟨m_2, h2_0, rfl, rfl, rfl⟩ := hw
  refine ⟨rfl, (dW ay ad Z), slp_all _ _ rfl, ?_⟩
  refine j_astore_n F 3 [(3, .ref (ad (1 + 5 * m_2))), (0, .ref (ad 0)), (1, .int (nI m_2)), (2, .int vl)] dX9_hasValue_5 rfl (by decide) rfl ?_
  refine j_iload_n F 3 dX9_hasValue_6 rfl ?_
  refine j_excallS F hX hT kX9_60 (As := [.int vl]) (rest := []) (c_X9_requireValue l hfl D ay sa vl) rfl rfl rfl rfl ⟨Nat.le_of_ble_eq_true rfl, Nat.le_of_ble_eq_true rfl⟩ dX9_hasValue_7 ⟨Nat.le_of_ble_eq_true rfl, Nat.le_of_ble_eq_true rfl⟩ (fun E w h => ⟨h.2.2, ⟨h.1, Or.inr h.2.1, rfl⟩⟩) (fun v w hw => ?_)
  obtain ⟨z_7, h7_0, rfl, rfl, rfl⟩ := hw
  refine ⟨rfl, ?_⟩
  have hm := hI m_2 h2_0
  refine j_aload_n F 0 dX9_hasValue_10 rfl ?_
  refine j_iload_n F 3 dX9_hasValue_11 rfl ?_
  refine j_ws (slp (1 + 5 * m_2) 5 (dW ay ad Z) [(ad (1 + 5 * m_2), .inr (7, [.ref (ad (2 + 5 * m_2)), .ref (ad (4 + 5 * m_2)), .ref (ad (5 + 5 * m_2)), .int (nI (Z.1 (12 + m_2))), .int (Z.2.1 (4 + 5 * m_2)), .int (Z.2.1 (5 + 5 * m_2))])), (ad (2 + 5 * m_2), .inr (8, [.ref (ad (3 + 5 * m_2)), .int (nI (Z.1 m_2))])), (ad (3 + 5 * m_2), .inl (ay 0, 100, .inl (Z.2.2 (2 * m_2)))), (ad (4 + 5 * m_2), .inr (1, [.int (Z.2.1 (1 + 5 * m_2)), .int (Z.2.1 (2 + 5 * m_2)), .int (Z.2.1 (3 + 5 * m_2))])), (ad (5 + 5 * m_2), .inl (ay 0, 100, .inl (Z.2.2 (2 * m_2 + 1))))]) (dW_mo ay ad Z h2_0).symm ?_
  refine j_ocallV F (dW_mh ay ad Z h2_0) kX9_91 (As := [.int (nI z_7)]) (rest := []) (c_X7_holdsValue l D ay (ad (1 + 5 * m_2)) (ad (2 + 5 * m_2)) (ad (3 + 5 * m_2)) (ad (4 + 5 * m_2)) (ad (5 + 5 * m_2)) (Z.1 m_2) (Z.2.2 (2 * m_2)) (Z.2.1 (1 + 5 * m_2)) (Z.2.1 (2 + 5 * m_2)) (Z.2.1 (3 + 5 * m_2)) (Z.2.2 (2 * m_2 + 1)) (Z.1 (12 + m_2)) (Z.2.1 (4 + 5 * m_2)) (Z.2.1 (5 + 5 * m_2)) (kN (Z.2.2 (2 * m_2))) (nI z_7) hm.n hm.1.k) 0 0 5 rfl rfl rfl rfl rfl rfl rfl rfl rfl ⟨Nat.le_of_ble_eq_true rfl, Nat.le_of_ble_eq_true rfl⟩ dX9_hasValue_12 (fun v w hw => ?_)
  obtain ⟨rfl, rfl⟩ := hw
  refine ⟨rfl, [(ad (1 + 5 * m_2), .inr (7, [.ref (ad (2 + 5 * m_2)), .ref (ad (4 + 5 * m_2)), .ref (ad (5 + 5 * m_2)), .int (nI (Z.1 (12 + m_2))), .int (Z.2.1 (4 + 5 * m_2)), .int (Z.2.1 (5 + 5 * m_2))])), (ad (2 + 5 * m_2), .inr (8, [.ref (ad (3 + 5 * m_2)), .int (nI (Z.1 m_2))])), (ad (3 + 5 * m_2), .inl (ay 0, 100, .inl (Z.2.2 (2 * m_2)))), (ad (4 + 5 * m_2), .inr (1, [.int (Z.2.1 (1 + 5 * m_2)), .int (Z.2.1 (2 + 5 * m_2)), .int (Z.2.1 (3 + 5 * m_2))])), (ad (5 + 5 * m_2), .inl (ay 0, 100, .inl (Z.2.2 (2 * m_2 + 1))))], rfl, ?_⟩
  exact j_xr (j_zret F ite01 ⟨m_2, z_7, h2_0, h7_0, rfl, rfl, rfl, dW_mo ay ad Z h2_0⟩ dX9_hasValue_15 (Nat.le_of_ble_eq_true rfl) (Nat.le_of_ble_eq_true rfl))

set_option maxHeartbeats 4000000 in
set_option maxRecDepth 100000 in
theorem c_X9_size (l : Launch) (hfl : l.stackTraces = false) (D : va_G) (ay : Nat → ClassId) (sa : Nat → Nat) (ad : Nat → Nat) (Z : DS) (mp : Int32) : jMx l yX9_size (jws yX9_size cX9_size 2 (some .int)) 8 143 3 18 D ay sa [.ref (ad 0), .int mp] (dW ay ad Z) (fun v w => ∃ (m : Nat), m < 2 ∧ mp = nI m ∧ v = some (.int (nI (Z.1 m))) ∧ w = (dW ay ad Z)) (fun E w => (E = eIA ∧ (oob mp 0 1) ∧ w = (dW ay ad Z))) := by
  refine jMx_of l hfl (by decide) [(0, .ref (ad 0)), (1, .int mp)] rfl rfl (fun p9 e9 s9 m9 a9 b9 me9 c9 A9 F hX hT => ?_)
  refine j_aload_n F 0 dX9_size_0 rfl ?_
  refine j_iload_n F 1 dX9_size_1 rfl ?_
  refine j_sxcallV F hX hT kX9_53 (As := [.int mp]) (rest := []) (c_X9_chosenMap l hfl D ay sa ad Z mp) 0 0 55 rfl rfl rfl rfl rfl rfl ⟨Nat.le_of_ble_eq_true rfl, Nat.le_of_ble_eq_true rfl⟩ dX9_size_2 ⟨Nat.le_of_ble_eq_true rfl, Nat.le_of_ble_eq_true rfl⟩ (fun E w h => ⟨h.2.2, ⟨h.1, h.2.1, rfl⟩⟩) (fun v w hw => ?_)
  obtain ⟨m_2, h2_0, rfl, rfl, rfl⟩ := hw
  refine ⟨rfl, (dW ay ad Z), slp_all _ _ rfl, ?_⟩
  refine j_ws (slp (1 + 5 * m_2) 5 (dW ay ad Z) [(ad (1 + 5 * m_2), .inr (7, [.ref (ad (2 + 5 * m_2)), .ref (ad (4 + 5 * m_2)), .ref (ad (5 + 5 * m_2)), .int (nI (Z.1 (12 + m_2))), .int (Z.2.1 (4 + 5 * m_2)), .int (Z.2.1 (5 + 5 * m_2))])), (ad (2 + 5 * m_2), .inr (8, [.ref (ad (3 + 5 * m_2)), .int (nI (Z.1 m_2))])), (ad (3 + 5 * m_2), .inl (ay 0, 100, .inl (Z.2.2 (2 * m_2)))), (ad (4 + 5 * m_2), .inr (1, [.int (Z.2.1 (1 + 5 * m_2)), .int (Z.2.1 (2 + 5 * m_2)), .int (Z.2.1 (3 + 5 * m_2))])), (ad (5 + 5 * m_2), .inl (ay 0, 100, .inl (Z.2.2 (2 * m_2 + 1))))]) (dW_mo ay ad Z h2_0).symm ?_
  refine j_ocallV F (dW_mh ay ad Z h2_0) kX9_95 (As := []) (rest := []) (c_X7_keys l D ay (ad (1 + 5 * m_2)) (ad (2 + 5 * m_2)) (ad (3 + 5 * m_2)) (ad (4 + 5 * m_2)) (ad (5 + 5 * m_2)) (Z.1 m_2) (Z.2.2 (2 * m_2)) (Z.2.1 (1 + 5 * m_2)) (Z.2.1 (2 + 5 * m_2)) (Z.2.1 (3 + 5 * m_2)) (Z.2.2 (2 * m_2 + 1)) (Z.1 (12 + m_2)) (Z.2.1 (4 + 5 * m_2)) (Z.2.1 (5 + 5 * m_2))) 0 0 5 rfl rfl rfl rfl rfl rfl rfl rfl rfl ⟨Nat.le_of_ble_eq_true rfl, Nat.le_of_ble_eq_true rfl⟩ dX9_size_5 (fun v w hw => ?_)
  obtain ⟨rfl, rfl⟩ := hw
  refine ⟨rfl, [(ad (1 + 5 * m_2), .inr (7, [.ref (ad (2 + 5 * m_2)), .ref (ad (4 + 5 * m_2)), .ref (ad (5 + 5 * m_2)), .int (nI (Z.1 (12 + m_2))), .int (Z.2.1 (4 + 5 * m_2)), .int (Z.2.1 (5 + 5 * m_2))])), (ad (2 + 5 * m_2), .inr (8, [.ref (ad (3 + 5 * m_2)), .int (nI (Z.1 m_2))])), (ad (3 + 5 * m_2), .inl (ay 0, 100, .inl (Z.2.2 (2 * m_2)))), (ad (4 + 5 * m_2), .inr (1, [.int (Z.2.1 (1 + 5 * m_2)), .int (Z.2.1 (2 + 5 * m_2)), .int (Z.2.1 (3 + 5 * m_2))])), (ad (5 + 5 * m_2), .inl (ay 0, 100, .inl (Z.2.2 (2 * m_2 + 1))))], rfl, ?_⟩
  refine j_ocallV F (dW_mh ay ad Z h2_0) kX9_99 (As := []) (rest := []) (c_X8_length l D ay (ad (2 + 5 * m_2)) (ad (3 + 5 * m_2)) (Z.1 m_2) (Z.2.2 (2 * m_2))) 1 1 2 rfl rfl rfl rfl rfl rfl rfl rfl rfl ⟨Nat.le_of_ble_eq_true rfl, Nat.le_of_ble_eq_true rfl⟩ dX9_size_8 (fun v w hw => ?_)
  obtain ⟨rfl, rfl⟩ := hw
  refine ⟨rfl, [(ad (1 + 5 * m_2), .inr (7, [.ref (ad (2 + 5 * m_2)), .ref (ad (4 + 5 * m_2)), .ref (ad (5 + 5 * m_2)), .int (nI (Z.1 (12 + m_2))), .int (Z.2.1 (4 + 5 * m_2)), .int (Z.2.1 (5 + 5 * m_2))])), (ad (2 + 5 * m_2), .inr (8, [.ref (ad (3 + 5 * m_2)), .int (nI (Z.1 m_2))])), (ad (3 + 5 * m_2), .inl (ay 0, 100, .inl (Z.2.2 (2 * m_2)))), (ad (4 + 5 * m_2), .inr (1, [.int (Z.2.1 (1 + 5 * m_2)), .int (Z.2.1 (2 + 5 * m_2)), .int (Z.2.1 (3 + 5 * m_2))])), (ad (5 + 5 * m_2), .inl (ay 0, 100, .inl (Z.2.2 (2 * m_2 + 1))))], rfl, ?_⟩
  exact j_xr (j_iret F ⟨m_2, h2_0, rfl, rfl, dW_mo ay ad Z h2_0⟩ dX9_size_11 (Nat.le_of_ble_eq_true rfl) (Nat.le_of_ble_eq_true rfl))

set_option maxHeartbeats 4000000 in
set_option maxRecDepth 100000 in
theorem c_X9_keyAt (l : Launch) (hfl : l.stackTraces = false) (D : va_G) (ay : Nat → ClassId) (sa : Nat → Nat) (ad : Nat → Nat) (Z : DS) (mp : Int32) (pc : Int32) (hI : ∀ m, m < 2 → mI Z m) : jMx l yX9_keyAt (jws yX9_keyAt cX9_keyAt 4 (some .int)) 8 143 3 18 D ay sa [.ref (ad 0), .int mp, .int pc] (dW ay ad Z) (fun v w => ∃ (m : Nat), ∃ (j : Nat), m < 2 ∧ j < Z.1 m ∧ mp = nI m ∧ pc = nI j ∧ v = some (.int (Z.2.2 (2 * m) j)) ∧ w = (dW ay ad Z)) (fun E w => (E = eIA ∧ (oob mp 0 1) ∧ w = (dW ay ad Z)) ∨ (E = eIO ∧ (∃ m, m < 2 ∧ mp = nI m ∧ oop pc (Z.1 m)) ∧ w = (dW ay ad Z))) := by
  refine jMx_of l hfl (by decide) [(0, .ref (ad 0)), (1, .int mp), (2, .int pc)] rfl rfl (fun p9 e9 s9 m9 a9 b9 me9 c9 A9 F hX hT => ?_)
  refine j_aload_n F 0 dX9_keyAt_0 rfl ?_
  refine j_iload_n F 1 dX9_keyAt_1 rfl ?_
  refine j_sxcallV F hX hT kX9_53 (As := [.int mp]) (rest := []) (c_X9_chosenMap l hfl D ay sa ad Z mp) 0 0 55 rfl rfl rfl rfl rfl rfl ⟨Nat.le_of_ble_eq_true rfl, Nat.le_of_ble_eq_true rfl⟩ dX9_keyAt_2 ⟨Nat.le_of_ble_eq_true rfl, Nat.le_of_ble_eq_true rfl⟩ (fun E w h => ⟨h.2.2, Or.inl ⟨h.1, h.2.1, rfl⟩⟩) (fun v w hw => ?_)
  obtain ⟨m_2, h2_0, rfl, rfl, rfl⟩ := hw
  refine ⟨rfl, (dW ay ad Z), slp_all _ _ rfl, ?_⟩
  refine j_ws (slp (1 + 5 * m_2) 5 (dW ay ad Z) [(ad (1 + 5 * m_2), .inr (7, [.ref (ad (2 + 5 * m_2)), .ref (ad (4 + 5 * m_2)), .ref (ad (5 + 5 * m_2)), .int (nI (Z.1 (12 + m_2))), .int (Z.2.1 (4 + 5 * m_2)), .int (Z.2.1 (5 + 5 * m_2))])), (ad (2 + 5 * m_2), .inr (8, [.ref (ad (3 + 5 * m_2)), .int (nI (Z.1 m_2))])), (ad (3 + 5 * m_2), .inl (ay 0, 100, .inl (Z.2.2 (2 * m_2)))), (ad (4 + 5 * m_2), .inr (1, [.int (Z.2.1 (1 + 5 * m_2)), .int (Z.2.1 (2 + 5 * m_2)), .int (Z.2.1 (3 + 5 * m_2))])), (ad (5 + 5 * m_2), .inl (ay 0, 100, .inl (Z.2.2 (2 * m_2 + 1))))]) (dW_mo ay ad Z h2_0).symm ?_
  refine j_ocallV F (dW_mh ay ad Z h2_0) kX9_95 (As := []) (rest := []) (c_X7_keys l D ay (ad (1 + 5 * m_2)) (ad (2 + 5 * m_2)) (ad (3 + 5 * m_2)) (ad (4 + 5 * m_2)) (ad (5 + 5 * m_2)) (Z.1 m_2) (Z.2.2 (2 * m_2)) (Z.2.1 (1 + 5 * m_2)) (Z.2.1 (2 + 5 * m_2)) (Z.2.1 (3 + 5 * m_2)) (Z.2.2 (2 * m_2 + 1)) (Z.1 (12 + m_2)) (Z.2.1 (4 + 5 * m_2)) (Z.2.1 (5 + 5 * m_2))) 0 0 5 rfl rfl rfl rfl rfl rfl rfl rfl rfl ⟨Nat.le_of_ble_eq_true rfl, Nat.le_of_ble_eq_true rfl⟩ dX9_keyAt_5 (fun v w hw => ?_)
  obtain ⟨rfl, rfl⟩ := hw
  refine ⟨rfl, [(ad (1 + 5 * m_2), .inr (7, [.ref (ad (2 + 5 * m_2)), .ref (ad (4 + 5 * m_2)), .ref (ad (5 + 5 * m_2)), .int (nI (Z.1 (12 + m_2))), .int (Z.2.1 (4 + 5 * m_2)), .int (Z.2.1 (5 + 5 * m_2))])), (ad (2 + 5 * m_2), .inr (8, [.ref (ad (3 + 5 * m_2)), .int (nI (Z.1 m_2))])), (ad (3 + 5 * m_2), .inl (ay 0, 100, .inl (Z.2.2 (2 * m_2)))), (ad (4 + 5 * m_2), .inr (1, [.int (Z.2.1 (1 + 5 * m_2)), .int (Z.2.1 (2 + 5 * m_2)), .int (Z.2.1 (3 + 5 * m_2))])), (ad (5 + 5 * m_2), .inl (ay 0, 100, .inl (Z.2.2 (2 * m_2 + 1))))], rfl, ?_⟩
  refine j_astore_n F 3 [(3, .ref (ad (2 + 5 * m_2))), (0, .ref (ad 0)), (1, .int (nI m_2)), (2, .int pc)] dX9_keyAt_8 rfl (by decide) rfl ?_
  have hm := hI m_2 h2_0
  refine j_iload_n F 3 dX9_keyAt_9 rfl ?_
  refine j_aload_n F 0 dX9_keyAt_10 rfl ?_
  refine j_ocallV F (dW_mh ay ad Z h2_0) kX9_99 (As := []) (rest := [.int pc]) (c_X8_length l D ay (ad (2 + 5 * m_2)) (ad (3 + 5 * m_2)) (Z.1 m_2) (Z.2.2 (2 * m_2))) 1 1 2 rfl rfl rfl rfl rfl rfl rfl rfl rfl ⟨Nat.le_of_ble_eq_true rfl, Nat.le_of_ble_eq_true rfl⟩ dX9_keyAt_11 (fun v w hw => ?_)
  obtain ⟨rfl, rfl⟩ := hw
  refine ⟨rfl, [(ad (1 + 5 * m_2), .inr (7, [.ref (ad (2 + 5 * m_2)), .ref (ad (4 + 5 * m_2)), .ref (ad (5 + 5 * m_2)), .int (nI (Z.1 (12 + m_2))), .int (Z.2.1 (4 + 5 * m_2)), .int (Z.2.1 (5 + 5 * m_2))])), (ad (2 + 5 * m_2), .inr (8, [.ref (ad (3 + 5 * m_2)), .int (nI (Z.1 m_2))])), (ad (3 + 5 * m_2), .inl (ay 0, 100, .inl (Z.2.2 (2 * m_2)))), (ad (4 + 5 * m_2), .inr (1, [.int (Z.2.1 (1 + 5 * m_2)), .int (Z.2.1 (2 + 5 * m_2)), .int (Z.2.1 (3 + 5 * m_2))])), (ad (5 + 5 * m_2), .inl (ay 0, 100, .inl (Z.2.2 (2 * m_2 + 1))))], rfl, ?_⟩
  refine j_ws (dW ay ad Z) (dW_mo ay ad Z h2_0) ?_
  refine j_excallS F hX hT kX9_104 (As := [.int pc, .int (nI (Z.1 m_2))]) (rest := []) (c_X9_requirePlace l hfl D ay sa pc (Z.1 m_2) (by have := hm.n; omega)) rfl rfl rfl rfl ⟨Nat.le_of_ble_eq_true rfl, Nat.le_of_ble_eq_true rfl⟩ dX9_keyAt_14 ⟨Nat.le_of_ble_eq_true rfl, Nat.le_of_ble_eq_true rfl⟩ (fun E w h => ⟨h.2.2, Or.inr (⟨h.1, ⟨m_2, h2_0, rfl, h.2.1⟩, rfl⟩)⟩) (fun v w hw => ?_)
  obtain ⟨j_14, h14_0, rfl, rfl, rfl⟩ := hw
  refine ⟨rfl, ?_⟩
  refine j_aload_n F 0 dX9_keyAt_17 rfl ?_
  refine j_iload_n F 3 dX9_keyAt_18 rfl ?_
  refine j_ws (slp (1 + 5 * m_2) 5 (dW ay ad Z) [(ad (1 + 5 * m_2), .inr (7, [.ref (ad (2 + 5 * m_2)), .ref (ad (4 + 5 * m_2)), .ref (ad (5 + 5 * m_2)), .int (nI (Z.1 (12 + m_2))), .int (Z.2.1 (4 + 5 * m_2)), .int (Z.2.1 (5 + 5 * m_2))])), (ad (2 + 5 * m_2), .inr (8, [.ref (ad (3 + 5 * m_2)), .int (nI (Z.1 m_2))])), (ad (3 + 5 * m_2), .inl (ay 0, 100, .inl (Z.2.2 (2 * m_2)))), (ad (4 + 5 * m_2), .inr (1, [.int (Z.2.1 (1 + 5 * m_2)), .int (Z.2.1 (2 + 5 * m_2)), .int (Z.2.1 (3 + 5 * m_2))])), (ad (5 + 5 * m_2), .inl (ay 0, 100, .inl (Z.2.2 (2 * m_2 + 1))))]) (dW_mo ay ad Z h2_0).symm ?_
  refine j_ocallV F (dW_mh ay ad Z h2_0) kX9_108 (As := [.int (nI j_14)]) (rest := []) (c_X8_keyIn l D ay (ad (2 + 5 * m_2)) (ad (3 + 5 * m_2)) (Z.1 m_2) (Z.2.2 (2 * m_2)) j_14 hm.n h14_0) 1 1 2 rfl rfl rfl rfl rfl rfl rfl rfl rfl ⟨Nat.le_of_ble_eq_true rfl, Nat.le_of_ble_eq_true rfl⟩ dX9_keyAt_19 (fun v w hw => ?_)
  obtain ⟨rfl, rfl⟩ := hw
  refine ⟨rfl, [(ad (1 + 5 * m_2), .inr (7, [.ref (ad (2 + 5 * m_2)), .ref (ad (4 + 5 * m_2)), .ref (ad (5 + 5 * m_2)), .int (nI (Z.1 (12 + m_2))), .int (Z.2.1 (4 + 5 * m_2)), .int (Z.2.1 (5 + 5 * m_2))])), (ad (2 + 5 * m_2), .inr (8, [.ref (ad (3 + 5 * m_2)), .int (nI (Z.1 m_2))])), (ad (3 + 5 * m_2), .inl (ay 0, 100, .inl (Z.2.2 (2 * m_2)))), (ad (4 + 5 * m_2), .inr (1, [.int (Z.2.1 (1 + 5 * m_2)), .int (Z.2.1 (2 + 5 * m_2)), .int (Z.2.1 (3 + 5 * m_2))])), (ad (5 + 5 * m_2), .inl (ay 0, 100, .inl (Z.2.2 (2 * m_2 + 1))))], rfl, ?_⟩
  exact j_xr (j_iret F ⟨m_2, j_14, h2_0, h14_0, rfl, rfl, rfl, dW_mo ay ad Z h2_0⟩ dX9_keyAt_22 (Nat.le_of_ble_eq_true rfl) (Nat.le_of_ble_eq_true rfl))

set_option maxHeartbeats 4000000 in
set_option maxRecDepth 100000 in
theorem c_X9_valueAt (l : Launch) (hfl : l.stackTraces = false) (D : va_G) (ay : Nat → ClassId) (sa : Nat → Nat) (ad : Nat → Nat) (Z : DS) (mp : Int32) (pc : Int32) (hI : ∀ m, m < 2 → mI Z m) : jMx l yX9_valueAt (jws yX9_valueAt cX9_valueAt 4 (some .int)) 8 143 3 18 D ay sa [.ref (ad 0), .int mp, .int pc] (dW ay ad Z) (fun v w => ∃ (m : Nat), ∃ (j : Nat), m < 2 ∧ j < Z.1 m ∧ mp = nI m ∧ pc = nI j ∧ v = some (.int (Z.2.2 (2 * m + 1) (kN (Z.2.2 (2 * m)) j))) ∧ w = (dW ay ad Z)) (fun E w => (E = eIA ∧ (oob mp 0 1) ∧ w = (dW ay ad Z)) ∨ (E = eIO ∧ (∃ m, m < 2 ∧ mp = nI m ∧ oop pc (Z.1 m)) ∧ w = (dW ay ad Z))) := by
  refine jMx_of l hfl (by decide) [(0, .ref (ad 0)), (1, .int mp), (2, .int pc)] rfl rfl (fun p9 e9 s9 m9 a9 b9 me9 c9 A9 F hX hT => ?_)
  refine j_aload_n F 0 dX9_valueAt_0 rfl ?_
  refine j_iload_n F 1 dX9_valueAt_1 rfl ?_
  refine j_sxcallV F hX hT kX9_53 (As := [.int mp]) (rest := []) (c_X9_chosenMap l hfl D ay sa ad Z mp) 0 0 55 rfl rfl rfl rfl rfl rfl ⟨Nat.le_of_ble_eq_true rfl, Nat.le_of_ble_eq_true rfl⟩ dX9_valueAt_2 ⟨Nat.le_of_ble_eq_true rfl, Nat.le_of_ble_eq_true rfl⟩ (fun E w h => ⟨h.2.2, Or.inl ⟨h.1, h.2.1, rfl⟩⟩) (fun v w hw => ?_)
  obtain ⟨m_2, h2_0, rfl, rfl, rfl⟩ := hw
  refine ⟨rfl, (dW ay ad Z), slp_all _ _ rfl, ?_⟩
  refine j_astore_n F 3 [(3, .ref (ad (1 + 5 * m_2))), (0, .ref (ad 0)), (1, .int (nI m_2)), (2, .int pc)] dX9_valueAt_5 rfl (by decide) rfl ?_
  have hm := hI m_2 h2_0
  refine j_iload_n F 3 dX9_valueAt_6 rfl ?_
  refine j_aload_n F 0 dX9_valueAt_7 rfl ?_
  refine j_ws (slp (1 + 5 * m_2) 5 (dW ay ad Z) [(ad (1 + 5 * m_2), .inr (7, [.ref (ad (2 + 5 * m_2)), .ref (ad (4 + 5 * m_2)), .ref (ad (5 + 5 * m_2)), .int (nI (Z.1 (12 + m_2))), .int (Z.2.1 (4 + 5 * m_2)), .int (Z.2.1 (5 + 5 * m_2))])), (ad (2 + 5 * m_2), .inr (8, [.ref (ad (3 + 5 * m_2)), .int (nI (Z.1 m_2))])), (ad (3 + 5 * m_2), .inl (ay 0, 100, .inl (Z.2.2 (2 * m_2)))), (ad (4 + 5 * m_2), .inr (1, [.int (Z.2.1 (1 + 5 * m_2)), .int (Z.2.1 (2 + 5 * m_2)), .int (Z.2.1 (3 + 5 * m_2))])), (ad (5 + 5 * m_2), .inl (ay 0, 100, .inl (Z.2.2 (2 * m_2 + 1))))]) (dW_mo ay ad Z h2_0).symm ?_
  refine j_ocallV F (dW_mh ay ad Z h2_0) kX9_95 (As := []) (rest := [.int pc]) (c_X7_keys l D ay (ad (1 + 5 * m_2)) (ad (2 + 5 * m_2)) (ad (3 + 5 * m_2)) (ad (4 + 5 * m_2)) (ad (5 + 5 * m_2)) (Z.1 m_2) (Z.2.2 (2 * m_2)) (Z.2.1 (1 + 5 * m_2)) (Z.2.1 (2 + 5 * m_2)) (Z.2.1 (3 + 5 * m_2)) (Z.2.2 (2 * m_2 + 1)) (Z.1 (12 + m_2)) (Z.2.1 (4 + 5 * m_2)) (Z.2.1 (5 + 5 * m_2))) 0 0 5 rfl rfl rfl rfl rfl rfl rfl rfl rfl ⟨Nat.le_of_ble_eq_true rfl, Nat.le_of_ble_eq_true rfl⟩ dX9_valueAt_8 (fun v w hw => ?_)
  obtain ⟨rfl, rfl⟩ := hw
  refine ⟨rfl, [(ad (1 + 5 * m_2), .inr (7, [.ref (ad (2 + 5 * m_2)), .ref (ad (4 + 5 * m_2)), .ref (ad (5 + 5 * m_2)), .int (nI (Z.1 (12 + m_2))), .int (Z.2.1 (4 + 5 * m_2)), .int (Z.2.1 (5 + 5 * m_2))])), (ad (2 + 5 * m_2), .inr (8, [.ref (ad (3 + 5 * m_2)), .int (nI (Z.1 m_2))])), (ad (3 + 5 * m_2), .inl (ay 0, 100, .inl (Z.2.2 (2 * m_2)))), (ad (4 + 5 * m_2), .inr (1, [.int (Z.2.1 (1 + 5 * m_2)), .int (Z.2.1 (2 + 5 * m_2)), .int (Z.2.1 (3 + 5 * m_2))])), (ad (5 + 5 * m_2), .inl (ay 0, 100, .inl (Z.2.2 (2 * m_2 + 1))))], rfl, ?_⟩
  refine j_ocallV F (dW_mh ay ad Z h2_0) kX9_99 (As := []) (rest := [.int pc]) (c_X8_length l D ay (ad (2 + 5 * m_2)) (ad (3 + 5 * m_2)) (Z.1 m_2) (Z.2.2 (2 * m_2))) 1 1 2 rfl rfl rfl rfl rfl rfl rfl rfl rfl ⟨Nat.le_of_ble_eq_true rfl, Nat.le_of_ble_eq_true rfl⟩ dX9_valueAt_11 (fun v w hw => ?_)
  obtain ⟨rfl, rfl⟩ := hw
  refine ⟨rfl, [(ad (1 + 5 * m_2), .inr (7, [.ref (ad (2 + 5 * m_2)), .ref (ad (4 + 5 * m_2)), .ref (ad (5 + 5 * m_2)), .int (nI (Z.1 (12 + m_2))), .int (Z.2.1 (4 + 5 * m_2)), .int (Z.2.1 (5 + 5 * m_2))])), (ad (2 + 5 * m_2), .inr (8, [.ref (ad (3 + 5 * m_2)), .int (nI (Z.1 m_2))])), (ad (3 + 5 * m_2), .inl (ay 0, 100, .inl (Z.2.2 (2 * m_2)))), (ad (4 + 5 * m_2), .inr (1, [.int (Z.2.1 (1 + 5 * m_2)), .int (Z.2.1 (2 + 5 * m_2)), .int (Z.2.1 (3 + 5 * m_2))])), (ad (5 + 5 * m_2), .inl (ay 0, 100, .inl (Z.2.2 (2 * m_2 + 1))))], rfl, ?_⟩
  refine j_ws (dW ay ad Z) (dW_mo ay ad Z h2_0) ?_
  refine j_excallS F hX hT kX9_104 (As := [.int pc, .int (nI (Z.1 m_2))]) (rest := []) (c_X9_requirePlace l hfl D ay sa pc (Z.1 m_2) (by have := hm.n; omega)) rfl rfl rfl rfl ⟨Nat.le_of_ble_eq_true rfl, Nat.le_of_ble_eq_true rfl⟩ dX9_valueAt_14 ⟨Nat.le_of_ble_eq_true rfl, Nat.le_of_ble_eq_true rfl⟩ (fun E w h => ⟨h.2.2, Or.inr (⟨h.1, ⟨m_2, h2_0, rfl, h.2.1⟩, rfl⟩)⟩) (fun v w hw => ?_)
  obtain ⟨j_14, h14_0, rfl, rfl, rfl⟩ := hw
  refine ⟨rfl, ?_⟩
  refine j_aload_n F 0 dX9_valueAt_17 rfl ?_
  refine j_iload_n F 3 dX9_valueAt_18 rfl ?_
  refine j_ws (slp (1 + 5 * m_2) 5 (dW ay ad Z) [(ad (1 + 5 * m_2), .inr (7, [.ref (ad (2 + 5 * m_2)), .ref (ad (4 + 5 * m_2)), .ref (ad (5 + 5 * m_2)), .int (nI (Z.1 (12 + m_2))), .int (Z.2.1 (4 + 5 * m_2)), .int (Z.2.1 (5 + 5 * m_2))])), (ad (2 + 5 * m_2), .inr (8, [.ref (ad (3 + 5 * m_2)), .int (nI (Z.1 m_2))])), (ad (3 + 5 * m_2), .inl (ay 0, 100, .inl (Z.2.2 (2 * m_2)))), (ad (4 + 5 * m_2), .inr (1, [.int (Z.2.1 (1 + 5 * m_2)), .int (Z.2.1 (2 + 5 * m_2)), .int (Z.2.1 (3 + 5 * m_2))])), (ad (5 + 5 * m_2), .inl (ay 0, 100, .inl (Z.2.2 (2 * m_2 + 1))))]) (dW_mo ay ad Z h2_0).symm ?_
  refine j_ocallV F (dW_mh ay ad Z h2_0) kX9_111 (As := [.int (nI j_14)]) (rest := []) (c_X7_valueIn l D ay (ad (1 + 5 * m_2)) (ad (2 + 5 * m_2)) (ad (3 + 5 * m_2)) (ad (4 + 5 * m_2)) (ad (5 + 5 * m_2)) (Z.1 m_2) (Z.2.2 (2 * m_2)) (Z.2.1 (1 + 5 * m_2)) (Z.2.1 (2 + 5 * m_2)) (Z.2.1 (3 + 5 * m_2)) (Z.2.2 (2 * m_2 + 1)) (Z.1 (12 + m_2)) (Z.2.1 (4 + 5 * m_2)) (Z.2.1 (5 + 5 * m_2)) j_14 (kN (Z.2.2 (2 * m_2)) j_14) hm.n h14_0 (hm.1.k _ h14_0).1 (hm.1.k _ h14_0).2) 0 0 5 rfl rfl rfl rfl rfl rfl rfl rfl rfl ⟨Nat.le_of_ble_eq_true rfl, Nat.le_of_ble_eq_true rfl⟩ dX9_valueAt_19 (fun v w hw => ?_)
  obtain ⟨rfl, rfl⟩ := hw
  refine ⟨rfl, [(ad (1 + 5 * m_2), .inr (7, [.ref (ad (2 + 5 * m_2)), .ref (ad (4 + 5 * m_2)), .ref (ad (5 + 5 * m_2)), .int (nI (Z.1 (12 + m_2))), .int (Z.2.1 (4 + 5 * m_2)), .int (Z.2.1 (5 + 5 * m_2))])), (ad (2 + 5 * m_2), .inr (8, [.ref (ad (3 + 5 * m_2)), .int (nI (Z.1 m_2))])), (ad (3 + 5 * m_2), .inl (ay 0, 100, .inl (Z.2.2 (2 * m_2)))), (ad (4 + 5 * m_2), .inr (1, [.int (Z.2.1 (1 + 5 * m_2)), .int (Z.2.1 (2 + 5 * m_2)), .int (Z.2.1 (3 + 5 * m_2))])), (ad (5 + 5 * m_2), .inl (ay 0, 100, .inl (Z.2.2 (2 * m_2 + 1))))], rfl, ?_⟩
  exact j_xr (j_iret F ⟨m_2, j_14, h2_0, h14_0, rfl, rfl, rfl, dW_mo ay ad Z h2_0⟩ dX9_valueAt_22 (Nat.le_of_ble_eq_true rfl) (Nat.le_of_ble_eq_true rfl))

set_option maxHeartbeats 4000000 in
set_option maxRecDepth 100000 in
theorem c_X9_placeOf (l : Launch) (hfl : l.stackTraces = false) (D : va_G) (ay : Nat → ClassId) (sa : Nat → Nat) (ad : Nat → Nat) (Z : DS) (mp : Int32) (ky : Int32) (hI : ∀ m, m < 2 → mI Z m) : jMx l yX9_placeOf (jws yX9_placeOf cX9_placeOf 4 (some .int)) 8 143 3 18 D ay sa [.ref (ad 0), .int mp, .int ky] (dW ay ad Z) (fun v w => ∃ (m : Nat), ∃ (y : Nat), m < 2 ∧ y < 100 ∧ mp = nI m ∧ ky = nI y ∧ v = some (.int (fxI (Z.2.2 (2 * m)) (nI y) (Z.1 m))) ∧ w = (dW ay ad Z)) (fun E w => (E = eIA ∧ (oob mp 0 1 ∨ oob ky 0 99) ∧ w = (dW ay ad Z))) := by
  refine jMx_of l hfl (by decide) [(0, .ref (ad 0)), (1, .int mp), (2, .int ky)] rfl rfl (fun p9 e9 s9 m9 a9 b9 me9 c9 A9 F hX hT => ?_)
  refine j_aload_n F 0 dX9_placeOf_0 rfl ?_
  refine j_iload_n F 1 dX9_placeOf_1 rfl ?_
  refine j_sxcallV F hX hT kX9_53 (As := [.int mp]) (rest := []) (c_X9_chosenMap l hfl D ay sa ad Z mp) 0 0 55 rfl rfl rfl rfl rfl rfl ⟨Nat.le_of_ble_eq_true rfl, Nat.le_of_ble_eq_true rfl⟩ dX9_placeOf_2 ⟨Nat.le_of_ble_eq_true rfl, Nat.le_of_ble_eq_true rfl⟩ (fun E w h => ⟨h.2.2, ⟨h.1, Or.inl h.2.1, rfl⟩⟩) (fun v w hw => ?_)
  obtain ⟨m_2, h2_0, rfl, rfl, rfl⟩ := hw
  refine ⟨rfl, (dW ay ad Z), slp_all _ _ rfl, ?_⟩
  refine j_astore_n F 3 [(3, .ref (ad (1 + 5 * m_2))), (0, .ref (ad 0)), (1, .int (nI m_2)), (2, .int ky)] dX9_placeOf_5 rfl (by decide) rfl ?_
  refine j_iload_n F 3 dX9_placeOf_6 rfl ?_
  refine j_excallS F hX hT kX9_57 (As := [.int ky]) (rest := []) (c_X9_requireKey l hfl D ay sa ky) rfl rfl rfl rfl ⟨Nat.le_of_ble_eq_true rfl, Nat.le_of_ble_eq_true rfl⟩ dX9_placeOf_7 ⟨Nat.le_of_ble_eq_true rfl, Nat.le_of_ble_eq_true rfl⟩ (fun E w h => ⟨h.2.2, ⟨h.1, Or.inr h.2.1, rfl⟩⟩) (fun v w hw => ?_)
  obtain ⟨y_7, h7_0, rfl, rfl, rfl⟩ := hw
  refine ⟨rfl, ?_⟩
  have hm := hI m_2 h2_0
  refine j_aload_n F 0 dX9_placeOf_10 rfl ?_
  refine j_ws (slp (1 + 5 * m_2) 5 (dW ay ad Z) [(ad (1 + 5 * m_2), .inr (7, [.ref (ad (2 + 5 * m_2)), .ref (ad (4 + 5 * m_2)), .ref (ad (5 + 5 * m_2)), .int (nI (Z.1 (12 + m_2))), .int (Z.2.1 (4 + 5 * m_2)), .int (Z.2.1 (5 + 5 * m_2))])), (ad (2 + 5 * m_2), .inr (8, [.ref (ad (3 + 5 * m_2)), .int (nI (Z.1 m_2))])), (ad (3 + 5 * m_2), .inl (ay 0, 100, .inl (Z.2.2 (2 * m_2)))), (ad (4 + 5 * m_2), .inr (1, [.int (Z.2.1 (1 + 5 * m_2)), .int (Z.2.1 (2 + 5 * m_2)), .int (Z.2.1 (3 + 5 * m_2))])), (ad (5 + 5 * m_2), .inl (ay 0, 100, .inl (Z.2.2 (2 * m_2 + 1))))]) (dW_mo ay ad Z h2_0).symm ?_
  refine j_ocallV F (dW_mh ay ad Z h2_0) kX9_95 (As := []) (rest := []) (c_X7_keys l D ay (ad (1 + 5 * m_2)) (ad (2 + 5 * m_2)) (ad (3 + 5 * m_2)) (ad (4 + 5 * m_2)) (ad (5 + 5 * m_2)) (Z.1 m_2) (Z.2.2 (2 * m_2)) (Z.2.1 (1 + 5 * m_2)) (Z.2.1 (2 + 5 * m_2)) (Z.2.1 (3 + 5 * m_2)) (Z.2.2 (2 * m_2 + 1)) (Z.1 (12 + m_2)) (Z.2.1 (4 + 5 * m_2)) (Z.2.1 (5 + 5 * m_2))) 0 0 5 rfl rfl rfl rfl rfl rfl rfl rfl rfl ⟨Nat.le_of_ble_eq_true rfl, Nat.le_of_ble_eq_true rfl⟩ dX9_placeOf_11 (fun v w hw => ?_)
  obtain ⟨rfl, rfl⟩ := hw
  refine ⟨rfl, [(ad (1 + 5 * m_2), .inr (7, [.ref (ad (2 + 5 * m_2)), .ref (ad (4 + 5 * m_2)), .ref (ad (5 + 5 * m_2)), .int (nI (Z.1 (12 + m_2))), .int (Z.2.1 (4 + 5 * m_2)), .int (Z.2.1 (5 + 5 * m_2))])), (ad (2 + 5 * m_2), .inr (8, [.ref (ad (3 + 5 * m_2)), .int (nI (Z.1 m_2))])), (ad (3 + 5 * m_2), .inl (ay 0, 100, .inl (Z.2.2 (2 * m_2)))), (ad (4 + 5 * m_2), .inr (1, [.int (Z.2.1 (1 + 5 * m_2)), .int (Z.2.1 (2 + 5 * m_2)), .int (Z.2.1 (3 + 5 * m_2))])), (ad (5 + 5 * m_2), .inl (ay 0, 100, .inl (Z.2.2 (2 * m_2 + 1))))], rfl, ?_⟩
  refine j_iload_n F 3 dX9_placeOf_14 rfl ?_
  refine j_ocallV F (dW_mh ay ad Z h2_0) kX9_114 (As := [.int (nI y_7)]) (rest := []) (c_X8_find l D ay (ad (2 + 5 * m_2)) (ad (3 + 5 * m_2)) (Z.1 m_2) (Z.2.2 (2 * m_2)) (nI y_7) hm.n) 1 1 2 rfl rfl rfl rfl rfl rfl rfl rfl rfl ⟨Nat.le_of_ble_eq_true rfl, Nat.le_of_ble_eq_true rfl⟩ dX9_placeOf_15 (fun v w hw => ?_)
  obtain ⟨rfl, rfl⟩ := hw
  refine ⟨rfl, [(ad (1 + 5 * m_2), .inr (7, [.ref (ad (2 + 5 * m_2)), .ref (ad (4 + 5 * m_2)), .ref (ad (5 + 5 * m_2)), .int (nI (Z.1 (12 + m_2))), .int (Z.2.1 (4 + 5 * m_2)), .int (Z.2.1 (5 + 5 * m_2))])), (ad (2 + 5 * m_2), .inr (8, [.ref (ad (3 + 5 * m_2)), .int (nI (Z.1 m_2))])), (ad (3 + 5 * m_2), .inl (ay 0, 100, .inl (Z.2.2 (2 * m_2)))), (ad (4 + 5 * m_2), .inr (1, [.int (Z.2.1 (1 + 5 * m_2)), .int (Z.2.1 (2 + 5 * m_2)), .int (Z.2.1 (3 + 5 * m_2))])), (ad (5 + 5 * m_2), .inl (ay 0, 100, .inl (Z.2.2 (2 * m_2 + 1))))], rfl, ?_⟩
  exact j_xr (j_iret F ⟨m_2, y_7, h2_0, h7_0, rfl, rfl, rfl, dW_mo ay ad Z h2_0⟩ dX9_placeOf_18 (Nat.le_of_ble_eq_true rfl) (Nat.le_of_ble_eq_true rfl))

set_option maxHeartbeats 4000000 in
set_option maxRecDepth 100000 in
theorem c_X9_sum (l : Launch) (hfl : l.stackTraces = false) (D : va_G) (ay : Nat → ClassId) (sa : Nat → Nat) (ad : Nat → Nat) (Z : DS) (mp : Int32) (hI : ∀ m, m < 2 → mI Z m) : jMx l yX9_sum (jws yX9_sum cX9_sum 2 (some .int)) 8 143 3 18 D ay sa [.ref (ad 0), .int mp] (dW ay ad Z) (fun v w => ∃ (m : Nat), m < 2 ∧ mp = nI m ∧ v = some (.int (sm (fun j => Z.2.2 (2 * m + 1) (kN (Z.2.2 (2 * m)) j)) (Z.1 m))) ∧ w = (dW ay ad Z)) (fun E w => (E = eIA ∧ (oob mp 0 1) ∧ w = (dW ay ad Z))) := by
  refine jMx_of l hfl (by decide) [(0, .ref (ad 0)), (1, .int mp)] rfl rfl (fun p9 e9 s9 m9 a9 b9 me9 c9 A9 F hX hT => ?_)
  refine j_aload_n F 0 dX9_sum_0 rfl ?_
  refine j_iload_n F 1 dX9_sum_1 rfl ?_
  refine j_sxcallV F hX hT kX9_53 (As := [.int mp]) (rest := []) (c_X9_chosenMap l hfl D ay sa ad Z mp) 0 0 55 rfl rfl rfl rfl rfl rfl ⟨Nat.le_of_ble_eq_true rfl, Nat.le_of_ble_eq_true rfl⟩ dX9_sum_2 ⟨Nat.le_of_ble_eq_true rfl, Nat.le_of_ble_eq_true rfl⟩ (fun E w h => ⟨h.2.2, ⟨h.1, h.2.1, rfl⟩⟩) (fun v w hw => ?_)
  obtain ⟨m_2, h2_0, rfl, rfl, rfl⟩ := hw
  refine ⟨rfl, (dW ay ad Z), slp_all _ _ rfl, ?_⟩
  have hm := hI m_2 h2_0
  refine j_ws (slp (1 + 5 * m_2) 5 (dW ay ad Z) [(ad (1 + 5 * m_2), .inr (7, [.ref (ad (2 + 5 * m_2)), .ref (ad (4 + 5 * m_2)), .ref (ad (5 + 5 * m_2)), .int (nI (Z.1 (12 + m_2))), .int (Z.2.1 (4 + 5 * m_2)), .int (Z.2.1 (5 + 5 * m_2))])), (ad (2 + 5 * m_2), .inr (8, [.ref (ad (3 + 5 * m_2)), .int (nI (Z.1 m_2))])), (ad (3 + 5 * m_2), .inl (ay 0, 100, .inl (Z.2.2 (2 * m_2)))), (ad (4 + 5 * m_2), .inr (1, [.int (Z.2.1 (1 + 5 * m_2)), .int (Z.2.1 (2 + 5 * m_2)), .int (Z.2.1 (3 + 5 * m_2))])), (ad (5 + 5 * m_2), .inl (ay 0, 100, .inl (Z.2.2 (2 * m_2 + 1))))]) (dW_mo ay ad Z h2_0).symm ?_
  refine j_ocallV F (dW_mh ay ad Z h2_0) kX9_117 (As := []) (rest := []) (c_X7_total l D ay (ad (1 + 5 * m_2)) (ad (2 + 5 * m_2)) (ad (3 + 5 * m_2)) (ad (4 + 5 * m_2)) (ad (5 + 5 * m_2)) (Z.1 m_2) (Z.2.2 (2 * m_2)) (Z.2.1 (1 + 5 * m_2)) (Z.2.1 (2 + 5 * m_2)) (Z.2.1 (3 + 5 * m_2)) (Z.2.2 (2 * m_2 + 1)) (Z.1 (12 + m_2)) (Z.2.1 (4 + 5 * m_2)) (Z.2.1 (5 + 5 * m_2)) (kN (Z.2.2 (2 * m_2))) hm.n hm.1.k) 0 0 5 rfl rfl rfl rfl rfl rfl rfl rfl rfl ⟨Nat.le_of_ble_eq_true rfl, Nat.le_of_ble_eq_true rfl⟩ dX9_sum_5 (fun v w hw => ?_)
  obtain ⟨rfl, rfl⟩ := hw
  refine ⟨rfl, [(ad (1 + 5 * m_2), .inr (7, [.ref (ad (2 + 5 * m_2)), .ref (ad (4 + 5 * m_2)), .ref (ad (5 + 5 * m_2)), .int (nI (Z.1 (12 + m_2))), .int (Z.2.1 (4 + 5 * m_2)), .int (Z.2.1 (5 + 5 * m_2))])), (ad (2 + 5 * m_2), .inr (8, [.ref (ad (3 + 5 * m_2)), .int (nI (Z.1 m_2))])), (ad (3 + 5 * m_2), .inl (ay 0, 100, .inl (Z.2.2 (2 * m_2)))), (ad (4 + 5 * m_2), .inr (1, [.int (Z.2.1 (1 + 5 * m_2)), .int (Z.2.1 (2 + 5 * m_2)), .int (Z.2.1 (3 + 5 * m_2))])), (ad (5 + 5 * m_2), .inl (ay 0, 100, .inl (Z.2.2 (2 * m_2 + 1))))], rfl, ?_⟩
  exact j_xr (j_iret F ⟨m_2, h2_0, rfl, rfl, dW_mo ay ad Z h2_0⟩ dX9_sum_8 (Nat.le_of_ble_eq_true rfl) (Nat.le_of_ble_eq_true rfl))

set_option maxHeartbeats 4000000 in
set_option maxRecDepth 100000 in
theorem c_X9_putOut (l : Launch) (D : va_G) (ay : Nat → ClassId) (ad : Nat → Nat) (Z : DS) : jM l yX9_putOut (jws yX9_putOut cX9_putOut 1 (some .int)) 1 20 0 0 D ay [.ref (ad 0)] (dW ay ad Z) (fun v w => v = some (.int (Z.2.1 9)) ∧ w = (dW ay ad Z)) := by
  refine jM_of l (by decide) [(0, .ref (ad 0))] rfl rfl (fun p9 e9 s9 m9 a9 b9 me9 c9 A9 F => ?_)
  refine j_aload_n F 0 dX9_putOut_0 rfl ?_
  refine j_getf F fX9_18 0 rfl rfl dX9_putOut_1 ?_
  refine j_scallV F kX9_120 (As := []) (rest := []) (c_X7_outCount l D ay (ad 6) (ad 7) (ad 8) (ad 9) (ad 10) (Z.1 1) (Z.2.2 2) (Z.2.1 6) (Z.2.1 7) (Z.2.1 8) (Z.2.2 3) (Z.1 13) (Z.2.1 9) (Z.2.1 10)) 6 6 5 rfl rfl rfl rfl rfl rfl ⟨Nat.le_of_ble_eq_true rfl, Nat.le_of_ble_eq_true rfl⟩ dX9_putOut_4 (fun v w hw => ?_)
  obtain ⟨rfl, rfl⟩ := hw
  refine ⟨rfl, (dW ay ad Z), rfl, ?_⟩
  exact j_iret F ⟨rfl, rfl⟩ dX9_putOut_7 (Nat.le_of_ble_eq_true rfl) (Nat.le_of_ble_eq_true rfl)

set_option maxHeartbeats 4000000 in
set_option maxRecDepth 100000 in
theorem c_X9_lastPutOut (l : Launch) (D : va_G) (ay : Nat → ClassId) (ad : Nat → Nat) (Z : DS) : jM l yX9_lastPutOut (jws yX9_lastPutOut cX9_lastPutOut 1 (some .int)) 1 20 0 0 D ay [.ref (ad 0)] (dW ay ad Z) (fun v w => v = some (.int (Z.2.1 10)) ∧ w = (dW ay ad Z)) := by
  refine jM_of l (by decide) [(0, .ref (ad 0))] rfl rfl (fun p9 e9 s9 m9 a9 b9 me9 c9 A9 F => ?_)
  refine j_aload_n F 0 dX9_lastPutOut_0 rfl ?_
  refine j_getf F fX9_18 0 rfl rfl dX9_lastPutOut_1 ?_
  refine j_scallV F kX9_123 (As := []) (rest := []) (c_X7_outLast l D ay (ad 6) (ad 7) (ad 8) (ad 9) (ad 10) (Z.1 1) (Z.2.2 2) (Z.2.1 6) (Z.2.1 7) (Z.2.1 8) (Z.2.2 3) (Z.1 13) (Z.2.1 9) (Z.2.1 10)) 6 6 5 rfl rfl rfl rfl rfl rfl ⟨Nat.le_of_ble_eq_true rfl, Nat.le_of_ble_eq_true rfl⟩ dX9_lastPutOut_4 (fun v w hw => ?_)
  obtain ⟨rfl, rfl⟩ := hw
  refine ⟨rfl, (dW ay ad Z), rfl, ?_⟩
  exact j_iret F ⟨rfl, rfl⟩ dX9_lastPutOut_7 (Nat.le_of_ble_eq_true rfl) (Nat.le_of_ble_eq_true rfl)

set_option maxHeartbeats 4000000 in
set_option maxRecDepth 100000 in
theorem c_X9_beginCursor (l : Launch) (hfl : l.stackTraces = false) (D : va_G) (ay : Nat → ClassId) (sa : Nat → Nat) (ad : Nat → Nat) (Z : DS) (mp : Int32) : jMx l yX9_beginCursor (jws yX9_beginCursor cX9_beginCursor 3 (some .int)) 8 143 3 18 D ay sa [.ref (ad 0), .int mp] (dW ay ad Z) (fun v w => ∃ (m : Nat), m < 2 ∧ mp = nI m ∧ v = some (.int (nI (Z.1 m))) ∧ w = (dW ay ad (mU Z m (Z.1 m) (Z.2.2 (2 * m)) 1 0 0 (Z.2.2 (2 * m + 1)) (Z.1 (12 + m)) (Z.2.1 (4 + 5 * m)) (Z.2.1 (5 + 5 * m))))) (fun E w => (E = eIA ∧ (oob mp 0 1) ∧ w = (dW ay ad Z))) := by
  refine jMx_of l hfl (by decide) [(0, .ref (ad 0)), (1, .int mp)] rfl rfl (fun p9 e9 s9 m9 a9 b9 me9 c9 A9 F hX hT => ?_)
  refine j_aload_n F 0 dX9_beginCursor_0 rfl ?_
  refine j_iload_n F 1 dX9_beginCursor_1 rfl ?_
  refine j_sxcallV F hX hT kX9_53 (As := [.int mp]) (rest := []) (c_X9_chosenMap l hfl D ay sa ad Z mp) 0 0 55 rfl rfl rfl rfl rfl rfl ⟨Nat.le_of_ble_eq_true rfl, Nat.le_of_ble_eq_true rfl⟩ dX9_beginCursor_2 ⟨Nat.le_of_ble_eq_true rfl, Nat.le_of_ble_eq_true rfl⟩ (fun E w h => ⟨h.2.2, ⟨h.1, h.2.1, rfl⟩⟩) (fun v w hw => ?_)
  obtain ⟨m_2, h2_0, rfl, rfl, rfl⟩ := hw
  refine ⟨rfl, (dW ay ad Z), slp_all _ _ rfl, ?_⟩
  refine j_astore_n F 2 [(2, .ref (ad (1 + 5 * m_2))), (0, .ref (ad 0)), (1, .int (nI m_2))] dX9_beginCursor_5 rfl (by decide) rfl ?_
  refine j_aload_n F 0 dX9_beginCursor_6 rfl ?_
  refine j_ws (slp (1 + 5 * m_2) 5 (dW ay ad Z) [(ad (1 + 5 * m_2), .inr (7, [.ref (ad (2 + 5 * m_2)), .ref (ad (4 + 5 * m_2)), .ref (ad (5 + 5 * m_2)), .int (nI (Z.1 (12 + m_2))), .int (Z.2.1 (4 + 5 * m_2)), .int (Z.2.1 (5 + 5 * m_2))])), (ad (2 + 5 * m_2), .inr (8, [.ref (ad (3 + 5 * m_2)), .int (nI (Z.1 m_2))])), (ad (3 + 5 * m_2), .inl (ay 0, 100, .inl (Z.2.2 (2 * m_2)))), (ad (4 + 5 * m_2), .inr (1, [.int (Z.2.1 (1 + 5 * m_2)), .int (Z.2.1 (2 + 5 * m_2)), .int (Z.2.1 (3 + 5 * m_2))])), (ad (5 + 5 * m_2), .inl (ay 0, 100, .inl (Z.2.2 (2 * m_2 + 1))))]) (dW_mo ay ad Z h2_0).symm ?_
  refine j_ocallV F (dW_mh ay ad Z h2_0) kX9_126 (As := []) (rest := []) (c_X7_cursor l D ay (ad (1 + 5 * m_2)) (ad (2 + 5 * m_2)) (ad (3 + 5 * m_2)) (ad (4 + 5 * m_2)) (ad (5 + 5 * m_2)) (Z.1 m_2) (Z.2.2 (2 * m_2)) (Z.2.1 (1 + 5 * m_2)) (Z.2.1 (2 + 5 * m_2)) (Z.2.1 (3 + 5 * m_2)) (Z.2.2 (2 * m_2 + 1)) (Z.1 (12 + m_2)) (Z.2.1 (4 + 5 * m_2)) (Z.2.1 (5 + 5 * m_2))) 0 0 5 rfl rfl rfl rfl rfl rfl rfl rfl rfl ⟨Nat.le_of_ble_eq_true rfl, Nat.le_of_ble_eq_true rfl⟩ dX9_beginCursor_7 (fun v w hw => ?_)
  obtain ⟨rfl, rfl⟩ := hw
  refine ⟨rfl, [(ad (1 + 5 * m_2), .inr (7, [.ref (ad (2 + 5 * m_2)), .ref (ad (4 + 5 * m_2)), .ref (ad (5 + 5 * m_2)), .int (nI (Z.1 (12 + m_2))), .int (Z.2.1 (4 + 5 * m_2)), .int (Z.2.1 (5 + 5 * m_2))])), (ad (2 + 5 * m_2), .inr (8, [.ref (ad (3 + 5 * m_2)), .int (nI (Z.1 m_2))])), (ad (3 + 5 * m_2), .inl (ay 0, 100, .inl (Z.2.2 (2 * m_2)))), (ad (4 + 5 * m_2), .inr (1, [.int (Z.2.1 (1 + 5 * m_2)), .int (Z.2.1 (2 + 5 * m_2)), .int (Z.2.1 (3 + 5 * m_2))])), (ad (5 + 5 * m_2), .inl (ay 0, 100, .inl (Z.2.2 (2 * m_2 + 1))))], rfl, ?_⟩
  refine j_ocallV F (dW_mh ay ad Z h2_0) kX9_130 (As := []) (rest := []) (c_X1_begin l D ay (ad (4 + 5 * m_2)) (Z.2.1 (1 + 5 * m_2)) (Z.2.1 (2 + 5 * m_2)) (Z.2.1 (3 + 5 * m_2))) 3 3 1 rfl rfl rfl rfl rfl rfl rfl rfl rfl ⟨Nat.le_of_ble_eq_true rfl, Nat.le_of_ble_eq_true rfl⟩ dX9_beginCursor_10 (fun v w hw => ?_)
  obtain ⟨rfl, rfl⟩ := hw
  refine ⟨rfl, [(ad (1 + 5 * m_2), .inr (7, [.ref (ad (2 + 5 * m_2)), .ref (ad (4 + 5 * m_2)), .ref (ad (5 + 5 * m_2)), .int (nI (Z.1 (12 + m_2))), .int (Z.2.1 (4 + 5 * m_2)), .int (Z.2.1 (5 + 5 * m_2))])), (ad (2 + 5 * m_2), .inr (8, [.ref (ad (3 + 5 * m_2)), .int (nI (Z.1 m_2))])), (ad (3 + 5 * m_2), .inl (ay 0, 100, .inl (Z.2.2 (2 * m_2)))), (ad (4 + 5 * m_2), .inr (1, [.int 1, .int 0, .int 0])), (ad (5 + 5 * m_2), .inl (ay 0, 100, .inl (Z.2.2 (2 * m_2 + 1))))], rfl, ?_⟩
  refine j_aload_n F 0 dX9_beginCursor_13 rfl ?_
  refine j_ocallV F (dW_mh ay ad Z h2_0) kX9_95 (As := []) (rest := []) (c_X7_keys l D ay (ad (1 + 5 * m_2)) (ad (2 + 5 * m_2)) (ad (3 + 5 * m_2)) (ad (4 + 5 * m_2)) (ad (5 + 5 * m_2)) (Z.1 m_2) (Z.2.2 (2 * m_2)) 1 0 0 (Z.2.2 (2 * m_2 + 1)) (Z.1 (12 + m_2)) (Z.2.1 (4 + 5 * m_2)) (Z.2.1 (5 + 5 * m_2))) 0 0 5 rfl rfl rfl rfl rfl rfl rfl rfl rfl ⟨Nat.le_of_ble_eq_true rfl, Nat.le_of_ble_eq_true rfl⟩ dX9_beginCursor_14 (fun v w hw => ?_)
  obtain ⟨rfl, rfl⟩ := hw
  refine ⟨rfl, [(ad (1 + 5 * m_2), .inr (7, [.ref (ad (2 + 5 * m_2)), .ref (ad (4 + 5 * m_2)), .ref (ad (5 + 5 * m_2)), .int (nI (Z.1 (12 + m_2))), .int (Z.2.1 (4 + 5 * m_2)), .int (Z.2.1 (5 + 5 * m_2))])), (ad (2 + 5 * m_2), .inr (8, [.ref (ad (3 + 5 * m_2)), .int (nI (Z.1 m_2))])), (ad (3 + 5 * m_2), .inl (ay 0, 100, .inl (Z.2.2 (2 * m_2)))), (ad (4 + 5 * m_2), .inr (1, [.int 1, .int 0, .int 0])), (ad (5 + 5 * m_2), .inl (ay 0, 100, .inl (Z.2.2 (2 * m_2 + 1))))], rfl, ?_⟩
  refine j_ocallV F (dW_mh ay ad Z h2_0) kX9_99 (As := []) (rest := []) (c_X8_length l D ay (ad (2 + 5 * m_2)) (ad (3 + 5 * m_2)) (Z.1 m_2) (Z.2.2 (2 * m_2))) 1 1 2 rfl rfl rfl rfl rfl rfl rfl rfl rfl ⟨Nat.le_of_ble_eq_true rfl, Nat.le_of_ble_eq_true rfl⟩ dX9_beginCursor_17 (fun v w hw => ?_)
  obtain ⟨rfl, rfl⟩ := hw
  refine ⟨rfl, [(ad (1 + 5 * m_2), .inr (7, [.ref (ad (2 + 5 * m_2)), .ref (ad (4 + 5 * m_2)), .ref (ad (5 + 5 * m_2)), .int (nI (Z.1 (12 + m_2))), .int (Z.2.1 (4 + 5 * m_2)), .int (Z.2.1 (5 + 5 * m_2))])), (ad (2 + 5 * m_2), .inr (8, [.ref (ad (3 + 5 * m_2)), .int (nI (Z.1 m_2))])), (ad (3 + 5 * m_2), .inl (ay 0, 100, .inl (Z.2.2 (2 * m_2)))), (ad (4 + 5 * m_2), .inr (1, [.int 1, .int 0, .int 0])), (ad (5 + 5 * m_2), .inl (ay 0, 100, .inl (Z.2.2 (2 * m_2 + 1))))], rfl, ?_⟩
  exact j_xr (j_iret F ⟨m_2, h2_0, rfl, rfl, dW_mc ay ad Z h2_0 ..⟩ dX9_beginCursor_20 (Nat.le_of_ble_eq_true rfl) (Nat.le_of_ble_eq_true rfl))

set_option maxHeartbeats 4000000 in
set_option maxRecDepth 100000 in
theorem c_X9_hasNext (l : Launch) (hfl : l.stackTraces = false) (D : va_G) (ay : Nat → ClassId) (sa : Nat → Nat) (ad : Nat → Nat) (Z : DS) (mp : Int32) : jMx l yX9_hasNext (jws yX9_hasNext cX9_hasNext 3 (some .boolean)) 8 143 3 18 D ay sa [.ref (ad 0), .int mp] (dW ay ad Z) (fun v w => ∃ (m : Nat), m < 2 ∧ mp = nI m ∧ v = some (.int (if ¬ Z.2.1 (1 + 5 * m) = 0 ∧ ¬ nI (Z.1 m) ≤ Z.2.1 (2 + 5 * m) then 1 else 0)) ∧ w = (dW ay ad Z)) (fun E w => (E = eIA ∧ (oob mp 0 1) ∧ w = (dW ay ad Z))) := by
  refine jMx_of l hfl (by decide) [(0, .ref (ad 0)), (1, .int mp)] rfl rfl (fun p9 e9 s9 m9 a9 b9 me9 c9 A9 F hX hT => ?_)
  refine j_aload_n F 0 dX9_hasNext_0 rfl ?_
  refine j_iload_n F 1 dX9_hasNext_1 rfl ?_
  refine j_sxcallV F hX hT kX9_53 (As := [.int mp]) (rest := []) (c_X9_chosenMap l hfl D ay sa ad Z mp) 0 0 55 rfl rfl rfl rfl rfl rfl ⟨Nat.le_of_ble_eq_true rfl, Nat.le_of_ble_eq_true rfl⟩ dX9_hasNext_2 ⟨Nat.le_of_ble_eq_true rfl, Nat.le_of_ble_eq_true rfl⟩ (fun E w h => ⟨h.2.2, ⟨h.1, h.2.1, rfl⟩⟩) (fun v w hw => ?_)
  obtain ⟨m_2, h2_0, rfl, rfl, rfl⟩ := hw
  refine ⟨rfl, (dW ay ad Z), slp_all _ _ rfl, ?_⟩
  refine j_astore_n F 2 [(2, .ref (ad (1 + 5 * m_2))), (0, .ref (ad 0)), (1, .int (nI m_2))] dX9_hasNext_5 rfl (by decide) rfl ?_
  refine j_aload_n F 0 dX9_hasNext_6 rfl ?_
  refine j_ws (slp (1 + 5 * m_2) 5 (dW ay ad Z) [(ad (1 + 5 * m_2), .inr (7, [.ref (ad (2 + 5 * m_2)), .ref (ad (4 + 5 * m_2)), .ref (ad (5 + 5 * m_2)), .int (nI (Z.1 (12 + m_2))), .int (Z.2.1 (4 + 5 * m_2)), .int (Z.2.1 (5 + 5 * m_2))])), (ad (2 + 5 * m_2), .inr (8, [.ref (ad (3 + 5 * m_2)), .int (nI (Z.1 m_2))])), (ad (3 + 5 * m_2), .inl (ay 0, 100, .inl (Z.2.2 (2 * m_2)))), (ad (4 + 5 * m_2), .inr (1, [.int (Z.2.1 (1 + 5 * m_2)), .int (Z.2.1 (2 + 5 * m_2)), .int (Z.2.1 (3 + 5 * m_2))])), (ad (5 + 5 * m_2), .inl (ay 0, 100, .inl (Z.2.2 (2 * m_2 + 1))))]) (dW_mo ay ad Z h2_0).symm ?_
  refine j_ocallV F (dW_mh ay ad Z h2_0) kX9_126 (As := []) (rest := []) (c_X7_cursor l D ay (ad (1 + 5 * m_2)) (ad (2 + 5 * m_2)) (ad (3 + 5 * m_2)) (ad (4 + 5 * m_2)) (ad (5 + 5 * m_2)) (Z.1 m_2) (Z.2.2 (2 * m_2)) (Z.2.1 (1 + 5 * m_2)) (Z.2.1 (2 + 5 * m_2)) (Z.2.1 (3 + 5 * m_2)) (Z.2.2 (2 * m_2 + 1)) (Z.1 (12 + m_2)) (Z.2.1 (4 + 5 * m_2)) (Z.2.1 (5 + 5 * m_2))) 0 0 5 rfl rfl rfl rfl rfl rfl rfl rfl rfl ⟨Nat.le_of_ble_eq_true rfl, Nat.le_of_ble_eq_true rfl⟩ dX9_hasNext_7 (fun v w hw => ?_)
  obtain ⟨rfl, rfl⟩ := hw
  refine ⟨rfl, [(ad (1 + 5 * m_2), .inr (7, [.ref (ad (2 + 5 * m_2)), .ref (ad (4 + 5 * m_2)), .ref (ad (5 + 5 * m_2)), .int (nI (Z.1 (12 + m_2))), .int (Z.2.1 (4 + 5 * m_2)), .int (Z.2.1 (5 + 5 * m_2))])), (ad (2 + 5 * m_2), .inr (8, [.ref (ad (3 + 5 * m_2)), .int (nI (Z.1 m_2))])), (ad (3 + 5 * m_2), .inl (ay 0, 100, .inl (Z.2.2 (2 * m_2)))), (ad (4 + 5 * m_2), .inr (1, [.int (Z.2.1 (1 + 5 * m_2)), .int (Z.2.1 (2 + 5 * m_2)), .int (Z.2.1 (3 + 5 * m_2))])), (ad (5 + 5 * m_2), .inl (ay 0, 100, .inl (Z.2.2 (2 * m_2 + 1))))], rfl, ?_⟩
  refine j_aload_n F 0 dX9_hasNext_10 rfl ?_
  refine j_ocallV F (dW_mh ay ad Z h2_0) kX9_95 (As := []) (rest := [.ref (ad (4 + 5 * m_2))]) (c_X7_keys l D ay (ad (1 + 5 * m_2)) (ad (2 + 5 * m_2)) (ad (3 + 5 * m_2)) (ad (4 + 5 * m_2)) (ad (5 + 5 * m_2)) (Z.1 m_2) (Z.2.2 (2 * m_2)) (Z.2.1 (1 + 5 * m_2)) (Z.2.1 (2 + 5 * m_2)) (Z.2.1 (3 + 5 * m_2)) (Z.2.2 (2 * m_2 + 1)) (Z.1 (12 + m_2)) (Z.2.1 (4 + 5 * m_2)) (Z.2.1 (5 + 5 * m_2))) 0 0 5 rfl rfl rfl rfl rfl rfl rfl rfl rfl ⟨Nat.le_of_ble_eq_true rfl, Nat.le_of_ble_eq_true rfl⟩ dX9_hasNext_11 (fun v w hw => ?_)
  obtain ⟨rfl, rfl⟩ := hw
  refine ⟨rfl, [(ad (1 + 5 * m_2), .inr (7, [.ref (ad (2 + 5 * m_2)), .ref (ad (4 + 5 * m_2)), .ref (ad (5 + 5 * m_2)), .int (nI (Z.1 (12 + m_2))), .int (Z.2.1 (4 + 5 * m_2)), .int (Z.2.1 (5 + 5 * m_2))])), (ad (2 + 5 * m_2), .inr (8, [.ref (ad (3 + 5 * m_2)), .int (nI (Z.1 m_2))])), (ad (3 + 5 * m_2), .inl (ay 0, 100, .inl (Z.2.2 (2 * m_2)))), (ad (4 + 5 * m_2), .inr (1, [.int (Z.2.1 (1 + 5 * m_2)), .int (Z.2.1 (2 + 5 * m_2)), .int (Z.2.1 (3 + 5 * m_2))])), (ad (5 + 5 * m_2), .inl (ay 0, 100, .inl (Z.2.2 (2 * m_2 + 1))))], rfl, ?_⟩
  refine j_ocallV F (dW_mh ay ad Z h2_0) kX9_99 (As := []) (rest := [.ref (ad (4 + 5 * m_2))]) (c_X8_length l D ay (ad (2 + 5 * m_2)) (ad (3 + 5 * m_2)) (Z.1 m_2) (Z.2.2 (2 * m_2))) 1 1 2 rfl rfl rfl rfl rfl rfl rfl rfl rfl ⟨Nat.le_of_ble_eq_true rfl, Nat.le_of_ble_eq_true rfl⟩ dX9_hasNext_14 (fun v w hw => ?_)
  obtain ⟨rfl, rfl⟩ := hw
  refine ⟨rfl, [(ad (1 + 5 * m_2), .inr (7, [.ref (ad (2 + 5 * m_2)), .ref (ad (4 + 5 * m_2)), .ref (ad (5 + 5 * m_2)), .int (nI (Z.1 (12 + m_2))), .int (Z.2.1 (4 + 5 * m_2)), .int (Z.2.1 (5 + 5 * m_2))])), (ad (2 + 5 * m_2), .inr (8, [.ref (ad (3 + 5 * m_2)), .int (nI (Z.1 m_2))])), (ad (3 + 5 * m_2), .inl (ay 0, 100, .inl (Z.2.2 (2 * m_2)))), (ad (4 + 5 * m_2), .inr (1, [.int (Z.2.1 (1 + 5 * m_2)), .int (Z.2.1 (2 + 5 * m_2)), .int (Z.2.1 (3 + 5 * m_2))])), (ad (5 + 5 * m_2), .inl (ay 0, 100, .inl (Z.2.2 (2 * m_2 + 1))))], rfl, ?_⟩
  refine j_ocallV F (dW_mh ay ad Z h2_0) kX9_135 (As := [.int (nI (Z.1 m_2))]) (rest := []) (c_X1_isAheadOf l D ay (ad (4 + 5 * m_2)) (Z.2.1 (1 + 5 * m_2)) (Z.2.1 (2 + 5 * m_2)) (Z.2.1 (3 + 5 * m_2)) (nI (Z.1 m_2))) 3 3 1 rfl rfl rfl rfl rfl rfl rfl rfl rfl ⟨Nat.le_of_ble_eq_true rfl, Nat.le_of_ble_eq_true rfl⟩ dX9_hasNext_17 (fun v w hw => ?_)
  obtain ⟨rfl, rfl⟩ := hw
  refine ⟨rfl, [(ad (1 + 5 * m_2), .inr (7, [.ref (ad (2 + 5 * m_2)), .ref (ad (4 + 5 * m_2)), .ref (ad (5 + 5 * m_2)), .int (nI (Z.1 (12 + m_2))), .int (Z.2.1 (4 + 5 * m_2)), .int (Z.2.1 (5 + 5 * m_2))])), (ad (2 + 5 * m_2), .inr (8, [.ref (ad (3 + 5 * m_2)), .int (nI (Z.1 m_2))])), (ad (3 + 5 * m_2), .inl (ay 0, 100, .inl (Z.2.2 (2 * m_2)))), (ad (4 + 5 * m_2), .inr (1, [.int (Z.2.1 (1 + 5 * m_2)), .int (Z.2.1 (2 + 5 * m_2)), .int (Z.2.1 (3 + 5 * m_2))])), (ad (5 + 5 * m_2), .inl (ay 0, 100, .inl (Z.2.2 (2 * m_2 + 1))))], rfl, ?_⟩
  exact j_xr (j_zret F ite01 ⟨m_2, h2_0, rfl, rfl, dW_mo ay ad Z h2_0⟩ dX9_hasNext_20 (Nat.le_of_ble_eq_true rfl) (Nat.le_of_ble_eq_true rfl))

set_option maxHeartbeats 4000000 in
set_option maxRecDepth 100000 in
theorem c_X9_takeOut (l : Launch) (hfl : l.stackTraces = false) (D : va_G) (ay : Nat → ClassId) (sa : Nat → Nat) (ad : Nat → Nat) (Z : DS) (mp : Int32) (hI : ∀ m, m < 2 → mI Z m) : jMx l yX9_takeOut (jws yX9_takeOut cX9_takeOut 3 (some .int)) 8 143 3 18 D ay sa [.ref (ad 0), .int mp] (dW ay ad Z) (fun v w => ∃ (m : Nat), ∃ (j : Nat), m < 2 ∧ ¬ Z.2.1 (1 + 5 * m) = 0 ∧ ¬ Z.2.1 (3 + 5 * m) = 0 ∧ Z.2.1 (2 + 5 * m) = nI j ∧ 1 ≤ j ∧ j ≤ Z.1 m ∧ mp = nI m ∧ v = some (.int (nI (Z.1 m - 1))) ∧ w = (dW ay ad (mU Z m (Z.1 m - 1) (shf (Z.2.2 (2 * m)) (j - 1) (Z.1 m)) (Z.2.1 (1 + 5 * m)) (nI (j - 1)) 0 (Z.2.2 (2 * m + 1)) (Z.1 (12 + m)) (Z.2.1 (4 + 5 * m)) (Z.2.1 (5 + 5 * m))))) (fun E w => (E = eIA ∧ (oob mp 0 1) ∧ w = (dW ay ad Z)) ∨ (E = eIS ∧ (∃ m, m < 2 ∧ mp = nI m ∧ ¬ (¬ Z.2.1 (1 + 5 * m) = 0 ∧ ¬ Z.2.1 (3 + 5 * m) = 0)) ∧ w = (dW ay ad Z))) := by
  refine jMx_of l hfl (by decide) [(0, .ref (ad 0)), (1, .int mp)] rfl rfl (fun p9 e9 s9 m9 a9 b9 me9 c9 A9 F hX hT => ?_)
  refine j_aload_n F 0 dX9_takeOut_0 rfl ?_
  refine j_iload_n F 1 dX9_takeOut_1 rfl ?_
  refine j_sxcallV F hX hT kX9_53 (As := [.int mp]) (rest := []) (c_X9_chosenMap l hfl D ay sa ad Z mp) 0 0 55 rfl rfl rfl rfl rfl rfl ⟨Nat.le_of_ble_eq_true rfl, Nat.le_of_ble_eq_true rfl⟩ dX9_takeOut_2 ⟨Nat.le_of_ble_eq_true rfl, Nat.le_of_ble_eq_true rfl⟩ (fun E w h => ⟨h.2.2, Or.inl ⟨h.1, h.2.1, rfl⟩⟩) (fun v w hw => ?_)
  obtain ⟨m_2, h2_0, rfl, rfl, rfl⟩ := hw
  refine ⟨rfl, (dW ay ad Z), slp_all _ _ rfl, ?_⟩
  refine j_astore_n F 2 [(2, .ref (ad (1 + 5 * m_2))), (0, .ref (ad 0)), (1, .int (nI m_2))] dX9_takeOut_5 rfl (by decide) rfl ?_
  refine j_aload_n F 0 dX9_takeOut_6 rfl ?_
  refine j_ws (slp (1 + 5 * m_2) 5 (dW ay ad Z) [(ad (1 + 5 * m_2), .inr (7, [.ref (ad (2 + 5 * m_2)), .ref (ad (4 + 5 * m_2)), .ref (ad (5 + 5 * m_2)), .int (nI (Z.1 (12 + m_2))), .int (Z.2.1 (4 + 5 * m_2)), .int (Z.2.1 (5 + 5 * m_2))])), (ad (2 + 5 * m_2), .inr (8, [.ref (ad (3 + 5 * m_2)), .int (nI (Z.1 m_2))])), (ad (3 + 5 * m_2), .inl (ay 0, 100, .inl (Z.2.2 (2 * m_2)))), (ad (4 + 5 * m_2), .inr (1, [.int (Z.2.1 (1 + 5 * m_2)), .int (Z.2.1 (2 + 5 * m_2)), .int (Z.2.1 (3 + 5 * m_2))])), (ad (5 + 5 * m_2), .inl (ay 0, 100, .inl (Z.2.2 (2 * m_2 + 1))))]) (dW_mo ay ad Z h2_0).symm ?_
  refine j_ocallV F (dW_mh ay ad Z h2_0) kX9_126 (As := []) (rest := []) (c_X7_cursor l D ay (ad (1 + 5 * m_2)) (ad (2 + 5 * m_2)) (ad (3 + 5 * m_2)) (ad (4 + 5 * m_2)) (ad (5 + 5 * m_2)) (Z.1 m_2) (Z.2.2 (2 * m_2)) (Z.2.1 (1 + 5 * m_2)) (Z.2.1 (2 + 5 * m_2)) (Z.2.1 (3 + 5 * m_2)) (Z.2.2 (2 * m_2 + 1)) (Z.1 (12 + m_2)) (Z.2.1 (4 + 5 * m_2)) (Z.2.1 (5 + 5 * m_2))) 0 0 5 rfl rfl rfl rfl rfl rfl rfl rfl rfl ⟨Nat.le_of_ble_eq_true rfl, Nat.le_of_ble_eq_true rfl⟩ dX9_takeOut_7 (fun v w hw => ?_)
  obtain ⟨rfl, rfl⟩ := hw
  refine ⟨rfl, [(ad (1 + 5 * m_2), .inr (7, [.ref (ad (2 + 5 * m_2)), .ref (ad (4 + 5 * m_2)), .ref (ad (5 + 5 * m_2)), .int (nI (Z.1 (12 + m_2))), .int (Z.2.1 (4 + 5 * m_2)), .int (Z.2.1 (5 + 5 * m_2))])), (ad (2 + 5 * m_2), .inr (8, [.ref (ad (3 + 5 * m_2)), .int (nI (Z.1 m_2))])), (ad (3 + 5 * m_2), .inl (ay 0, 100, .inl (Z.2.2 (2 * m_2)))), (ad (4 + 5 * m_2), .inr (1, [.int (Z.2.1 (1 + 5 * m_2)), .int (Z.2.1 (2 + 5 * m_2)), .int (Z.2.1 (3 + 5 * m_2))])), (ad (5 + 5 * m_2), .inl (ay 0, 100, .inl (Z.2.2 (2 * m_2 + 1))))], rfl, ?_⟩
  refine j_ocallV F (dW_mh ay ad Z h2_0) kX9_157 (As := []) (rest := []) (c_X1_canTake l D ay (ad (4 + 5 * m_2)) (Z.2.1 (1 + 5 * m_2)) (Z.2.1 (2 + 5 * m_2)) (Z.2.1 (3 + 5 * m_2))) 3 3 1 rfl rfl rfl rfl rfl rfl rfl rfl rfl ⟨Nat.le_of_ble_eq_true rfl, Nat.le_of_ble_eq_true rfl⟩ dX9_takeOut_10 (fun v w hw => ?_)
  obtain ⟨rfl, rfl⟩ := hw
  refine ⟨rfl, [(ad (1 + 5 * m_2), .inr (7, [.ref (ad (2 + 5 * m_2)), .ref (ad (4 + 5 * m_2)), .ref (ad (5 + 5 * m_2)), .int (nI (Z.1 (12 + m_2))), .int (Z.2.1 (4 + 5 * m_2)), .int (Z.2.1 (5 + 5 * m_2))])), (ad (2 + 5 * m_2), .inr (8, [.ref (ad (3 + 5 * m_2)), .int (nI (Z.1 m_2))])), (ad (3 + 5 * m_2), .inl (ay 0, 100, .inl (Z.2.2 (2 * m_2)))), (ad (4 + 5 * m_2), .inr (1, [.int (Z.2.1 (1 + 5 * m_2)), .int (Z.2.1 (2 + 5 * m_2)), .int (Z.2.1 (3 + 5 * m_2))])), (ad (5 + 5 * m_2), .inl (ay 0, 100, .inl (Z.2.2 (2 * m_2 + 1))))], rfl, ?_⟩
  refine j_ws (dW ay ad Z) (dW_mo ay ad Z h2_0) ?_
  by_cases hc : ¬ Z.2.1 (1 + 5 * m_2) = 0 ∧ ¬ Z.2.1 (3 + 5 * m_2) = 0
  · skip
    refine j_top 1 (if_pos hc) ?_
    obtain ⟨j, hpl, hj, hj1⟩ := (hI m_2 h2_0).2.2.2.2 hc.1
    have hj1 := hj1 hc.2
    have hn := (hI m_2 h2_0).n
    refine j_if_ne F 26 dX9_takeOut_13 (by decide) (fun c_13 => ?_) (fun c_13 => absurd c_13 (by decide))
    refine j_aload_n F 0 dX9_takeOut_26 rfl ?_
    refine j_ws (slp (1 + 5 * m_2) 5 (dW ay ad Z) [(ad (1 + 5 * m_2), .inr (7, [.ref (ad (2 + 5 * m_2)), .ref (ad (4 + 5 * m_2)), .ref (ad (5 + 5 * m_2)), .int (nI (Z.1 (12 + m_2))), .int (Z.2.1 (4 + 5 * m_2)), .int (Z.2.1 (5 + 5 * m_2))])), (ad (2 + 5 * m_2), .inr (8, [.ref (ad (3 + 5 * m_2)), .int (nI (Z.1 m_2))])), (ad (3 + 5 * m_2), .inl (ay 0, 100, .inl (Z.2.2 (2 * m_2)))), (ad (4 + 5 * m_2), .inr (1, [.int (Z.2.1 (1 + 5 * m_2)), .int (Z.2.1 (2 + 5 * m_2)), .int (Z.2.1 (3 + 5 * m_2))])), (ad (5 + 5 * m_2), .inl (ay 0, 100, .inl (Z.2.2 (2 * m_2 + 1))))]) (dW_mo ay ad Z h2_0).symm ?_
    refine j_ocallV F (dW_mh ay ad Z h2_0) kX9_95 (As := []) (rest := []) (c_X7_keys l D ay (ad (1 + 5 * m_2)) (ad (2 + 5 * m_2)) (ad (3 + 5 * m_2)) (ad (4 + 5 * m_2)) (ad (5 + 5 * m_2)) (Z.1 m_2) (Z.2.2 (2 * m_2)) (Z.2.1 (1 + 5 * m_2)) (Z.2.1 (2 + 5 * m_2)) (Z.2.1 (3 + 5 * m_2)) (Z.2.2 (2 * m_2 + 1)) (Z.1 (12 + m_2)) (Z.2.1 (4 + 5 * m_2)) (Z.2.1 (5 + 5 * m_2))) 0 0 5 rfl rfl rfl rfl rfl rfl rfl rfl rfl ⟨Nat.le_of_ble_eq_true rfl, Nat.le_of_ble_eq_true rfl⟩ dX9_takeOut_27 (fun v w hw => ?_)
    obtain ⟨rfl, rfl⟩ := hw
    refine ⟨rfl, [(ad (1 + 5 * m_2), .inr (7, [.ref (ad (2 + 5 * m_2)), .ref (ad (4 + 5 * m_2)), .ref (ad (5 + 5 * m_2)), .int (nI (Z.1 (12 + m_2))), .int (Z.2.1 (4 + 5 * m_2)), .int (Z.2.1 (5 + 5 * m_2))])), (ad (2 + 5 * m_2), .inr (8, [.ref (ad (3 + 5 * m_2)), .int (nI (Z.1 m_2))])), (ad (3 + 5 * m_2), .inl (ay 0, 100, .inl (Z.2.2 (2 * m_2)))), (ad (4 + 5 * m_2), .inr (1, [.int (Z.2.1 (1 + 5 * m_2)), .int (Z.2.1 (2 + 5 * m_2)), .int (Z.2.1 (3 + 5 * m_2))])), (ad (5 + 5 * m_2), .inl (ay 0, 100, .inl (Z.2.2 (2 * m_2 + 1))))], rfl, ?_⟩
    refine j_aload_n F 0 dX9_takeOut_30 rfl ?_
    refine j_ocallV F (dW_mh ay ad Z h2_0) kX9_126 (As := []) (rest := [.ref (ad (2 + 5 * m_2))]) (c_X7_cursor l D ay (ad (1 + 5 * m_2)) (ad (2 + 5 * m_2)) (ad (3 + 5 * m_2)) (ad (4 + 5 * m_2)) (ad (5 + 5 * m_2)) (Z.1 m_2) (Z.2.2 (2 * m_2)) (Z.2.1 (1 + 5 * m_2)) (Z.2.1 (2 + 5 * m_2)) (Z.2.1 (3 + 5 * m_2)) (Z.2.2 (2 * m_2 + 1)) (Z.1 (12 + m_2)) (Z.2.1 (4 + 5 * m_2)) (Z.2.1 (5 + 5 * m_2))) 0 0 5 rfl rfl rfl rfl rfl rfl rfl rfl rfl ⟨Nat.le_of_ble_eq_true rfl, Nat.le_of_ble_eq_true rfl⟩ dX9_takeOut_31 (fun v w hw => ?_)
    obtain ⟨rfl, rfl⟩ := hw
    refine ⟨rfl, [(ad (1 + 5 * m_2), .inr (7, [.ref (ad (2 + 5 * m_2)), .ref (ad (4 + 5 * m_2)), .ref (ad (5 + 5 * m_2)), .int (nI (Z.1 (12 + m_2))), .int (Z.2.1 (4 + 5 * m_2)), .int (Z.2.1 (5 + 5 * m_2))])), (ad (2 + 5 * m_2), .inr (8, [.ref (ad (3 + 5 * m_2)), .int (nI (Z.1 m_2))])), (ad (3 + 5 * m_2), .inl (ay 0, 100, .inl (Z.2.2 (2 * m_2)))), (ad (4 + 5 * m_2), .inr (1, [.int (Z.2.1 (1 + 5 * m_2)), .int (Z.2.1 (2 + 5 * m_2)), .int (Z.2.1 (3 + 5 * m_2))])), (ad (5 + 5 * m_2), .inl (ay 0, 100, .inl (Z.2.2 (2 * m_2 + 1))))], rfl, ?_⟩
    refine j_ws (slp (1 + 5 * m_2) 5 (dW ay ad Z) [(ad (1 + 5 * m_2), .inr (7, [.ref (ad (2 + 5 * m_2)), .ref (ad (4 + 5 * m_2)), .ref (ad (5 + 5 * m_2)), .int (nI (Z.1 (12 + m_2))), .int (Z.2.1 (4 + 5 * m_2)), .int (Z.2.1 (5 + 5 * m_2))])), (ad (2 + 5 * m_2), .inr (8, [.ref (ad (3 + 5 * m_2)), .int (nI (Z.1 m_2))])), (ad (3 + 5 * m_2), .inl (ay 0, 100, .inl (Z.2.2 (2 * m_2)))), (ad (4 + 5 * m_2), .inr (1, [.int (Z.2.1 (1 + 5 * m_2)), .int (nI j), .int (Z.2.1 (3 + 5 * m_2))])), (ad (5 + 5 * m_2), .inl (ay 0, 100, .inl (Z.2.2 (2 * m_2 + 1))))]) (by rw [hpl]) ?_
    refine j_ocallV F (dW_mh ay ad Z h2_0) kX9_162 (As := []) (rest := [.ref (ad (2 + 5 * m_2))]) (c_X1_stepBack l D ay (ad (4 + 5 * m_2)) (Z.2.1 (1 + 5 * m_2)) j (Z.2.1 (3 + 5 * m_2)) (by first | assumption | omega)) 3 3 1 rfl rfl rfl rfl rfl rfl rfl rfl rfl ⟨Nat.le_of_ble_eq_true rfl, Nat.le_of_ble_eq_true rfl⟩ dX9_takeOut_34 (fun v w hw => ?_)
    obtain ⟨rfl, rfl⟩ := hw
    refine ⟨rfl, [(ad (1 + 5 * m_2), .inr (7, [.ref (ad (2 + 5 * m_2)), .ref (ad (4 + 5 * m_2)), .ref (ad (5 + 5 * m_2)), .int (nI (Z.1 (12 + m_2))), .int (Z.2.1 (4 + 5 * m_2)), .int (Z.2.1 (5 + 5 * m_2))])), (ad (2 + 5 * m_2), .inr (8, [.ref (ad (3 + 5 * m_2)), .int (nI (Z.1 m_2))])), (ad (3 + 5 * m_2), .inl (ay 0, 100, .inl (Z.2.2 (2 * m_2)))), (ad (4 + 5 * m_2), .inr (1, [.int (Z.2.1 (1 + 5 * m_2)), .int (nI (j - 1)), .int 0])), (ad (5 + 5 * m_2), .inl (ay 0, 100, .inl (Z.2.2 (2 * m_2 + 1))))], rfl, ?_⟩
    refine j_ocallV F (dW_mh ay ad Z h2_0) kX9_165 (As := [.int (nI (j - 1))]) (rest := []) (c_X8_dropIn l D ay (ad (2 + 5 * m_2)) (ad (3 + 5 * m_2)) (Z.1 m_2) (Z.2.2 (2 * m_2)) (j - 1) hn (by omega)) 1 1 2 rfl rfl rfl rfl rfl rfl rfl rfl rfl ⟨Nat.le_of_ble_eq_true rfl, Nat.le_of_ble_eq_true rfl⟩ dX9_takeOut_37 (fun v w hw => ?_)
    obtain ⟨rfl, rfl⟩ := hw
    refine ⟨rfl, [(ad (1 + 5 * m_2), .inr (7, [.ref (ad (2 + 5 * m_2)), .ref (ad (4 + 5 * m_2)), .ref (ad (5 + 5 * m_2)), .int (nI (Z.1 (12 + m_2))), .int (Z.2.1 (4 + 5 * m_2)), .int (Z.2.1 (5 + 5 * m_2))])), (ad (2 + 5 * m_2), .inr (8, [.ref (ad (3 + 5 * m_2)), .int (nI ((Z.1 m_2) - 1))])), (ad (3 + 5 * m_2), .inl (ay 0, 100, .inl (shf (Z.2.2 (2 * m_2)) (j - 1) (Z.1 m_2)))), (ad (4 + 5 * m_2), .inr (1, [.int (Z.2.1 (1 + 5 * m_2)), .int (nI (j - 1)), .int 0])), (ad (5 + 5 * m_2), .inl (ay 0, 100, .inl (Z.2.2 (2 * m_2 + 1))))], rfl, ?_⟩
    refine j_aload_n F 0 dX9_takeOut_40 rfl ?_
    refine j_ocallV F (dW_mh ay ad Z h2_0) kX9_95 (As := []) (rest := []) (c_X7_keys l D ay (ad (1 + 5 * m_2)) (ad (2 + 5 * m_2)) (ad (3 + 5 * m_2)) (ad (4 + 5 * m_2)) (ad (5 + 5 * m_2)) ((Z.1 m_2) - 1) (shf (Z.2.2 (2 * m_2)) (j - 1) (Z.1 m_2)) (Z.2.1 (1 + 5 * m_2)) (nI (j - 1)) 0 (Z.2.2 (2 * m_2 + 1)) (Z.1 (12 + m_2)) (Z.2.1 (4 + 5 * m_2)) (Z.2.1 (5 + 5 * m_2))) 0 0 5 rfl rfl rfl rfl rfl rfl rfl rfl rfl ⟨Nat.le_of_ble_eq_true rfl, Nat.le_of_ble_eq_true rfl⟩ dX9_takeOut_41 (fun v w hw => ?_)
    obtain ⟨rfl, rfl⟩ := hw
    refine ⟨rfl, [(ad (1 + 5 * m_2), .inr (7, [.ref (ad (2 + 5 * m_2)), .ref (ad (4 + 5 * m_2)), .ref (ad (5 + 5 * m_2)), .int (nI (Z.1 (12 + m_2))), .int (Z.2.1 (4 + 5 * m_2)), .int (Z.2.1 (5 + 5 * m_2))])), (ad (2 + 5 * m_2), .inr (8, [.ref (ad (3 + 5 * m_2)), .int (nI ((Z.1 m_2) - 1))])), (ad (3 + 5 * m_2), .inl (ay 0, 100, .inl (shf (Z.2.2 (2 * m_2)) (j - 1) (Z.1 m_2)))), (ad (4 + 5 * m_2), .inr (1, [.int (Z.2.1 (1 + 5 * m_2)), .int (nI (j - 1)), .int 0])), (ad (5 + 5 * m_2), .inl (ay 0, 100, .inl (Z.2.2 (2 * m_2 + 1))))], rfl, ?_⟩
    refine j_ocallV F (dW_mh ay ad Z h2_0) kX9_99 (As := []) (rest := []) (c_X8_length l D ay (ad (2 + 5 * m_2)) (ad (3 + 5 * m_2)) ((Z.1 m_2) - 1) (shf (Z.2.2 (2 * m_2)) (j - 1) (Z.1 m_2))) 1 1 2 rfl rfl rfl rfl rfl rfl rfl rfl rfl ⟨Nat.le_of_ble_eq_true rfl, Nat.le_of_ble_eq_true rfl⟩ dX9_takeOut_44 (fun v w hw => ?_)
    obtain ⟨rfl, rfl⟩ := hw
    refine ⟨rfl, [(ad (1 + 5 * m_2), .inr (7, [.ref (ad (2 + 5 * m_2)), .ref (ad (4 + 5 * m_2)), .ref (ad (5 + 5 * m_2)), .int (nI (Z.1 (12 + m_2))), .int (Z.2.1 (4 + 5 * m_2)), .int (Z.2.1 (5 + 5 * m_2))])), (ad (2 + 5 * m_2), .inr (8, [.ref (ad (3 + 5 * m_2)), .int (nI ((Z.1 m_2) - 1))])), (ad (3 + 5 * m_2), .inl (ay 0, 100, .inl (shf (Z.2.2 (2 * m_2)) (j - 1) (Z.1 m_2)))), (ad (4 + 5 * m_2), .inr (1, [.int (Z.2.1 (1 + 5 * m_2)), .int (nI (j - 1)), .int 0])), (ad (5 + 5 * m_2), .inl (ay 0, 100, .inl (Z.2.2 (2 * m_2 + 1))))], rfl, ?_⟩
    exact j_xr (j_iret F ⟨m_2, j, h2_0, hc.1, hc.2, hpl, hj1, hj, rfl, rfl, dW_mc ay ad Z h2_0 ..⟩ dX9_takeOut_47 (Nat.le_of_ble_eq_true rfl) (Nat.le_of_ble_eq_true rfl))
  · skip
    refine j_top 0 (if_neg hc) ?_
    refine j_if_ne F 26 dX9_takeOut_13 (by decide) (fun c_13 => absurd (by decide) c_13) (fun c_13 => ?_)
    exact j_throw F hfl hX hT (E := eIS) (text := "the cursor has no pair to take out") (names := ["java/lang/RuntimeException", "java/lang/Exception"]) (ik := 142) (is := 160) (ic := 146) (a9 := sa 2) rfl (by decide) gk_IS gi_IS hX.2.2.1.2.2.1 gx_IS gb_IS hX.2.2.2.2.2.2.2.1 go_IS dX9_takeOut_16 dX9_takeOut_19 dX9_takeOut_20 dX9_takeOut_22 dX9_takeOut_25 ⟨Nat.le_of_ble_eq_true rfl, Nat.le_of_ble_eq_true rfl, Nat.le_of_ble_eq_true rfl, Nat.le_of_ble_eq_true rfl⟩ ⟨Nat.le_of_ble_eq_true rfl, Nat.le_of_ble_eq_true rfl⟩ (Or.inr ⟨rfl, ⟨m_2, h2_0, rfl, hc⟩, rfl⟩)

