/-- 1 where the next row has the key -/
def lkF (f g : Nat → Int32) (ng j : Nat) : Int32 := if fx g (f j) ng < ng then 1 else 0
/-- how many of the first i caches are wrong -/
def erN (Z : DS) : Nat → Nat
  | 0 => 0
  | i + 1 => if Z.2.1 (11 + i) = nI (cb (Z.2.2 13) (nI (i + 1)) (Z.1 14)) then (if i + 1 < 8 ∧ fx (lkF (Z.2.2 (4 + i)) (Z.2.2 (4 + (i + 1))) (Z.1 (2 + (i + 1)))) 0 (Z.1 (2 + i)) < Z.1 (2 + i) then erN Z i + 1 else erN Z i) else erN Z i + 1
theorem erN_le (Z : DS) : ∀ i, erN Z i ≤ i
  | 0 => Nat.le_refl 0
  | i + 1 => by
    have ih := erN_le Z i
    show (if Z.2.1 (11 + i) = nI (cb (Z.2.2 13) (nI (i + 1)) (Z.1 14)) then (if i + 1 < 8 ∧ fx (lkF (Z.2.2 (4 + i)) (Z.2.2 (4 + (i + 1))) (Z.1 (2 + (i + 1)))) 0 (Z.1 (2 + i)) < Z.1 (2 + i) then erN Z i + 1 else erN Z i) else erN Z i + 1) ≤ i + 1
    split
    · split <;> omega
    · omega
set_option maxHeartbeats 4000000 in
set_option maxRecDepth 100000 in
theorem c_X9_hitsContradictLog (l : Launch) (D : va_G) (ay : Nat → ClassId) (ad : Nat → Nat) (Z : DS) (i : Nat) (hi : i < 8) (hA : aI Z) : jM l yX9_hitsContradictLog (jws yX9_hitsContradictLog cX9_hitsContradictLog 2 (some .boolean)) 1 23 0 0 D ay [.ref (ad 0), .int (nI i)] (dW ay ad Z) (fun v w => v = some (.int (if Z.2.1 (11 + i) = nI (cb (Z.2.2 13) (nI (i + 1)) (Z.1 14)) then 0 else 1)) ∧ w = (dW ay ad Z)) := by
  refine jM_of l (by decide) [(0, .ref (ad 0)), (1, .int (nI i))] rfl rfl (fun p9 e9 s9 m9 a9 b9 me9 c9 A9 F => ?_)
  refine j_aload_n F 0 dX9_hitsContradictLog_0 rfl ?_
  have hl := hA.2.2
  refine j_getf F fX9_23 0 rfl rfl dX9_hitsContradictLog_1 ?_
  refine j_iload_n F 1 dX9_hitsContradictLog_4 rfl ?_
  refine j_aald F 11 i (ad (12 + 3 * i)) rfl rfl hi (Nat.le_of_ble_eq_true rfl) rfl dX9_hitsContradictLog_5 ?_
  refine j_ws (slp (12 + 3 * i) 3 (dW ay ad Z) [(ad (12 + 3 * i), .inr (0, [.ref (ad (13 + 3 * i)), .int (nI (i + 1)), .int (Z.2.1 (11 + i))])), (ad (13 + 3 * i), .inr (8, [.ref (ad (14 + 3 * i)), .int (nI (Z.1 (2 + i)))])), (ad (14 + 3 * i), .inl (ay 0, 100, .inl (Z.2.2 (4 + i))))]) (dW_co ay ad Z hi).symm ?_
  refine j_ocallV F (dW_ch ay ad Z hi) kX9_182 (As := []) (rest := []) (c_X0_hitCount l D ay (ad (12 + 3 * i)) (ad (13 + 3 * i)) (ad (14 + 3 * i)) (i + 1) (Z.2.1 (11 + i)) (Z.1 (2 + i)) (Z.2.2 (4 + i))) 0 0 3 rfl rfl rfl rfl rfl rfl rfl rfl rfl ⟨Nat.le_of_ble_eq_true rfl, Nat.le_of_ble_eq_true rfl⟩ dX9_hitsContradictLog_6 (fun v w hw => ?_)
  obtain ⟨rfl, rfl⟩ := hw
  refine ⟨rfl, [(ad (12 + 3 * i), .inr (0, [.ref (ad (13 + 3 * i)), .int (nI (i + 1)), .int (Z.2.1 (11 + i))])), (ad (13 + 3 * i), .inr (8, [.ref (ad (14 + 3 * i)), .int (nI (Z.1 (2 + i)))])), (ad (14 + 3 * i), .inl (ay 0, 100, .inl (Z.2.2 (4 + i))))], rfl, ?_⟩
  refine j_ws (dW ay ad Z) (dW_co ay ad Z hi) ?_
  refine j_aload_n F 0 dX9_hitsContradictLog_9 rfl ?_
  refine j_getf F fX9_30 0 rfl rfl dX9_hitsContradictLog_10 ?_
  refine j_iload_n F 1 dX9_hitsContradictLog_13 rfl ?_
  refine j_iconst F (v := 1) dX9_hitsContradictLog_14 (by decide) ?_
  refine j_iadd F dX9_hitsContradictLog_15 ?_
  refine j_top (nI (i + 1)) (nI_add _ _) ?_
  refine j_scallV F kX9_193 (As := [.int (nI (i + 1))]) (rest := [.int (Z.2.1 (11 + i))]) (c_X5_countBelow l D ay (ad 36) (ad 37) (ad 38) (ad 39) (ad 40) (Z.1 14) (Z.2.2 12) (Z.2.2 13) (Z.1 10) (Z.2.2 14) (nI (i + 1)) hl) 36 36 5 rfl rfl rfl rfl rfl rfl ⟨Nat.le_of_ble_eq_true rfl, Nat.le_of_ble_eq_true rfl⟩ dX9_hitsContradictLog_16 (fun v w hw => ?_)
  obtain ⟨rfl, rfl⟩ := hw
  refine ⟨rfl, (dW ay ad Z), rfl, ?_⟩
  refine j_icmp_eq F 26 dX9_hitsContradictLog_19 (by decide) (fun c_19 => ?_) (fun c_19 => ?_)
  · skip
    refine j_iconst F (v := 0) dX9_hitsContradictLog_26 (by decide) ?_
    exact j_zret F (Or.inl rfl) ⟨by rw [if_pos c_19], rfl⟩ dX9_hitsContradictLog_27 (Nat.le_of_ble_eq_true rfl) (Nat.le_of_ble_eq_true rfl)
  · skip
    refine j_iconst F (v := 1) dX9_hitsContradictLog_22 (by decide) ?_
    refine j_goto F 27 dX9_hitsContradictLog_23 (by decide) ?_
    exact j_zret F (Or.inr rfl) ⟨by rw [if_neg c_19], rfl⟩ dX9_hitsContradictLog_27 (Nat.le_of_ble_eq_true rfl) (Nat.le_of_ble_eq_true rfl)

set_option maxHeartbeats 4000000 in
set_option maxRecDepth 100000 in
theorem c_X9_hasKeyThatNextLacks (l : Launch) (D : va_G) (ay : Nat → ClassId) (ad : Nat → Nat) (Z : DS) (i : Nat) (hi : i < 8) (hA : aI Z) : jM l yX9_hasKeyThatNextLacks (jws yX9_hasKeyThatNextLacks cX9_hasKeyThatNextLacks 5 (some .boolean)) 2 43 0 0 D ay [.ref (ad 0), .int (nI i)] (dW ay ad Z) (fun v w => v = some (.int (if i + 1 < 8 ∧ fx (lkF (Z.2.2 (4 + i)) (Z.2.2 (4 + (i + 1))) (Z.1 (2 + (i + 1)))) 0 (Z.1 (2 + i)) < Z.1 (2 + i) then 1 else 0)) ∧ w = (dW ay ad Z)) := by
  refine jM_of l (by decide) [(0, .ref (ad 0)), (1, .int (nI i))] rfl rfl (fun p9 e9 s9 m9 a9 b9 me9 c9 A9 F => ?_)
  refine j_iload_n F 1 dX9_hasKeyThatNextLacks_0 rfl ?_
  refine j_iconst F (v := 1) dX9_hasKeyThatNextLacks_1 (by decide) ?_
  refine j_iadd F dX9_hasKeyThatNextLacks_2 ?_
  refine j_top (nI (i + 1)) (nI_add _ _) ?_
  refine j_bipush F (v := 8) dX9_hasKeyThatNextLacks_3 (by decide) ?_
  refine j_icmp_lt F 10 dX9_hasKeyThatNextLacks_5 (by decide) (fun c_5 => ?_) (fun c_5 => ?_)
  · skip
    have n_5 := (n_lt (i + 1) 8 rfl rfl (by omega) (by omega)).mp c_5
    have h1 : i + 1 < 8 := by omega
    have k1 := (hA.1 i hi).1
    have k2 := (hA.1 (i + 1) h1).1
    refine j_aload_n F 0 dX9_hasKeyThatNextLacks_10 rfl ?_
    refine j_getf F fX9_23 0 rfl rfl dX9_hasKeyThatNextLacks_11 ?_
    refine j_iload_n F 1 dX9_hasKeyThatNextLacks_14 rfl ?_
    refine j_aald F 11 i (ad (12 + 3 * i)) rfl rfl hi (Nat.le_of_ble_eq_true rfl) rfl dX9_hasKeyThatNextLacks_15 ?_
    refine j_ws (slp (12 + 3 * i) 3 (dW ay ad Z) [(ad (12 + 3 * i), .inr (0, [.ref (ad (13 + 3 * i)), .int (nI (i + 1)), .int (Z.2.1 (11 + i))])), (ad (13 + 3 * i), .inr (8, [.ref (ad (14 + 3 * i)), .int (nI (Z.1 (2 + i)))])), (ad (14 + 3 * i), .inl (ay 0, 100, .inl (Z.2.2 (4 + i))))]) (dW_co ay ad Z hi).symm ?_
    refine j_ocallV F (dW_ch ay ad Z hi) kX9_185 (As := []) (rest := []) (c_X0_keys l D ay (ad (12 + 3 * i)) (ad (13 + 3 * i)) (ad (14 + 3 * i)) (i + 1) (Z.2.1 (11 + i)) (Z.1 (2 + i)) (Z.2.2 (4 + i))) 0 0 3 rfl rfl rfl rfl rfl rfl rfl rfl rfl ⟨Nat.le_of_ble_eq_true rfl, Nat.le_of_ble_eq_true rfl⟩ dX9_hasKeyThatNextLacks_16 (fun v w hw => ?_)
    obtain ⟨rfl, rfl⟩ := hw
    refine ⟨rfl, [(ad (12 + 3 * i), .inr (0, [.ref (ad (13 + 3 * i)), .int (nI (i + 1)), .int (Z.2.1 (11 + i))])), (ad (13 + 3 * i), .inr (8, [.ref (ad (14 + 3 * i)), .int (nI (Z.1 (2 + i)))])), (ad (14 + 3 * i), .inl (ay 0, 100, .inl (Z.2.2 (4 + i))))], rfl, ?_⟩
    refine j_ws (dW ay ad Z) (dW_co ay ad Z hi) ?_
    refine j_astore_n F 2 [(2, .ref (ad (13 + 3 * i))), (0, .ref (ad 0)), (1, .int (nI i))] dX9_hasKeyThatNextLacks_19 rfl (by decide) rfl ?_
    refine j_aload_n F 1 dX9_hasKeyThatNextLacks_20 rfl ?_
    refine j_getf F fX9_23 0 rfl rfl dX9_hasKeyThatNextLacks_21 ?_
    refine j_iload_n F 2 dX9_hasKeyThatNextLacks_24 rfl ?_
    refine j_iconst F (v := 1) dX9_hasKeyThatNextLacks_25 (by decide) ?_
    refine j_iadd F dX9_hasKeyThatNextLacks_26 ?_
    refine j_top (nI (i + 1)) (nI_add _ _) ?_
    refine j_aald F 11 (i + 1) (ad (12 + 3 * (i + 1))) rfl rfl h1 (Nat.le_of_ble_eq_true rfl) rfl dX9_hasKeyThatNextLacks_27 ?_
    refine j_ws (slp (12 + 3 * (i + 1)) 3 (dW ay ad Z) [(ad (12 + 3 * (i + 1)), .inr (0, [.ref (ad (13 + 3 * (i + 1))), .int (nI ((i + 1) + 1)), .int (Z.2.1 (11 + (i + 1)))])), (ad (13 + 3 * (i + 1)), .inr (8, [.ref (ad (14 + 3 * (i + 1))), .int (nI (Z.1 (2 + (i + 1))))])), (ad (14 + 3 * (i + 1)), .inl (ay 0, 100, .inl (Z.2.2 (4 + (i + 1)))))]) (dW_co ay ad Z h1).symm ?_
    refine j_ocallV F (dW_ch ay ad Z h1) kX9_185 (As := []) (rest := []) (c_X0_keys l D ay (ad (12 + 3 * (i + 1))) (ad (13 + 3 * (i + 1))) (ad (14 + 3 * (i + 1))) ((i + 1) + 1) (Z.2.1 (11 + (i + 1))) (Z.1 (2 + (i + 1))) (Z.2.2 (4 + (i + 1)))) 0 0 3 rfl rfl rfl rfl rfl rfl rfl rfl rfl ⟨Nat.le_of_ble_eq_true rfl, Nat.le_of_ble_eq_true rfl⟩ dX9_hasKeyThatNextLacks_28 (fun v w hw => ?_)
    obtain ⟨rfl, rfl⟩ := hw
    refine ⟨rfl, [(ad (12 + 3 * (i + 1)), .inr (0, [.ref (ad (13 + 3 * (i + 1))), .int (nI ((i + 1) + 1)), .int (Z.2.1 (11 + (i + 1)))])), (ad (13 + 3 * (i + 1)), .inr (8, [.ref (ad (14 + 3 * (i + 1))), .int (nI (Z.1 (2 + (i + 1))))])), (ad (14 + 3 * (i + 1)), .inl (ay 0, 100, .inl (Z.2.2 (4 + (i + 1)))))], rfl, ?_⟩
    refine j_ws (dW ay ad Z) (dW_co ay ad Z h1) ?_
    refine j_astore_n F 3 [(3, .ref (ad (13 + 3 * (i + 1)))), (2, .ref (ad (13 + 3 * i))), (0, .ref (ad 0)), (1, .int (nI i))] dX9_hasKeyThatNextLacks_31 rfl (by decide) rfl ?_
    refine j_iconst F (v := 0) dX9_hasKeyThatNextLacks_32 (by decide) ?_
    refine j_istore F 4 [(4, .int 0), (3, .ref (ad (13 + 3 * (i + 1)))), (2, .ref (ad (13 + 3 * i))), (0, .ref (ad 0)), (1, .int (nI i))] dX9_hasKeyThatNextLacks_33 (by decide) rfl ?_
    refine j_loop (σ := Nat) (fun j => j ≤ Z.1 (2 + i) ∧ ∀ q, q < j → lkF (Z.2.2 (4 + i)) (Z.2.2 (4 + (i + 1))) (Z.1 (2 + (i + 1))) q ≠ 0) (fun j => Z.1 (2 + i) - j) (fun j => [(4, .int (nI j)), (3, .ref (ad (13 + 3 * (i + 1)))), (2, .ref (ad (13 + 3 * i))), (0, .ref (ad 0)), (1, .int (nI i))]) (fun j => dW ay ad Z) 0 ⟨Nat.zero_le _, fun q h => absurd h (Nat.not_lt_zero q)⟩ rfl rfl (fun j hI ih => ?_)
    obtain ⟨hj, hno⟩ := hI
    refine j_iload F 0 dX9_hasKeyThatNextLacks_35 rfl ?_
    refine j_aload_n F 2 dX9_hasKeyThatNextLacks_37 rfl ?_
    refine j_ws (slp (12 + 3 * i) 3 (dW ay ad Z) [(ad (12 + 3 * i), .inr (0, [.ref (ad (13 + 3 * i)), .int (nI (i + 1)), .int (Z.2.1 (11 + i))])), (ad (13 + 3 * i), .inr (8, [.ref (ad (14 + 3 * i)), .int (nI (Z.1 (2 + i)))])), (ad (14 + 3 * i), .inl (ay 0, 100, .inl (Z.2.2 (4 + i))))]) (dW_co ay ad Z hi).symm ?_
    refine j_ocallV F (dW_ch ay ad Z hi) kX9_99 (As := []) (rest := [.int (nI j)]) (c_X8_length l D ay (ad (13 + 3 * i)) (ad (14 + 3 * i)) (Z.1 (2 + i)) (Z.2.2 (4 + i))) 1 1 2 rfl rfl rfl rfl rfl rfl rfl rfl rfl ⟨Nat.le_of_ble_eq_true rfl, Nat.le_of_ble_eq_true rfl⟩ dX9_hasKeyThatNextLacks_38 (fun v w hw => ?_)
    obtain ⟨rfl, rfl⟩ := hw
    refine ⟨rfl, [(ad (12 + 3 * i), .inr (0, [.ref (ad (13 + 3 * i)), .int (nI (i + 1)), .int (Z.2.1 (11 + i))])), (ad (13 + 3 * i), .inr (8, [.ref (ad (14 + 3 * i)), .int (nI (Z.1 (2 + i)))])), (ad (14 + 3 * i), .inl (ay 0, 100, .inl (Z.2.2 (4 + i))))], rfl, ?_⟩
    refine j_ws (dW ay ad Z) (dW_co ay ad Z hi) ?_
    refine j_icmp_ge F 65 dX9_hasKeyThatNextLacks_41 (by decide) (fun c_41 => ?_) (fun c_41 => ?_)
    · skip
      have n_41 := (n_le (Z.1 (2 + i)) j rfl rfl (by omega) (by omega)).mp c_41
      refine j_iconst F (v := 0) dX9_hasKeyThatNextLacks_65 (by decide) ?_
      exact j_zret F (Or.inl rfl) ⟨by rw [if_neg (fun h => absurd h.2 (by rw [fx_none (f := lkF (Z.2.2 (4 + i)) (Z.2.2 (4 + (i + 1))) (Z.1 (2 + (i + 1)))) (key := 0) (n := Z.1 (2 + i)) (fun q hq => hno q (by omega))]; omega))], rfl⟩ dX9_hasKeyThatNextLacks_66 (Nat.le_of_ble_eq_true rfl) (Nat.le_of_ble_eq_true rfl)
    · skip
      have n_41 := mt (n_le (Z.1 (2 + i)) j rfl rfl (by omega) (by omega)).mpr c_41
      have hj2 : j < Z.1 (2 + i) := by omega
      refine j_aload_n F 1 dX9_hasKeyThatNextLacks_44 rfl ?_
      refine j_aload_n F 2 dX9_hasKeyThatNextLacks_45 rfl ?_
      refine j_iload F 0 dX9_hasKeyThatNextLacks_46 rfl ?_
      refine j_ws (slp (12 + 3 * i) 3 (dW ay ad Z) [(ad (12 + 3 * i), .inr (0, [.ref (ad (13 + 3 * i)), .int (nI (i + 1)), .int (Z.2.1 (11 + i))])), (ad (13 + 3 * i), .inr (8, [.ref (ad (14 + 3 * i)), .int (nI (Z.1 (2 + i)))])), (ad (14 + 3 * i), .inl (ay 0, 100, .inl (Z.2.2 (4 + i))))]) (dW_co ay ad Z hi).symm ?_
      refine j_ocallV F (dW_ch ay ad Z hi) kX9_108 (As := [.int (nI j)]) (rest := [.ref (ad (13 + 3 * (i + 1)))]) (c_X8_keyIn l D ay (ad (13 + 3 * i)) (ad (14 + 3 * i)) (Z.1 (2 + i)) (Z.2.2 (4 + i)) j k1 hj2) 1 1 2 rfl rfl rfl rfl rfl rfl rfl rfl rfl ⟨Nat.le_of_ble_eq_true rfl, Nat.le_of_ble_eq_true rfl⟩ dX9_hasKeyThatNextLacks_48 (fun v w hw => ?_)
      obtain ⟨rfl, rfl⟩ := hw
      refine ⟨rfl, [(ad (12 + 3 * i), .inr (0, [.ref (ad (13 + 3 * i)), .int (nI (i + 1)), .int (Z.2.1 (11 + i))])), (ad (13 + 3 * i), .inr (8, [.ref (ad (14 + 3 * i)), .int (nI (Z.1 (2 + i)))])), (ad (14 + 3 * i), .inl (ay 0, 100, .inl (Z.2.2 (4 + i))))], rfl, ?_⟩
      refine j_ws (dW ay ad Z) (dW_co ay ad Z hi) ?_
      refine j_ws (slp (12 + 3 * (i + 1)) 3 (dW ay ad Z) [(ad (12 + 3 * (i + 1)), .inr (0, [.ref (ad (13 + 3 * (i + 1))), .int (nI ((i + 1) + 1)), .int (Z.2.1 (11 + (i + 1)))])), (ad (13 + 3 * (i + 1)), .inr (8, [.ref (ad (14 + 3 * (i + 1))), .int (nI (Z.1 (2 + (i + 1))))])), (ad (14 + 3 * (i + 1)), .inl (ay 0, 100, .inl (Z.2.2 (4 + (i + 1)))))]) (dW_co ay ad Z h1).symm ?_
      refine j_ocallV F (dW_ch ay ad Z h1) kX9_186 (As := [.int ((Z.2.2 (4 + i)) j)]) (rest := []) (c_X8_holds l D ay (ad (13 + 3 * (i + 1))) (ad (14 + 3 * (i + 1))) (Z.1 (2 + (i + 1))) (Z.2.2 (4 + (i + 1))) ((Z.2.2 (4 + i)) j) k2) 1 1 2 rfl rfl rfl rfl rfl rfl rfl rfl rfl ⟨Nat.le_of_ble_eq_true rfl, Nat.le_of_ble_eq_true rfl⟩ dX9_hasKeyThatNextLacks_51 (fun v w hw => ?_)
      obtain ⟨rfl, rfl⟩ := hw
      refine ⟨rfl, [(ad (12 + 3 * (i + 1)), .inr (0, [.ref (ad (13 + 3 * (i + 1))), .int (nI ((i + 1) + 1)), .int (Z.2.1 (11 + (i + 1)))])), (ad (13 + 3 * (i + 1)), .inr (8, [.ref (ad (14 + 3 * (i + 1))), .int (nI (Z.1 (2 + (i + 1))))])), (ad (14 + 3 * (i + 1)), .inl (ay 0, 100, .inl (Z.2.2 (4 + (i + 1)))))], rfl, ?_⟩
      refine j_ws (dW ay ad Z) (dW_co ay ad Z h1) ?_
      by_cases hf : fx (Z.2.2 (4 + (i + 1))) (Z.2.2 (4 + i) j) (Z.1 (2 + (i + 1))) < Z.1 (2 + (i + 1))
      · skip
        refine j_top 1 (if_pos hf) ?_
        refine j_if_ne F 59 dX9_hasKeyThatNextLacks_54 (by decide) (fun c_54 => ?_) (fun c_54 => absurd c_54 (by decide))
        refine j_iinc F 0 (nI (j + 1)) [(4, .int (nI (j + 1))), (3, .ref (ad (13 + 3 * (i + 1)))), (2, .ref (ad (13 + 3 * i))), (0, .ref (ad 0)), (1, .int (nI i))] dX9_hasKeyThatNextLacks_59 rfl (nI_1 _) (by decide) rfl ?_
        refine j_goto F 35 dX9_hasKeyThatNextLacks_62 (by decide) ?_
        exact ih (j + 1) ⟨by omega, fun q hq => by
            by_cases h : q = j
            · rw [h, lkF, if_pos hf]; decide
            · exact hno q (by omega)⟩ (by show Z.1 (2 + i) - (j + 1) < Z.1 (2 + i) - j; omega)
      · skip
        refine j_top 0 (if_neg hf) ?_
        refine j_if_ne F 59 dX9_hasKeyThatNextLacks_54 (by decide) (fun c_54 => absurd (by decide) c_54) (fun c_54 => ?_)
        refine j_iconst F (v := 1) dX9_hasKeyThatNextLacks_57 (by decide) ?_
        exact j_zret F (Or.inr rfl) ⟨by rw [if_pos ⟨h1, by rw [fx_at (f := lkF (Z.2.2 (4 + i)) (Z.2.2 (4 + (i + 1))) (Z.1 (2 + (i + 1)))) (key := 0) hj2 hno (if_neg hf)]; exact hj2⟩], rfl⟩ dX9_hasKeyThatNextLacks_58 (Nat.le_of_ble_eq_true rfl) (Nat.le_of_ble_eq_true rfl)
  · skip
    have n_5 := mt (n_lt (i + 1) 8 rfl rfl (by omega) (by omega)).mpr c_5
    refine j_iconst F (v := 0) dX9_hasKeyThatNextLacks_8 (by decide) ?_
    exact j_zret F (Or.inl rfl) ⟨by rw [if_neg (fun h => absurd h.1 (by omega))], rfl⟩ dX9_hasKeyThatNextLacks_9 (Nat.le_of_ble_eq_true rfl) (Nat.le_of_ble_eq_true rfl)

set_option maxHeartbeats 4000000 in
set_option maxRecDepth 100000 in
theorem c_X9_errors (l : Launch) (D : va_G) (ay : Nat → ClassId) (ad : Nat → Nat) (Z : DS) (hA : aI Z) : jM l yX9_errors (jws yX9_errors cX9_errors 3 (some .int)) 3 67 0 0 D ay [.ref (ad 0)] (dW ay ad Z) (fun v w => v = some (.int (nI (erN Z 8))) ∧ w = (dW ay ad Z)) := by
  refine jM_of l (by decide) [(0, .ref (ad 0))] rfl rfl (fun p9 e9 s9 m9 a9 b9 me9 c9 A9 F => ?_)
  refine j_iconst F (v := 0) dX9_errors_0 (by decide) ?_
  refine j_istore_n F 1 [(1, .int 0), (0, .ref (ad 0))] dX9_errors_1 rfl (by decide) rfl ?_
  refine j_iconst F (v := 0) dX9_errors_2 (by decide) ?_
  refine j_istore_n F 2 [(2, .int 0), (1, .int 0), (0, .ref (ad 0))] dX9_errors_3 rfl (by decide) rfl ?_
  refine j_loop (σ := Nat) (fun i => i ≤ 8) (fun i => 8 - i) (fun i => [(2, .int (nI i)), (1, .int (nI (erN Z i))), (0, .ref (ad 0))]) (fun i => dW ay ad Z) 0 (Nat.zero_le _) rfl rfl (fun i hi ih => ?_)
  refine j_iload_n F 0 dX9_errors_4 rfl ?_
  refine j_bipush F (v := 8) dX9_errors_5 (by decide) ?_
  refine j_icmp_ge F 35 dX9_errors_7 (by decide) (fun c_7 => ?_) (fun c_7 => ?_)
  · skip
    have n_7 := (n_le 8 i rfl rfl (by omega) (by omega)).mp c_7
    refine j_iload_n F 1 dX9_errors_35 rfl ?_
    exact j_iret F ⟨by rw [show i = 8 by omega], rfl⟩ dX9_errors_36 (Nat.le_of_ble_eq_true rfl) (Nat.le_of_ble_eq_true rfl)
  · skip
    have n_7 := mt (n_le 8 i rfl rfl (by omega) (by omega)).mpr c_7
    have h8 : i < 8 := by omega
    refine j_aload_n F 2 dX9_errors_10 rfl ?_
    refine j_iload_n F 0 dX9_errors_11 rfl ?_
    refine j_scallV F kX9_272 (As := [.int (nI i)]) (rest := []) (c_X9_hitsContradictLog l D ay ad Z i h8 hA) 0 0 55 rfl rfl rfl rfl rfl rfl ⟨Nat.le_of_ble_eq_true rfl, Nat.le_of_ble_eq_true rfl⟩ dX9_errors_12 (fun v w hw => ?_)
    obtain ⟨rfl, rfl⟩ := hw
    refine ⟨rfl, (dW ay ad Z), slp_all _ _ rfl, ?_⟩
    by_cases hc : Z.2.1 (11 + i) = nI (cb (Z.2.2 13) (nI (i + 1)) (Z.1 14))
    · skip
      refine j_top 0 (if_pos hc) ?_
      refine j_if_ne F 26 dX9_errors_15 (by decide) (fun c_15 => absurd (by decide) c_15) (fun c_15 => ?_)
      refine j_aload_n F 2 dX9_errors_18 rfl ?_
      refine j_iload_n F 0 dX9_errors_19 rfl ?_
      refine j_scallV F kX9_275 (As := [.int (nI i)]) (rest := []) (c_X9_hasKeyThatNextLacks l D ay ad Z i h8 hA) 0 0 55 rfl rfl rfl rfl rfl rfl ⟨Nat.le_of_ble_eq_true rfl, Nat.le_of_ble_eq_true rfl⟩ dX9_errors_20 (fun v w hw => ?_)
      obtain ⟨rfl, rfl⟩ := hw
      refine ⟨rfl, (dW ay ad Z), slp_all _ _ rfl, ?_⟩
      by_cases hf : i + 1 < 8 ∧ fx (lkF (Z.2.2 (4 + i)) (Z.2.2 (4 + (i + 1))) (Z.1 (2 + (i + 1)))) 0 (Z.1 (2 + i)) < Z.1 (2 + i)
      · skip
        refine j_top 1 (if_pos hf) ?_
        refine j_if_eq F 29 dX9_errors_23 (by decide) (fun c_23 => absurd c_23 (by decide)) (fun c_23 => ?_)
        refine j_iinc F 1 (nI (erN Z i + 1)) [(1, .int (nI (erN Z i + 1))), (2, .int (nI i)), (0, .ref (ad 0))] dX9_errors_26 rfl (nI_1 _) (by decide) rfl ?_
        refine j_iinc F 1 (nI (i + 1)) [(2, .int (nI (i + 1))), (1, .int (nI (erN Z i + 1))), (0, .ref (ad 0))] dX9_errors_29 rfl (nI_1 _) (by decide) rfl ?_
        refine j_goto F 4 dX9_errors_32 (by decide) ?_
        have hcb : erN Z i + 1 = erN Z (i + 1) := ((if_pos hc).trans (if_pos hf)).symm
        rw [hcb]
        refine j_sub [0, 1, 2] [(2, .int (nI (i + 1))), (1, .int (nI (erN Z (i + 1)))), (0, .ref (ad 0))] rfl ?_
        exact ih (i + 1) (by omega) (by show 8 - (i + 1) < 8 - i; omega)
      · skip
        refine j_top 0 (if_neg hf) ?_
        refine j_if_eq F 29 dX9_errors_23 (by decide) (fun c_23 => ?_) (fun c_23 => absurd (by decide) c_23)
        refine j_iinc F 0 (nI (i + 1)) [(2, .int (nI (i + 1))), (1, .int (nI (erN Z i))), (0, .ref (ad 0))] dX9_errors_29 rfl (nI_1 _) (by decide) rfl ?_
        refine j_goto F 4 dX9_errors_32 (by decide) ?_
        have hcb : erN Z i = erN Z (i + 1) := ((if_pos hc).trans (if_neg hf)).symm
        rw [hcb]
        refine j_sub [0, 1, 2] [(2, .int (nI (i + 1))), (1, .int (nI (erN Z (i + 1)))), (0, .ref (ad 0))] rfl ?_
        exact ih (i + 1) (by omega) (by show 8 - (i + 1) < 8 - i; omega)
    · skip
      refine j_top 1 (if_neg hc) ?_
      refine j_if_ne F 26 dX9_errors_15 (by decide) (fun c_15 => ?_) (fun c_15 => absurd c_15 (by decide))
      refine j_iinc F 1 (nI (erN Z i + 1)) [(1, .int (nI (erN Z i + 1))), (2, .int (nI i)), (0, .ref (ad 0))] dX9_errors_26 rfl (nI_1 _) (by decide) rfl ?_
      refine j_iinc F 1 (nI (i + 1)) [(2, .int (nI (i + 1))), (1, .int (nI (erN Z i + 1))), (0, .ref (ad 0))] dX9_errors_29 rfl (nI_1 _) (by decide) rfl ?_
      refine j_goto F 4 dX9_errors_32 (by decide) ?_
      have hcb : erN Z i + 1 = erN Z (i + 1) := (if_neg hc).symm
      rw [hcb]
      refine j_sub [0, 1, 2] [(2, .int (nI (i + 1))), (1, .int (nI (erN Z (i + 1)))), (0, .ref (ad 0))] rfl ?_
      exact ih (i + 1) (by omega) (by show 8 - (i + 1) < 8 - i; omega)

set_option maxHeartbeats 4000000 in
set_option maxRecDepth 100000 in
theorem c_X9_hitShare (l : Launch) (hfl : l.stackTraces = false) (D : va_G) (ay : Nat → ClassId) (sa : Nat → Nat) (ad : Nat → Nat) (Z : DS) (cx : Int32) (hA : aI Z) : jMx l yX9_hitShare (jws yX9_hitShare cX9_hitShare 4 (some .float)) 8 143 3 18 D ay sa [.ref (ad 0), .int cx] (dW ay ad Z) (fun v w => ∃ (i : Nat), i < 8 ∧ cx = nI (i + 1) ∧ v = some (.float (if Z.1 14 = 0 then FP.fconst0 else FP.fdiv (FP.i2f (Z.2.1 (11 + i))) (FP.i2f (nI (Z.1 14))))) ∧ w = (dW ay ad Z)) (fun E w => (E = eIA ∧ (oob cx 1 8) ∧ w = (dW ay ad Z))) := by
  refine jMx_of l hfl (by decide) [(0, .ref (ad 0)), (1, .int cx)] rfl rfl (fun p9 e9 s9 m9 a9 b9 me9 c9 A9 F hX hT => ?_)
  refine j_aload_n F 0 dX9_hitShare_0 rfl ?_
  refine j_iload_n F 1 dX9_hitShare_1 rfl ?_
  refine j_sxcallV F hX hT kX9_178 (As := [.int cx]) (rest := []) (c_X9_chosenCache l hfl D ay sa ad Z cx) 0 0 55 rfl rfl rfl rfl rfl rfl ⟨Nat.le_of_ble_eq_true rfl, Nat.le_of_ble_eq_true rfl⟩ dX9_hitShare_2 ⟨Nat.le_of_ble_eq_true rfl, Nat.le_of_ble_eq_true rfl⟩ (fun E w h => ⟨h.2.2, ⟨h.1, h.2.1, rfl⟩⟩) (fun v w hw => ?_)
  obtain ⟨i_2, h2_0, rfl, rfl, rfl⟩ := hw
  refine ⟨rfl, (dW ay ad Z), slp_all _ _ rfl, ?_⟩
  refine j_astore_n F 2 [(2, .ref (ad (12 + 3 * i_2))), (0, .ref (ad 0)), (1, .int (nI (i_2 + 1)))] dX9_hitShare_5 rfl (by decide) rfl ?_
  refine j_aload_n F 1 dX9_hitShare_6 rfl ?_
  have hl := hA.2.2
  refine j_getf F fX9_30 0 rfl rfl dX9_hitShare_7 ?_
  refine j_scallV F kX9_168 (As := []) (rest := []) (c_X5_length l D ay (ad 36) (ad 37) (ad 38) (ad 39) (ad 40) (Z.1 14) (Z.2.2 12) (Z.2.2 13) (Z.1 10) (Z.2.2 14)) 36 36 5 rfl rfl rfl rfl rfl rfl ⟨Nat.le_of_ble_eq_true rfl, Nat.le_of_ble_eq_true rfl⟩ dX9_hitShare_10 (fun v w hw => ?_)
  obtain ⟨rfl, rfl⟩ := hw
  refine ⟨rfl, (dW ay ad Z), rfl, ?_⟩
  refine j_istore_n F 3 [(3, .int (nI (Z.1 14))), (2, .ref (ad (12 + 3 * i_2))), (0, .ref (ad 0)), (1, .int (nI (i_2 + 1)))] dX9_hitShare_13 rfl (by decide) rfl ?_
  refine j_iload_n F 0 dX9_hitShare_14 rfl ?_
  refine j_if_ne F 20 dX9_hitShare_15 (by decide) (fun c_15 => ?_) (fun c_15 => ?_)
  · skip
    have n_15 := mt (n_eq (Z.1 14) 0 rfl rfl (by omega) (by omega)).mpr c_15
    refine j_aload_n F 1 dX9_hitShare_20 rfl ?_
    refine j_ws (slp (12 + 3 * i_2) 3 (dW ay ad Z) [(ad (12 + 3 * i_2), .inr (0, [.ref (ad (13 + 3 * i_2)), .int (nI (i_2 + 1)), .int (Z.2.1 (11 + i_2))])), (ad (13 + 3 * i_2), .inr (8, [.ref (ad (14 + 3 * i_2)), .int (nI (Z.1 (2 + i_2)))])), (ad (14 + 3 * i_2), .inl (ay 0, 100, .inl (Z.2.2 (4 + i_2))))]) (dW_co ay ad Z h2_0).symm ?_
    refine j_ocallV F (dW_ch ay ad Z h2_0) kX9_182 (As := []) (rest := []) (c_X0_hitCount l D ay (ad (12 + 3 * i_2)) (ad (13 + 3 * i_2)) (ad (14 + 3 * i_2)) (i_2 + 1) (Z.2.1 (11 + i_2)) (Z.1 (2 + i_2)) (Z.2.2 (4 + i_2))) 0 0 3 rfl rfl rfl rfl rfl rfl rfl rfl rfl ⟨Nat.le_of_ble_eq_true rfl, Nat.le_of_ble_eq_true rfl⟩ dX9_hitShare_21 (fun v w hw => ?_)
    obtain ⟨rfl, rfl⟩ := hw
    refine ⟨rfl, [(ad (12 + 3 * i_2), .inr (0, [.ref (ad (13 + 3 * i_2)), .int (nI (i_2 + 1)), .int (Z.2.1 (11 + i_2))])), (ad (13 + 3 * i_2), .inr (8, [.ref (ad (14 + 3 * i_2)), .int (nI (Z.1 (2 + i_2)))])), (ad (14 + 3 * i_2), .inl (ay 0, 100, .inl (Z.2.2 (4 + i_2))))], rfl, ?_⟩
    refine j_ws (dW ay ad Z) (dW_co ay ad Z h2_0) ?_
    refine j_i2f F dX9_hitShare_24 ?_
    refine j_iload_n F 0 dX9_hitShare_25 rfl ?_
    refine j_i2f F dX9_hitShare_26 ?_
    refine j_fdiv F dX9_hitShare_27 (fp_n32 (fp_fdiv _ (fun e => n_15 ((nI_eq (b := 0) (by omega) (by decide)).mp e)))) ?_
    exact j_xr (j_fret F ⟨i_2, h2_0, rfl, by rw [if_neg n_15], rfl⟩ dX9_hitShare_28 (Nat.le_of_ble_eq_true rfl) (Nat.le_of_ble_eq_true rfl))
  · skip
    have n_15 := (n_eq (Z.1 14) 0 rfl rfl (by omega) (by omega)).mp c_15
    refine j_fconst0 F dX9_hitShare_18 ?_
    exact j_xr (j_fret F ⟨i_2, h2_0, rfl, by rw [if_pos n_15], rfl⟩ dX9_hitShare_19 (Nat.le_of_ble_eq_true rfl) (Nat.le_of_ble_eq_true rfl))

set_option maxHeartbeats 4000000 in
set_option maxRecDepth 100000 in
theorem c_X9_meanDistance (l : Launch) (D : va_G) (ay : Nat → ClassId) (ad : Nat → Nat) (Z : DS) (hA : aI Z) : jM l yX9_meanDistance (jws yX9_meanDistance cX9_meanDistance 2 (some .double)) 1 23 0 0 D ay [.ref (ad 0)] (dW ay ad Z) (fun v w => v = some (.double (if cb (Z.2.2 13) 100 (Z.1 14) = 0 then FP.dconst0 else FP.ddiv (FP.i2d (dtot (Z.2.2 13) (Z.1 14))) (FP.i2d (nI (cb (Z.2.2 13) 100 (Z.1 14)))))) ∧ w = (dW ay ad Z)) := by
  refine jM_of l (by decide) [(0, .ref (ad 0))] rfl rfl (fun p9 e9 s9 m9 a9 b9 me9 c9 A9 F => ?_)
  refine j_aload_n F 0 dX9_meanDistance_0 rfl ?_
  have hl := hA.2.2
  refine j_getf F fX9_30 0 rfl rfl dX9_meanDistance_1 ?_
  refine j_bipush F (v := 100) dX9_meanDistance_4 (by decide) ?_
  refine j_scallV F kX9_193 (As := [.int 100]) (rest := []) (c_X5_countBelow l D ay (ad 36) (ad 37) (ad 38) (ad 39) (ad 40) (Z.1 14) (Z.2.2 12) (Z.2.2 13) (Z.1 10) (Z.2.2 14) 100 hl) 36 36 5 rfl rfl rfl rfl rfl rfl ⟨Nat.le_of_ble_eq_true rfl, Nat.le_of_ble_eq_true rfl⟩ dX9_meanDistance_6 (fun v w hw => ?_)
  obtain ⟨rfl, rfl⟩ := hw
  refine ⟨rfl, (dW ay ad Z), rfl, ?_⟩
  refine j_istore_n F 1 [(1, .int (nI (cb (Z.2.2 13) 100 (Z.1 14)))), (0, .ref (ad 0))] dX9_meanDistance_9 rfl (by decide) rfl ?_
  have hcb := cb_le (Z.2.2 13) 100 (Z.1 14)
  refine j_iload_n F 0 dX9_meanDistance_10 rfl ?_
  refine j_if_ne F 16 dX9_meanDistance_11 (by decide) (fun c_11 => ?_) (fun c_11 => ?_)
  · skip
    have n_11 := mt (n_eq (cb (Z.2.2 13) 100 (Z.1 14)) 0 rfl rfl (by omega) (by omega)).mpr c_11
    refine j_aload_n F 1 dX9_meanDistance_16 rfl ?_
    refine j_getf F fX9_30 0 rfl rfl dX9_meanDistance_17 ?_
    refine j_scallV F kX9_269 (As := []) (rest := []) (c_X5_distanceTotal l D ay (ad 36) (ad 37) (ad 38) (ad 39) (ad 40) (Z.1 14) (Z.2.2 12) (Z.2.2 13) (Z.1 10) (Z.2.2 14) hl) 36 36 5 rfl rfl rfl rfl rfl rfl ⟨Nat.le_of_ble_eq_true rfl, Nat.le_of_ble_eq_true rfl⟩ dX9_meanDistance_20 (fun v w hw => ?_)
    obtain ⟨rfl, rfl⟩ := hw
    refine ⟨rfl, (dW ay ad Z), rfl, ?_⟩
    refine j_i2d F dX9_meanDistance_23 ?_
    refine j_iload_n F 0 dX9_meanDistance_24 rfl ?_
    refine j_i2d F dX9_meanDistance_25 ?_
    refine j_ddiv F dX9_meanDistance_26 (fp_n64 (fp_ddiv _ (fun e => n_11 ((nI_eq (b := 0) (by omega) (by decide)).mp e)))) ?_
    exact j_dret F ⟨by rw [if_neg n_11], rfl⟩ dX9_meanDistance_27 (Nat.le_of_ble_eq_true rfl) (Nat.le_of_ble_eq_true rfl)
  · skip
    have n_11 := (n_eq (cb (Z.2.2 13) 100 (Z.1 14)) 0 rfl rfl (by omega) (by omega)).mp c_11
    refine j_dconst0 F dX9_meanDistance_14 ?_
    exact j_dret F ⟨by rw [if_pos n_11], rfl⟩ dX9_meanDistance_15 (Nat.le_of_ble_eq_true rfl) (Nat.le_of_ble_eq_true rfl)

