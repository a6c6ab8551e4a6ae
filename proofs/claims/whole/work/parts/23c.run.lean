set_option maxHeartbeats 4000000 in
set_option maxRecDepth 100000 in
theorem c_X9_run (l : Launch) (hfl : l.stackTraces = false) (D : va_G) (ay : Nat → ClassId) (sa : Nat → Nat) (ad : Nat → Nat) (Z : DS) (ht : Z.1 15 ≤ 300) (hA : aI Z) (hX1 : xI Z) (hV : (prs (Z.2.2 15) (Z.1 15) (Z.1 15) (sk (Z.2.2 15) (Z.1 15) 0) 0).2 = -1 → stV (((prs (Z.2.2 15) (Z.1 15) (Z.1 15) (sk (Z.2.2 15) (Z.1 15) 0) 0).1).foldl pst (0, Z.2.2 16, Z.2.2 17, Z.2.2 18, Z.2.2 19, 0))) : jMx l yX9_run (jws yX9_run cX9_run 3 (some .int)) 6 131 3 18 D ay sa [.ref (ad 0)] (dW ay ad Z) (fun v w => ∃ (pos : Nat), ∃ (P : PS), Z.1 14 ≤ 800 ∧ (prs (Z.2.2 15) (Z.1 15) (Z.1 15) (sk (Z.2.2 15) (Z.1 15) 0) 0).2 = -1 ∧ P = ((prs (Z.2.2 15) (Z.1 15) (Z.1 15) (sk (Z.2.2 15) (Z.1 15) 0) 0).1).foldl pst (0, Z.2.2 16, Z.2.2 17, Z.2.2 18, Z.2.2 19, 0) ∧ v = some (.int (nI P.1)) ∧ w = (dW ay ad (runF (tU (eU (rU Z pos P) (-1)) 0 (Z.2.2 15)) P.2.1 P.2.2.1 P.1))) (fun E w => (E = eIS ∧ 800 < Z.1 14 ∧ w = dW ay ad Z) ∨ (E = eIA ∧ ∃ (pos : Nat) (P : PS), Z.1 14 ≤ 800 ∧ ¬ (prs (Z.2.2 15) (Z.1 15) (Z.1 15) (sk (Z.2.2 15) (Z.1 15) 0) 0).2 = -1 ∧ w = dW ay ad (tU (eU (rU Z pos P) ((prs (Z.2.2 15) (Z.1 15) (Z.1 15) (sk (Z.2.2 15) (Z.1 15) 0) 0).2)) 0 (Z.2.2 15)))) := by
  refine jMx_of l hfl (by decide) [(0, .ref (ad 0))] rfl rfl (fun p9 e9 s9 m9 a9 b9 me9 c9 A9 F hX hT => ?_)
  refine j_aload_n F 0 dX9_run_0 rfl ?_
  refine j_getf F fX9_30 0 rfl rfl dX9_run_1 ?_
  refine j_scallV F kX9_168 (As := []) (rest := []) (c_X5_length l D ay (ad 36) (ad 37) (ad 38) (ad 39) (ad 40) (Z.1 14) (Z.2.2 12) (Z.2.2 13) (Z.1 10) (Z.2.2 14)) 36 36 5 rfl rfl rfl rfl rfl rfl ⟨Nat.le_of_ble_eq_true rfl, Nat.le_of_ble_eq_true rfl⟩ dX9_run_4 (fun v w hw => ?_)
  obtain ⟨rfl, rfl⟩ := hw
  refine ⟨rfl, (dW ay ad Z), rfl, ?_⟩
  have hl := hA.2.2
  refine j_sipush F (v := 800) dX9_run_7 (by decide) ?_
  refine j_icmp_le F 23 dX9_run_10 (by decide) (fun c_10 => ?_) (fun c_10 => ?_)
  · skip
    have n_10 := (n_le (Z.1 14) 800 rfl rfl (by omega) (by omega)).mp c_10
    refine j_aload_n F 0 dX9_run_23 rfl ?_
    refine j_aload_n F 0 dX9_run_24 rfl ?_
    refine j_getf F fX9_37 0 rfl rfl dX9_run_25 ?_
    refine j_scallV F kX9_221 (As := []) (rest := [.ref (ad 0)]) (c_X4_read l D ay (ad 41) (ad 42) (ad 44) (Z.1 16) (ad 43) (Z.1 15) (Z.2.2 15) (ad 45) (ad 46) (ad 47) (ad 48) (Z.1 17, Z.2.2 16, Z.2.2 17, Z.2.2 18, Z.2.2 19, Z.1 18) ht) 41 41 8 rfl rfl rfl rfl rfl rfl ⟨Nat.le_of_ble_eq_true rfl, Nat.le_of_ble_eq_true rfl⟩ dX9_run_28 (fun v w hw => ?_)
    obtain ⟨pos2_28, P2_28, h28_0, h28_1, rfl, rfl⟩ := hw
    refine ⟨rfl, (dW ay ad (rU Z pos2_28 P2_28)), dW_r ay ad Z .., ?_⟩
    refine j_putf F fX9_48 0 (dW ay ad (eU (rU Z pos2_28 P2_28) (prs (Z.2.2 15) (Z.1 15) (Z.1 15) (sk (Z.2.2 15) (Z.1 15) 0) 0).2)) rfl rfl rfl rfl rfl (Nat.le_of_ble_eq_true rfl) dX9_run_31 ?_
    refine j_aload_n F 0 dX9_run_34 rfl ?_
    refine j_getf F fX9_37 0 rfl rfl dX9_run_35 ?_
    refine j_scallV F kX9_201 (As := []) (rest := []) (c_X4_tape l D ay (ad 41) (ad 42) (ad 44) ((eU (rU Z pos2_28 P2_28) (prs (Z.2.2 15) (Z.1 15) (Z.1 15) (sk (Z.2.2 15) (Z.1 15) 0) 0).2).1 16) (ad 43) ((eU (rU Z pos2_28 P2_28) (prs (Z.2.2 15) (Z.1 15) (Z.1 15) (sk (Z.2.2 15) (Z.1 15) 0) 0).2).1 15) ((eU (rU Z pos2_28 P2_28) (prs (Z.2.2 15) (Z.1 15) (Z.1 15) (sk (Z.2.2 15) (Z.1 15) 0) 0).2).2.2 15) (ad 45) (ad 46) (ad 47) (ad 48) ((eU (rU Z pos2_28 P2_28) (prs (Z.2.2 15) (Z.1 15) (Z.1 15) (sk (Z.2.2 15) (Z.1 15) 0) 0).2).1 17) ((eU (rU Z pos2_28 P2_28) (prs (Z.2.2 15) (Z.1 15) (Z.1 15) (sk (Z.2.2 15) (Z.1 15) 0) 0).2).2.2 16) ((eU (rU Z pos2_28 P2_28) (prs (Z.2.2 15) (Z.1 15) (Z.1 15) (sk (Z.2.2 15) (Z.1 15) 0) 0).2).2.2 17) ((eU (rU Z pos2_28 P2_28) (prs (Z.2.2 15) (Z.1 15) (Z.1 15) (sk (Z.2.2 15) (Z.1 15) 0) 0).2).2.2 18) ((eU (rU Z pos2_28 P2_28) (prs (Z.2.2 15) (Z.1 15) (Z.1 15) (sk (Z.2.2 15) (Z.1 15) 0) 0).2).2.2 19) ((eU (rU Z pos2_28 P2_28) (prs (Z.2.2 15) (Z.1 15) (Z.1 15) (sk (Z.2.2 15) (Z.1 15) 0) 0).2).1 18)) 41 41 8 rfl rfl rfl rfl rfl rfl ⟨Nat.le_of_ble_eq_true rfl, Nat.le_of_ble_eq_true rfl⟩ dX9_run_38 (fun v w hw => ?_)
    obtain ⟨rfl, rfl⟩ := hw
    refine ⟨rfl, (dW ay ad (eU (rU Z pos2_28 P2_28) (prs (Z.2.2 15) (Z.1 15) (Z.1 15) (sk (Z.2.2 15) (Z.1 15) 0) 0).2)), rfl, ?_⟩
    refine j_scallV F kX9_216 (As := []) (rest := []) (c_X6_empty l D ay (ad 42) (ad 43) ((eU (rU Z pos2_28 P2_28) (prs (Z.2.2 15) (Z.1 15) (Z.1 15) (sk (Z.2.2 15) (Z.1 15) 0) 0).2).1 15) ((eU (rU Z pos2_28 P2_28) (prs (Z.2.2 15) (Z.1 15) (Z.1 15) (sk (Z.2.2 15) (Z.1 15) 0) 0).2).2.2 15)) 42 42 2 rfl rfl rfl rfl rfl rfl ⟨Nat.le_of_ble_eq_true rfl, Nat.le_of_ble_eq_true rfl⟩ dX9_run_41 (fun v w hw => ?_)
    obtain ⟨rfl, rfl⟩ := hw
    refine ⟨rfl, (dW ay ad (tU (eU (rU Z pos2_28 P2_28) ((prs (Z.2.2 15) (Z.1 15) (Z.1 15) (sk (Z.2.2 15) (Z.1 15) 0) 0).2)) 0 (Z.2.2 15))), dW_t ay ad (eU (rU Z pos2_28 P2_28) (prs (Z.2.2 15) (Z.1 15) (Z.1 15) (sk (Z.2.2 15) (Z.1 15) 0) 0).2) .., ?_⟩
    refine j_pop F dX9_run_44 rfl ?_
    refine j_aload_n F 0 dX9_run_45 rfl ?_
    refine j_getf F fX9_48 0 rfl rfl dX9_run_46 ?_
    refine j_top (prs (Z.2.2 15) (Z.1 15) (Z.1 15) (sk (Z.2.2 15) (Z.1 15) 0) 0).2 rfl ?_
    refine j_iconst F (v := (-1)) dX9_run_49 (by decide) ?_
    refine j_icmp_eq F 63 dX9_run_50 (by decide) (fun c_50 => ?_) (fun c_50 => ?_)
    · skip
      have hP2 := h28_0 c_50
      have hV2 := hV c_50
      rw [← hP2] at hV2
      refine j_ws (dW ay ad (tU (eU (rU Z pos2_28 P2_28) (-1)) 0 (Z.2.2 15))) (by rw [c_50]) ?_
      refine j_aload_n F 0 dX9_run_63 rfl ?_
      refine j_getf F fX9_37 0 rfl rfl dX9_run_64 ?_
      refine j_scallV F kX9_226 (As := []) (rest := []) (c_X4_program l D ay (ad 41) (ad 42) (ad 44) ((tU (eU (rU Z pos2_28 P2_28) (-1)) 0 (Z.2.2 15)).1 16) (ad 43) ((tU (eU (rU Z pos2_28 P2_28) (-1)) 0 (Z.2.2 15)).1 15) ((tU (eU (rU Z pos2_28 P2_28) (-1)) 0 (Z.2.2 15)).2.2 15) (ad 45) (ad 46) (ad 47) (ad 48) ((tU (eU (rU Z pos2_28 P2_28) (-1)) 0 (Z.2.2 15)).1 17) ((tU (eU (rU Z pos2_28 P2_28) (-1)) 0 (Z.2.2 15)).2.2 16) ((tU (eU (rU Z pos2_28 P2_28) (-1)) 0 (Z.2.2 15)).2.2 17) ((tU (eU (rU Z pos2_28 P2_28) (-1)) 0 (Z.2.2 15)).2.2 18) ((tU (eU (rU Z pos2_28 P2_28) (-1)) 0 (Z.2.2 15)).2.2 19) ((tU (eU (rU Z pos2_28 P2_28) (-1)) 0 (Z.2.2 15)).1 18)) 41 41 8 rfl rfl rfl rfl rfl rfl ⟨Nat.le_of_ble_eq_true rfl, Nat.le_of_ble_eq_true rfl⟩ dX9_run_67 (fun v w hw => ?_)
      obtain ⟨rfl, rfl⟩ := hw
      refine ⟨rfl, (dW ay ad (tU (eU (rU Z pos2_28 P2_28) (-1)) 0 (Z.2.2 15))), rfl, ?_⟩
      refine j_astore_n F 1 [(1, .ref (ad 44)), (0, .ref (ad 0))] dX9_run_70 rfl (by decide) rfl ?_
      refine j_iconst F (v := 0) dX9_run_71 (by decide) ?_
      refine j_istore_n F 2 [(2, .int 0), (1, .ref (ad 44)), (0, .ref (ad 0))] dX9_run_72 rfl (by decide) rfl ?_
      have hrun := runF_I (T := tU (eU (rU Z pos2_28 P2_28) (-1)) 0 (Z.2.2 15)) hV2 (aI_fr hA (rd_fr Z pos2_28 P2_28 (-1) 0 (Z.2.2 15)).1 (rd_fr Z pos2_28 P2_28 (-1) 0 (Z.2.2 15)).2) hX1 (by show Z.1 14 ≤ 800; omega)
      refine j_loop (σ := Nat) (fun i => i ≤ P2_28.1) (fun i => P2_28.1 - i) (fun i => [(2, .int (nI i)), (1, .ref (ad 44)), (0, .ref (ad 0))]) (fun i => dW ay ad (runF (tU (eU (rU Z pos2_28 P2_28) (-1)) 0 (Z.2.2 15)) P2_28.2.1 P2_28.2.2.1 i)) 0 (Nat.zero_le _) rfl rfl (fun i hi ih => ?_)
      obtain ⟨r1, r2, r3, r4⟩ := hrun i hi
      have hV1 := hV2.1
      have q1 : (runF (tU (eU (rU Z pos2_28 P2_28) (-1)) 0 (Z.2.2 15)) P2_28.2.1 P2_28.2.2.1 i).1 17 = P2_28.1 := r4.1 17 (by omega)
      have q2 : (runF (tU (eU (rU Z pos2_28 P2_28) (-1)) 0 (Z.2.2 15)) P2_28.2.1 P2_28.2.2.1 i).2.2 16 = P2_28.2.1 := r4.2.2 16 (by omega)
      have q3 : (runF (tU (eU (rU Z pos2_28 P2_28) (-1)) 0 (Z.2.2 15)) P2_28.2.1 P2_28.2.2.1 i).2.2 17 = P2_28.2.2.1 := r4.2.2 17 (by omega)
      have q4 : (runF (tU (eU (rU Z pos2_28 P2_28) (-1)) 0 (Z.2.2 15)) P2_28.2.1 P2_28.2.2.1 i).1 14 ≤ Z.1 14 + i := r3
      refine j_iload_n F 0 dX9_run_73 rfl ?_
      refine j_aload_n F 1 dX9_run_74 rfl ?_
      refine j_scallV F kX9_230 (As := []) (rest := [.int (nI i)]) (c_X3_length l D ay (ad 44) (ad 45) (ad 46) (ad 47) (ad 48) ((runF (tU (eU (rU Z pos2_28 P2_28) (-1)) 0 (Z.2.2 15)) P2_28.2.1 P2_28.2.2.1 i).1 17) ((runF (tU (eU (rU Z pos2_28 P2_28) (-1)) 0 (Z.2.2 15)) P2_28.2.1 P2_28.2.2.1 i).2.2 16) ((runF (tU (eU (rU Z pos2_28 P2_28) (-1)) 0 (Z.2.2 15)) P2_28.2.1 P2_28.2.2.1 i).2.2 17) ((runF (tU (eU (rU Z pos2_28 P2_28) (-1)) 0 (Z.2.2 15)) P2_28.2.1 P2_28.2.2.1 i).2.2 18) ((runF (tU (eU (rU Z pos2_28 P2_28) (-1)) 0 (Z.2.2 15)) P2_28.2.1 P2_28.2.2.1 i).2.2 19) ((runF (tU (eU (rU Z pos2_28 P2_28) (-1)) 0 (Z.2.2 15)) P2_28.2.1 P2_28.2.2.1 i).1 18)) 44 44 5 rfl rfl rfl rfl rfl rfl ⟨Nat.le_of_ble_eq_true rfl, Nat.le_of_ble_eq_true rfl⟩ dX9_run_75 (fun v w hw => ?_)
      obtain ⟨rfl, rfl⟩ := hw
      refine ⟨rfl, (dW ay ad (runF (tU (eU (rU Z pos2_28 P2_28) (-1)) 0 (Z.2.2 15)) P2_28.2.1 P2_28.2.2.1 i)), rfl, ?_⟩
      refine j_top (nI P2_28.1) (by rw [q1]) ?_
      refine j_icmp_ge F 101 dX9_run_78 (by decide) (fun c_78 => ?_) (fun c_78 => ?_)
      · skip
        have n_78 := (n_le P2_28.1 i rfl rfl (by omega) (by omega)).mp c_78
        refine j_aload_n F 1 dX9_run_101 rfl ?_
        refine j_scallV F kX9_230 (As := []) (rest := []) (c_X3_length l D ay (ad 44) (ad 45) (ad 46) (ad 47) (ad 48) ((runF (tU (eU (rU Z pos2_28 P2_28) (-1)) 0 (Z.2.2 15)) P2_28.2.1 P2_28.2.2.1 i).1 17) ((runF (tU (eU (rU Z pos2_28 P2_28) (-1)) 0 (Z.2.2 15)) P2_28.2.1 P2_28.2.2.1 i).2.2 16) ((runF (tU (eU (rU Z pos2_28 P2_28) (-1)) 0 (Z.2.2 15)) P2_28.2.1 P2_28.2.2.1 i).2.2 17) ((runF (tU (eU (rU Z pos2_28 P2_28) (-1)) 0 (Z.2.2 15)) P2_28.2.1 P2_28.2.2.1 i).2.2 18) ((runF (tU (eU (rU Z pos2_28 P2_28) (-1)) 0 (Z.2.2 15)) P2_28.2.1 P2_28.2.2.1 i).2.2 19) ((runF (tU (eU (rU Z pos2_28 P2_28) (-1)) 0 (Z.2.2 15)) P2_28.2.1 P2_28.2.2.1 i).1 18)) 44 44 5 rfl rfl rfl rfl rfl rfl ⟨Nat.le_of_ble_eq_true rfl, Nat.le_of_ble_eq_true rfl⟩ dX9_run_102 (fun v w hw => ?_)
        obtain ⟨rfl, rfl⟩ := hw
        refine ⟨rfl, (dW ay ad (runF (tU (eU (rU Z pos2_28 P2_28) (-1)) 0 (Z.2.2 15)) P2_28.2.1 P2_28.2.2.1 i)), rfl, ?_⟩
        refine j_top (nI P2_28.1) (by rw [q1]) ?_
        exact j_xr (j_iret F ⟨pos2_28, P2_28, by omega, c_50, hP2, rfl, by rw [show i = P2_28.1 by omega]⟩ dX9_run_105 (Nat.le_of_ble_eq_true rfl) (Nat.le_of_ble_eq_true rfl))
      · skip
        have n_78 := mt (n_le P2_28.1 i rfl rfl (by omega) (by omega)).mpr c_78
        refine j_aload_n F 2 dX9_run_81 rfl ?_
        refine j_aload_n F 1 dX9_run_82 rfl ?_
        refine j_iload_n F 0 dX9_run_83 rfl ?_
        refine j_scallV F kX9_233 (As := [.int (nI i)]) (rest := [.ref (ad 0)]) (c_X3_letterIn l D ay (ad 44) (ad 45) (ad 46) (ad 47) (ad 48) ((runF (tU (eU (rU Z pos2_28 P2_28) (-1)) 0 (Z.2.2 15)) P2_28.2.1 P2_28.2.2.1 i).1 17) ((runF (tU (eU (rU Z pos2_28 P2_28) (-1)) 0 (Z.2.2 15)) P2_28.2.1 P2_28.2.2.1 i).2.2 16) ((runF (tU (eU (rU Z pos2_28 P2_28) (-1)) 0 (Z.2.2 15)) P2_28.2.1 P2_28.2.2.1 i).2.2 17) ((runF (tU (eU (rU Z pos2_28 P2_28) (-1)) 0 (Z.2.2 15)) P2_28.2.1 P2_28.2.2.1 i).2.2 18) ((runF (tU (eU (rU Z pos2_28 P2_28) (-1)) 0 (Z.2.2 15)) P2_28.2.1 P2_28.2.2.1 i).2.2 19) ((runF (tU (eU (rU Z pos2_28 P2_28) (-1)) 0 (Z.2.2 15)) P2_28.2.1 P2_28.2.2.1 i).1 18) i (by omega) (by omega)) 44 44 5 rfl rfl rfl rfl rfl rfl ⟨Nat.le_of_ble_eq_true rfl, Nat.le_of_ble_eq_true rfl⟩ dX9_run_84 (fun v w hw => ?_)
        obtain ⟨rfl, rfl⟩ := hw
        refine ⟨rfl, (dW ay ad (runF (tU (eU (rU Z pos2_28 P2_28) (-1)) 0 (Z.2.2 15)) P2_28.2.1 P2_28.2.2.1 i)), rfl, ?_⟩
        refine j_top (P2_28.2.1 i) (by rw [q2]) ?_
        refine j_aload_n F 1 dX9_run_87 rfl ?_
        refine j_iload_n F 0 dX9_run_88 rfl ?_
        refine j_scallV F kX9_236 (As := [.int (nI i)]) (rest := [.int (P2_28.2.1 i), .ref (ad 0)]) (c_X3_numberIn l D ay (ad 44) (ad 45) (ad 46) (ad 47) (ad 48) ((runF (tU (eU (rU Z pos2_28 P2_28) (-1)) 0 (Z.2.2 15)) P2_28.2.1 P2_28.2.2.1 i).1 17) ((runF (tU (eU (rU Z pos2_28 P2_28) (-1)) 0 (Z.2.2 15)) P2_28.2.1 P2_28.2.2.1 i).2.2 16) ((runF (tU (eU (rU Z pos2_28 P2_28) (-1)) 0 (Z.2.2 15)) P2_28.2.1 P2_28.2.2.1 i).2.2 17) ((runF (tU (eU (rU Z pos2_28 P2_28) (-1)) 0 (Z.2.2 15)) P2_28.2.1 P2_28.2.2.1 i).2.2 18) ((runF (tU (eU (rU Z pos2_28 P2_28) (-1)) 0 (Z.2.2 15)) P2_28.2.1 P2_28.2.2.1 i).2.2 19) ((runF (tU (eU (rU Z pos2_28 P2_28) (-1)) 0 (Z.2.2 15)) P2_28.2.1 P2_28.2.2.1 i).1 18) i (by omega) (by omega)) 44 44 5 rfl rfl rfl rfl rfl rfl ⟨Nat.le_of_ble_eq_true rfl, Nat.le_of_ble_eq_true rfl⟩ dX9_run_89 (fun v w hw => ?_)
        obtain ⟨rfl, rfl⟩ := hw
        refine ⟨rfl, (dW ay ad (runF (tU (eU (rU Z pos2_28 P2_28) (-1)) 0 (Z.2.2 15)) P2_28.2.1 P2_28.2.2.1 i)), rfl, ?_⟩
        refine j_top (P2_28.2.2.1 i) (by rw [q3]) ?_
        refine j_scallV F kX9_239 (As := [.int (P2_28.2.1 i), .int (P2_28.2.2.1 i)]) (rest := []) (c_X9_performStep l D ay ad (runF (tU (eU (rU Z pos2_28 P2_28) (-1)) 0 (Z.2.2 15)) P2_28.2.1 P2_28.2.2.1 i) (P2_28.2.1 i) (P2_28.2.2.1 i) (hV2.2 i (by omega)) r1 r2 (by omega)) 0 0 55 rfl rfl rfl rfl rfl rfl ⟨Nat.le_of_ble_eq_true rfl, Nat.le_of_ble_eq_true rfl⟩ dX9_run_92 (fun v w hw => ?_)
        obtain ⟨rfl, rfl⟩ := hw
        refine ⟨rfl, (dW ay ad (runF (tU (eU (rU Z pos2_28 P2_28) (-1)) 0 (Z.2.2 15)) P2_28.2.1 P2_28.2.2.1 (i + 1))), rfl, ?_⟩
        refine j_iinc F 0 (nI (i + 1)) [(2, .int (nI (i + 1))), (1, .ref (ad 44)), (0, .ref (ad 0))] dX9_run_95 rfl (nI_1 _) (by decide) rfl ?_
        refine j_goto F 73 dX9_run_98 (by decide) ?_
        exact ih (i + 1) (by omega) (by show P2_28.1 - (i + 1) < P2_28.1 - i; omega)
    · skip
      exact j_throw F hfl hX hT (E := eIA) (text := "the text has an error") (names := ["java/lang/RuntimeException", "java/lang/Exception"]) (ik := 196) (is := 224) (ic := 200) (a9 := sa 6) rfl (by decide) gk_IA gi_IA hX.2.2.1.2.2.2.2.2.2.1 gx_IA gb_IA hX.2.2.2.2.2.2.1 go_IA dX9_run_53 dX9_run_56 dX9_run_57 dX9_run_59 dX9_run_62 ⟨Nat.le_of_ble_eq_true rfl, Nat.le_of_ble_eq_true rfl, Nat.le_of_ble_eq_true rfl, Nat.le_of_ble_eq_true rfl⟩ ⟨Nat.le_of_ble_eq_true rfl, Nat.le_of_ble_eq_true rfl⟩ (Or.inr ⟨rfl, pos2_28, P2_28, by omega, c_50, rfl⟩)
  · skip
    have n_10 := mt (n_le (Z.1 14) 800 rfl rfl (by omega) (by omega)).mpr c_10
    exact j_throw F hfl hX hT (E := eIS) (text := "the record has no room for a run") (names := ["java/lang/RuntimeException", "java/lang/Exception"]) (ik := 142) (is := 219) (ic := 146) (a9 := sa 5) rfl (by decide) gk_IS gi_IS hX.2.2.1.2.2.2.2.2.1 gx_IS gb_IS hX.2.2.2.2.2.2.2.1 go_IS dX9_run_13 dX9_run_16 dX9_run_17 dX9_run_19 dX9_run_22 ⟨Nat.le_of_ble_eq_true rfl, Nat.le_of_ble_eq_true rfl, Nat.le_of_ble_eq_true rfl, Nat.le_of_ble_eq_true rfl⟩ ⟨Nat.le_of_ble_eq_true rfl, Nat.le_of_ble_eq_true rfl⟩ (Or.inl ⟨rfl, (by omega), rfl⟩)

