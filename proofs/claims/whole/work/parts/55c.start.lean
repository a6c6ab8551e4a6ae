theorem whole_start {p : Program} {e : Env} {s : State} {m : MethodId} {below : List Frame} {meth : Method} {c : Code} (l : Launch) (hflags : l.flags = flags0) {b L : Nat} {xs : Nat → Int32} (hL : L ≤ 3072) (C0 : lw_At p s m meth c b L xs) : W p l e room_1 s m #[Value.ref b] below meth c s.heap [] 0 0 (lw_Z below #[Value.ref b] s) (entryFrame m ([Value.ref b] : List Value).toArray 10) := by
  obtain ⟨hx, hb, hr, hml, hown, hts, hX, hbl, hlocks, hgv⟩ := id C0
  obtain ⟨D, ay, sa, hK, hJX, hJN, hJU⟩ := lw_facts hts hgv
  have hfl : l.stackTraces = false := by
    unfold Launch.stackTraces
    rw [hflags]
    decide +kernel
  have F : jF p s m #[Value.ref b] meth c cL_law 10 RL (some .boolean) D ay (fun q : Nat => s.heap.size ≤ q) := ⟨hx, hb, hml, hown, fun w h => hts w (List.mem_filter.mp h).1, hK, fun _ h => h, hlocks, hr⟩
  have hbA : ¬ (fun q : Nat => s.heap.size ≤ q) b := Nat.not_le.mpr hbl
  suffices J0 : jJ p l e room_1 s m #[Value.ref b] below meth c (lw_Z below #[Value.ref b] s) D (fun q : Nat => s.heap.size ≤ q) 10 0 0 [] 0 [(0, .ref b)] [] by
    have hl := lv_entry ([.ref b]) (n := 10) (Nat.le_of_ble_eq_true rfl)
    rw [lg_entry_eq]
    exact J0 s.heap [] _ (fun k q h => by simp at h) ⟨fun i j p q h => by simp at h, fun k q h => by simp at h⟩ va_S.rf hl
  refine j_new F nwL_8 [.null, .null, .null, .null, .null, .null, .int 0] (fun j hj => by match j, hj with | 0, _ => rfl | 1, _ => rfl | 2, _ => rfl | 3, _ => rfl | 4, _ => rfl | 5, _ => rfl | 6, _ => rfl | j + 7, h => exact absurd h (by omega)) ⟨Nat.le_of_ble_eq_true rfl, Nat.le_of_ble_eq_true rfl⟩ dL_law_0 (fun q0 => ?_)
  refine j_dup F dL_law_3 rfl ?_
  refine j_callI F hJU kIL_130 (As := []) (rest := [.ref q0]) (c_X9_init l D ay q0) [0] [] [] rfl rfl rfl rfl rfl rfl ⟨Nat.le_of_ble_eq_true rfl, Nat.le_of_ble_eq_true rfl⟩ dL_law_4 (fun v w hw => ?_)
  obtain ⟨ad, rfl, rfl, rfl⟩ := hw
  refine j_ws (dW ay ad dZ) rfl ?_
  refine j_astore_n F 1 [(1, .ref (ad 0)), (0, .ref b)] dL_law_7 rfl (by decide) rfl ?_
  refine j_new F nwL_131 [.int 0, .null, .null, .null, .int 0, .int 0, .int 0, .null, .null, .null, .null, .null, .null, .int 0, .null, .null, .int 0, .int 0, .int 0, .int 0, .int 0, .null, .null, .int 0, .int 0, .null, .null, .null, .null, .null, .null, .int 0, .int 0, .int 0, .int 0, .int 0] (fun j hj => by match j, hj with | 0, _ => rfl | 1, _ => rfl | 2, _ => rfl | 3, _ => rfl | 4, _ => rfl | 5, _ => rfl | 6, _ => rfl | 7, _ => rfl | 8, _ => rfl | 9, _ => rfl | 10, _ => rfl | 11, _ => rfl | 12, _ => rfl | 13, _ => rfl | 14, _ => rfl | 15, _ => rfl | 16, _ => rfl | 17, _ => rfl | 18, _ => rfl | 19, _ => rfl | 20, _ => rfl | 21, _ => rfl | 22, _ => rfl | 23, _ => rfl | 24, _ => rfl | 25, _ => rfl | 26, _ => rfl | 27, _ => rfl | 28, _ => rfl | 29, _ => rfl | 30, _ => rfl | 31, _ => rfl | 32, _ => rfl | 33, _ => rfl | 34, _ => rfl | 35, _ => rfl | j + 36, h => exact absurd h (by omega)) ⟨Nat.le_of_ble_eq_true rfl, Nat.le_of_ble_eq_true rfl⟩ dL_law_8 (fun q1 => ?_)
  refine j_dup F dL_law_11 rfl ?_
  refine j_callI F hJU kIL_133 (As := []) (rest := [.ref q1]) (c_X10_init l D ay q1) [55] [0, 1, 2, 3, 4, 5, 6, 7, 8, 9, 10, 11, 12, 13, 14, 15, 16, 17, 18, 19, 20, 21, 22, 23, 24, 25, 26, 27, 28, 29, 30, 31, 32, 33, 34, 35, 36, 37, 38, 39, 40, 41, 42, 43, 44, 45, 46, 47, 48, 49, 50, 51, 52, 53, 54] (dW ay ad dZ) rfl rfl rfl rfl rfl rfl ⟨Nat.le_of_ble_eq_true rfl, Nat.le_of_ble_eq_true rfl⟩ dL_law_12 (fun v w hw => ?_)
  obtain ⟨ae, rfl, rfl, rfl⟩ := hw
  refine j_ws (dW ay ad dZ ++ mW ay ae vZ gZ) rfl ?_
  refine j_astore_n F 2 [(2, .ref (ae 0)), (1, .ref (ad 0)), (0, .ref b)] dL_law_15 rfl (by decide) rfl ?_
  refine j_iconst F (v := 1) dL_law_16 (by decide) ?_
  refine j_newa F 3 gi_90 rfl rfl 1 (1, .inr (.inl (fun _ => 0))) (fun _ => rfl) rfl rfl rfl ⟨Nat.le_of_ble_eq_true rfl, Nat.le_of_ble_eq_true rfl⟩ dL_law_17 (fun o => ?_)
  refine j_astore_n F 3 [(3, .ref o), (2, .ref (ae 0)), (1, .ref (ad 0)), (0, .ref b)] dL_law_19 rfl (by decide) rfl ?_
  refine j_iconst F (v := 1) dL_law_20 (by decide) ?_
  refine j_newa F 4 gi_91 rfl rfl 1 (1, .inr (.inr (.inr (.inl (fun _ => 0))))) (fun _ => rfl) rfl rfl rfl ⟨Nat.le_of_ble_eq_true rfl, Nat.le_of_ble_eq_true rfl⟩ dL_law_21 (fun oD => ?_)
  refine j_astore F 4 [(4, .ref oD), (3, .ref o), (2, .ref (ae 0)), (1, .ref (ad 0)), (0, .ref b)] dL_law_23 (by decide) rfl ?_
  refine j_iconst F (v := nI (6 * 0)) dL_law_25 (by decide) ?_
  refine j_istore F 5 [(5, .int (nI (6 * 0))), (4, .ref oD), (3, .ref o), (2, .ref (ae 0)), (1, .ref (ad 0)), (0, .ref b)] dL_law_26 (by decide) rfl ?_
  refine j_perm [76, 0, 1, 2, 3, 4, 5, 6, 7, 8, 9, 10, 11, 12, 13, 14, 15, 16, 17, 18, 19, 20, 21, 22, 23, 24, 25, 26, 27, 28, 29, 30, 31, 32, 33, 34, 35, 36, 37, 38, 39, 40, 41, 42, 43, 44, 45, 46, 47, 48, 49, 50, 51, 52, 53, 54, 75, 55, 56, 57, 58, 59, 60, 61, 62, 63, 64, 65, 66, 67, 68, 69, 70, 71, 72, 73, 74] (LW ay ad ae o oD dZ vZ gZ (fun _ => 0) (fun _ => 0)) rfl rfl ?_
  refine j_sub [0, 5, 4, 3, 2, 1] [(5, .int (nI (6 * 0))), (0, .ref b), (1, .ref (ad 0)), (2, .ref (ae 0)), (3, .ref o), (4, .ref oD)] rfl ?_
  refine j_widen (k' := 100 + 3 * 0) (n' := 8000 + 18 * 0) (Nat.le_of_ble_eq_true rfl) (Nat.le_of_ble_eq_true rfl) ?_
  refine law_lp l hfl D ay sa ad ae o oD b L xs F hJX hJN hX hbl hbA hL 100 8000 ⟨Nat.le_of_ble_eq_true rfl, Nat.le_of_ble_eq_true rfl⟩ (fun t Z vi ga fo fd ht hG => ?_) 512 0 dZ vZ gZ (fun _ => 0) (fun _ => 0) rfl GI_0
  refine j_iconst F (v := 1) dL_law_2688 (by decide) ?_
  intro H locs ls hP hD hS hl
  refine va_forget (fun q hq => hS.2.2 q hq) ?_
  refine W.widen (k := 601024) (n := 7293033) (by omega) (by omega) ?_
  exact lw_ret (d0 := s.drawn) (Drawn.sameBut.refl s.drawn lw_cs) hx hb hr hlocks dL_law_2689
