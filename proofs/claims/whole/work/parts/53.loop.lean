theorem lw_and63 (x : Int32) : ∃ c : Nat, c < 64 ∧ x &&& 63 = nI c := by
  have h : (x.toBitVec &&& 63#32).toNat < 64 := by
    rw [BitVec.toNat_and]
    exact Nat.lt_succ_of_le Nat.and_le_right
  refine ⟨(x.toBitVec &&& 63#32).toNat, h, ?_⟩
  apply Int32.toBitVec_inj.mp
  apply BitVec.eq_of_toNat_eq
  show (x.toBitVec &&& 63#32).toNat = (BitVec.ofNat 32 (x.toBitVec &&& 63#32).toNat).toNat
  rw [BitVec.toNat_ofNat, Nat.mod_eq_of_lt (by omega)]
theorem lw_six {L t : Nat} (hL : L ≤ 3072) (ht : t ≤ 512) : (nI L - 6 < nI (6 * t)) ↔ L < 6 * t + 6 := by
  have e : (nI L - 6).toInt = (L : Int) - 6 := by
    rw [Int32.toInt_sub, nI_toInt (by omega)]
    show Int.bmod ((L : Int) - 6) (2 ^ 32) = _
    exact Int.bmod_eq_of_le (by omega) (by omega)
  rw [Int32.lt_iff_toInt_lt, e, nI_toInt (by omega)]
  omega
theorem law_lp (l : Launch) (hfl : l.stackTraces = false) (D : va_G) (ay : Nat → ClassId) (sa : Nat → Nat) (ad ae : Nat → Nat) (o oD bS L : Nat) (xs : Nat → Int32) {p9 : Program} {e9 : Env} {s9 : State} {m9 : MethodId} {a9 : Array Value} {b9 : List Frame} {me9 : Method} {c9 : Code} {A9 : Nat → Prop} {Q9 : State → Prop} (F : jF p9 s9 m9 a9 me9 c9 cL_law 10 RL (some .boolean) D ay A9) (hX : jX sa A9 s9 s9.heap) (hN : jN s9) (hXb : va_X bS L xs s9 s9.heap) (hbl : bS < s9.heap.size) (hbA : ¬ A9 bS) (hL : L ≤ 3072) (k0 n0 : Nat) (hk : k0 + 1539 ≤ room_1.cells ∧ n0 + 9234 ≤ room_1.slots) (KE : ∀ (t : Nat) (Z : DS) (vi : Nat → Int32) (ga : Nat → Nat → Int32) (fo : Nat → Int64) (fd : Nat → UInt64), t ≤ 512 → GI Z vi ga → jJ p9 l e9 room_1 s9 m9 a9 b9 me9 c9 Q9 D A9 10 (k0 + 3 * t) (n0 + 18 * t) (LW ay ad ae o oD Z vi ga fo fd) 2688 [] []) : ∀ (d t : Nat) (Z : DS) (vi : Nat → Int32) (ga : Nat → Nat → Int32) (fo : Nat → Int64) (fd : Nat → UInt64), d + t = 512 → GI Z vi ga → jJ p9 l e9 room_1 s9 m9 a9 b9 me9 c9 Q9 D A9 10 (k0 + 3 * t) (n0 + 18 * t) (LW ay ad ae o oD Z vi ga fo fd) 28 [(5, .int (nI (6 * t))), (0, .ref bS), (1, .ref (ad 0)), (2, .ref (ae 0)), (3, .ref o), (4, .ref oD)] [] := by
  intro d
  induction d with
  | zero =>
    intro t Z vi ga fo fd hd hG
    refine j_iload F 0 dL_law_28 rfl ?_
    refine j_aload_n F 1 dL_law_30 rfl ?_
    refine j_slen F hXb hbl hbA dL_law_31 ?_
    refine j_bipush F (v := 6) dL_law_32 (by decide) ?_
    refine j_isub F dL_law_34 ?_
    refine j_icmp_gt F 2688 dL_law_35 (by decide) (fun c => ?_) (fun c => ?_)
    · refine j_sub [] [] rfl ?_
      exact KE t Z vi ga fo fd (by omega) hG
    · exact absurd ((lw_six hL (by omega)).mpr (by omega)) c
  | succ d ih =>
    intro t Z vi ga fo fd hd hG
    refine j_iload F 0 dL_law_28 rfl ?_
    refine j_aload_n F 1 dL_law_30 rfl ?_
    refine j_slen F hXb hbl hbA dL_law_31 ?_
    refine j_bipush F (v := 6) dL_law_32 (by decide) ?_
    refine j_isub F dL_law_34 ?_
    refine j_icmp_gt F 2688 dL_law_35 (by decide) (fun c => ?_) (fun c => ?_)
    · refine j_sub [] [] rfl ?_
      exact KE t Z vi ga fo fd (by omega) hG
    have ht : 6 * t + 6 ≤ L := Nat.le_of_not_lt (fun q => c ((lw_six hL (by omega)).mpr q))
    have kk : ∀ (Z' : DS) (vi' : Nat → Int32) (ga' : Nat → Nat → Int32) (fo' : Nat → Int64) (fd' : Nat → UInt64), GI Z' vi' ga' → jJ p9 l e9 room_1 s9 m9 a9 b9 me9 c9 Q9 D A9 10 ((k0 + 3 * t) + 3) ((n0 + 18 * t) + 18) (LW ay ad ae o oD Z' vi' ga' fo' fd') 2682 [(5, .int (nI (6 * t))), (0, .ref bS), (1, .ref (ad 0)), (2, .ref (ae 0)), (3, .ref o), (4, .ref oD)] [] := fun Z' vi' ga' fo' fd' hG' => by
      refine j_iinc F 0 (nI (6 * (t + 1))) [(5, .int (nI (6 * (t + 1)))), (0, .ref bS), (1, .ref (ad 0)), (2, .ref (ae 0)), (3, .ref o), (4, .ref oD)] dL_law_2682 rfl ((nI_add (6 * t) 6).trans (by rw [Nat.mul_add])) (by decide) rfl ?_
      refine j_goto F 28 dL_law_2685 (by decide) ?_
      exact ih (t + 1) Z' vi' ga' fo' fd' (by omega) hG'
    refine j_aload_n F 1 dL_law_38 rfl ?_
    refine j_iload F 0 dL_law_39 rfl ?_
    refine j_sld F hXb hbl hbA hL (6 * t) (by omega) dL_law_41 ?_
    refine j_bipush F (v := 63) dL_law_42 (by decide) ?_
    refine j_iand F dL_law_44 ?_
    obtain ⟨q, hq, e1⟩ := lw_and63 (xs (6 * t))
    refine j_top (nI q) e1 ?_
    have hk3 : (k0 + 3 * t) + 3 ≤ room_1.cells ∧ (n0 + 18 * t) + 18 ≤ room_1.slots := ⟨by omega, by omega⟩
    rcases Nat.lt_or_ge q 48 with h48 | h48
    · match q, h48 with
      | 0, _ => exact j_tableIn F 252 dL_law_45 (by decide) (by decide) rfl (by decide) (case_0 l hfl D ay sa ad ae o oD bS L xs F hX hN hXb hbl hbA (k0 + 3 * t) (n0 + 18 * t) hk3 t ht hL Z vi ga fo fd hG kk)
      | 1, _ => exact j_tableIn F 332 dL_law_45 (by decide) (by decide) rfl (by decide) (case_1 l hfl D ay sa ad ae o oD bS L xs F hX hN hXb hbl hbA (k0 + 3 * t) (n0 + 18 * t) hk3 t ht hL Z vi ga fo fd hG kk)
      | 2, _ => exact j_tableIn F 412 dL_law_45 (by decide) (by decide) rfl (by decide) (case_2 l hfl D ay sa ad ae o oD bS L xs F hX hN hXb hbl hbA (k0 + 3 * t) (n0 + 18 * t) hk3 t ht hL Z vi ga fo fd hG kk)
      | 3, _ => exact j_tableIn F 480 dL_law_45 (by decide) (by decide) rfl (by decide) (case_3 l hfl D ay sa ad ae o oD bS L xs F hX hN hXb hbl hbA (k0 + 3 * t) (n0 + 18 * t) hk3 t ht hL Z vi ga fo fd hG kk)
      | 4, _ => exact j_tableIn F 560 dL_law_45 (by decide) (by decide) rfl (by decide) (case_4 l hfl D ay sa ad ae o oD bS L xs F hX hN hXb hbl hbA (k0 + 3 * t) (n0 + 18 * t) hk3 t ht hL Z vi ga fo fd hG kk)
      | 5, _ => exact j_tableIn F 628 dL_law_45 (by decide) (by decide) rfl (by decide) (case_5 l hfl D ay sa ad ae o oD bS L xs F hX hN hXb hbl hbA (k0 + 3 * t) (n0 + 18 * t) hk3 t ht hL Z vi ga fo fd hG kk)
      | 6, _ => exact j_tableIn F 684 dL_law_45 (by decide) (by decide) rfl (by decide) (case_6 l hfl D ay sa ad ae o oD bS L xs F hX hN hXb hbl hbA (k0 + 3 * t) (n0 + 18 * t) hk3 t ht hL Z vi ga fo fd hG kk)
      | 7, _ => exact j_tableIn F 740 dL_law_45 (by decide) (by decide) rfl (by decide) (case_7 l hfl D ay sa ad ae o oD bS L xs F hX hN hXb hbl hbA (k0 + 3 * t) (n0 + 18 * t) hk3 t ht hL Z vi ga fo fd hG kk)
      | 8, _ => exact j_tableIn F 815 dL_law_45 (by decide) (by decide) rfl (by decide) (case_8 l hfl D ay sa ad ae o oD bS L xs F hX hN hXb hbl hbA (k0 + 3 * t) (n0 + 18 * t) hk3 t ht hL Z vi ga fo fd hG kk)
      | 9, _ => exact j_tableIn F 890 dL_law_45 (by decide) (by decide) rfl (by decide) (case_9 l hfl D ay sa ad ae o oD bS L xs F hX hN hXb hbl hbA (k0 + 3 * t) (n0 + 18 * t) hk3 t ht hL Z vi ga fo fd hG kk)
      | 10, _ => exact j_tableIn F 946 dL_law_45 (by decide) (by decide) rfl (by decide) (case_10 l hfl D ay sa ad ae o oD bS L xs F hX hN hXb hbl hbA (k0 + 3 * t) (n0 + 18 * t) hk3 t ht hL Z vi ga fo fd hG kk)
      | 11, _ => exact j_tableIn F 1014 dL_law_45 (by decide) (by decide) rfl (by decide) (case_11 l hfl D ay sa ad ae o oD bS L xs F hX hN hXb hbl hbA (k0 + 3 * t) (n0 + 18 * t) hk3 t ht hL Z vi ga fo fd hG kk)
      | 12, _ => exact j_tableIn F 1082 dL_law_45 (by decide) (by decide) rfl (by decide) (case_12 l hfl D ay sa ad ae o oD bS L xs F hX hN hXb hbl hbA (k0 + 3 * t) (n0 + 18 * t) hk3 t ht hL Z vi ga fo fd hG kk)
      | 13, _ => exact j_tableIn F 1150 dL_law_45 (by decide) (by decide) rfl (by decide) (case_13 l hfl D ay sa ad ae o oD bS L xs F hX hN hXb hbl hbA (k0 + 3 * t) (n0 + 18 * t) hk3 t ht hL Z vi ga fo fd hG kk)
      | 14, _ => exact j_tableIn F 1206 dL_law_45 (by decide) (by decide) rfl (by decide) (case_14 l hfl D ay sa ad ae o oD bS L xs F hX hN hXb hbl hbA (k0 + 3 * t) (n0 + 18 * t) hk3 t ht hL Z vi ga fo fd hG kk)
      | 15, _ => exact j_tableIn F 1219 dL_law_45 (by decide) (by decide) rfl (by decide) (case_15 l hfl D ay sa ad ae o oD bS L xs F hX hN hXb hbl hbA (k0 + 3 * t) (n0 + 18 * t) hk3 t ht hL Z vi ga fo fd hG kk)
      | 16, _ => exact j_tableIn F 1232 dL_law_45 (by decide) (by decide) rfl (by decide) (case_16 l hfl D ay sa ad ae o oD bS L xs F hX hN hXb hbl hbA (k0 + 3 * t) (n0 + 18 * t) hk3 t ht hL Z vi ga fo fd hG kk)
      | 17, _ => exact j_tableIn F 1288 dL_law_45 (by decide) (by decide) rfl (by decide) (case_17 l hfl D ay sa ad ae o oD bS L xs F hX hN hXb hbl hbA (k0 + 3 * t) (n0 + 18 * t) hk3 t ht hL Z vi ga fo fd hG kk)
      | 18, _ => exact j_tableIn F 1351 dL_law_45 (by decide) (by decide) rfl (by decide) (case_18 l hfl D ay sa ad ae o oD bS L xs F hX hN hXb hbl hbA (k0 + 3 * t) (n0 + 18 * t) hk3 t ht hL Z vi ga fo fd hG kk)
      | 19, _ => exact j_tableIn F 1407 dL_law_45 (by decide) (by decide) rfl (by decide) (case_19 l hfl D ay sa ad ae o oD bS L xs F hX hN hXb hbl hbA (k0 + 3 * t) (n0 + 18 * t) hk3 t ht hL Z vi ga fo fd hG kk)
      | 20, _ => exact j_tableIn F 1463 dL_law_45 (by decide) (by decide) rfl (by decide) (case_20 l hfl D ay sa ad ae o oD bS L xs F hX hN hXb hbl hbA (k0 + 3 * t) (n0 + 18 * t) hk3 t ht hL Z vi ga fo fd hG kk)
      | 21, _ => exact j_tableIn F 1519 dL_law_45 (by decide) (by decide) rfl (by decide) (case_21 l hfl D ay sa ad ae o oD bS L xs F hX hN hXb hbl hbA (k0 + 3 * t) (n0 + 18 * t) hk3 t ht hL Z vi ga fo fd hG kk)
      | 22, _ => exact j_tableIn F 1532 dL_law_45 (by decide) (by decide) rfl (by decide) (case_22 l hfl D ay sa ad ae o oD bS L xs F hX hN hXb hbl hbA (k0 + 3 * t) (n0 + 18 * t) hk3 t ht hL Z vi ga fo fd hG kk)
      | 23, _ => exact j_tableIn F 1588 dL_law_45 (by decide) (by decide) rfl (by decide) (case_23 l hfl D ay sa ad ae o oD bS L xs F hX hN hXb hbl hbA (k0 + 3 * t) (n0 + 18 * t) hk3 t ht hL Z vi ga fo fd hG kk)
      | 24, _ => exact j_tableIn F 1644 dL_law_45 (by decide) (by decide) rfl (by decide) (case_24 l hfl D ay sa ad ae o oD bS L xs F hX hN hXb hbl hbA (k0 + 3 * t) (n0 + 18 * t) hk3 t ht hL Z vi ga fo fd hG kk)
      | 25, _ => exact j_tableIn F 1719 dL_law_45 (by decide) (by decide) rfl (by decide) (case_25 l hfl D ay sa ad ae o oD bS L xs F hX hN hXb hbl hbA (k0 + 3 * t) (n0 + 18 * t) hk3 t ht hL Z vi ga fo fd hG kk)
      | 26, _ => exact j_tableIn F 1787 dL_law_45 (by decide) (by decide) rfl (by decide) (case_26 l hfl D ay sa ad ae o oD bS L xs F hX hN hXb hbl hbA (k0 + 3 * t) (n0 + 18 * t) hk3 t ht hL Z vi ga fo fd hG kk)
      | 27, _ => exact j_tableIn F 1800 dL_law_45 (by decide) (by decide) rfl (by decide) (case_27 l hfl D ay sa ad ae o oD bS L xs F hX hN hXb hbl hbA (k0 + 3 * t) (n0 + 18 * t) hk3 t ht hL Z vi ga fo fd hG kk)
      | 28, _ => exact j_tableIn F 1856 dL_law_45 (by decide) (by decide) rfl (by decide) (case_28 l hfl D ay sa ad ae o oD bS L xs F hX hN hXb hbl hbA (k0 + 3 * t) (n0 + 18 * t) hk3 t ht hL Z vi ga fo fd hG kk)
      | 29, _ => exact j_tableIn F 1912 dL_law_45 (by decide) (by decide) rfl (by decide) (case_29 l hfl D ay sa ad ae o oD bS L xs F hX hN hXb hbl hbA (k0 + 3 * t) (n0 + 18 * t) hk3 t ht hL Z vi ga fo fd hG kk)
      | 30, _ => exact j_tableIn F 1968 dL_law_45 (by decide) (by decide) rfl (by decide) (case_30 l hfl D ay sa ad ae o oD bS L xs F hX hN hXb hbl hbA (k0 + 3 * t) (n0 + 18 * t) hk3 t ht hL Z vi ga fo fd hG kk)
      | 31, _ => exact j_tableIn F 2024 dL_law_45 (by decide) (by decide) rfl (by decide) (case_31 l hfl D ay sa ad ae o oD bS L xs F hX hN hXb hbl hbA (k0 + 3 * t) (n0 + 18 * t) hk3 t ht hL Z vi ga fo fd hG kk)
      | 32, _ => exact j_tableIn F 2128 dL_law_45 (by decide) (by decide) rfl (by decide) (case_32 l hfl D ay sa ad ae o oD bS L xs F hX hN hXb hbl hbA (k0 + 3 * t) (n0 + 18 * t) hk3 t ht hL Z vi ga fo fd hG kk)
      | 33, _ => exact j_tableIn F 2141 dL_law_45 (by decide) (by decide) rfl (by decide) (case_33 l hfl D ay sa ad ae o oD bS L xs F hX hN hXb hbl hbA (k0 + 3 * t) (n0 + 18 * t) hk3 t ht hL Z vi ga fo fd hG kk)
      | 34, _ => exact j_tableIn F 2185 dL_law_45 (by decide) (by decide) rfl (by decide) (case_34 l hfl D ay sa ad ae o oD bS L xs F hX hN hXb hbl hbA (k0 + 3 * t) (n0 + 18 * t) hk3 t ht hL Z vi ga fo fd hG kk)
      | 35, _ => exact j_tableIn F 2198 dL_law_45 (by decide) (by decide) rfl (by decide) (case_35 l hfl D ay sa ad ae o oD bS L xs F hX hN hXb hbl hbA (k0 + 3 * t) (n0 + 18 * t) hk3 t ht hL Z vi ga fo fd hG kk)
      | 36, _ => exact j_tableIn F 2254 dL_law_45 (by decide) (by decide) rfl (by decide) (case_36 l hfl D ay sa ad ae o oD bS L xs F hX hN hXb hbl hbA (k0 + 3 * t) (n0 + 18 * t) hk3 t ht hL Z vi ga fo fd hG kk)
      | 37, _ => exact j_tableIn F 2267 dL_law_45 (by decide) (by decide) rfl (by decide) (case_37 l hfl D ay sa ad ae o oD bS L xs F hX hN hXb hbl hbA (k0 + 3 * t) (n0 + 18 * t) hk3 t ht hL Z vi ga fo fd hG kk)
      | 38, _ => exact j_tableIn F 2280 dL_law_45 (by decide) (by decide) rfl (by decide) (case_38 l hfl D ay sa ad ae o oD bS L xs F hX hN hXb hbl hbA (k0 + 3 * t) (n0 + 18 * t) hk3 t ht hL Z vi ga fo fd hG kk)
      | 39, _ => exact j_tableIn F 2336 dL_law_45 (by decide) (by decide) rfl (by decide) (case_39 l hfl D ay sa ad ae o oD bS L xs F hX hN hXb hbl hbA (k0 + 3 * t) (n0 + 18 * t) hk3 t ht hL Z vi ga fo fd hG kk)
      | 40, _ => exact j_tableIn F 2392 dL_law_45 (by decide) (by decide) rfl (by decide) (case_40 l hfl D ay sa ad ae o oD bS L xs F hX hN hXb hbl hbA (k0 + 3 * t) (n0 + 18 * t) hk3 t ht hL Z vi ga fo fd hG kk)
      | 41, _ => exact j_tableIn F 2405 dL_law_45 (by decide) (by decide) rfl (by decide) (case_41 l hfl D ay sa ad ae o oD bS L xs F hX hN hXb hbl hbA (k0 + 3 * t) (n0 + 18 * t) hk3 t ht hL Z vi ga fo fd hG kk)
      | 42, _ => exact j_tableIn F 2461 dL_law_45 (by decide) (by decide) rfl (by decide) (case_42 l hfl D ay sa ad ae o oD bS L xs F hX hN hXb hbl hbA (k0 + 3 * t) (n0 + 18 * t) hk3 t ht hL Z vi ga fo fd hG kk)
      | 43, _ => exact j_tableIn F 2524 dL_law_45 (by decide) (by decide) rfl (by decide) (case_43 l hfl D ay sa ad ae o oD bS L xs F hX hN hXb hbl hbA (k0 + 3 * t) (n0 + 18 * t) hk3 t ht hL Z vi ga fo fd hG kk)
      | 44, _ => exact j_tableIn F 2537 dL_law_45 (by decide) (by decide) rfl (by decide) (case_44 l hfl D ay sa ad ae o oD bS L xs F hX hN hXb hbl hbA (k0 + 3 * t) (n0 + 18 * t) hk3 t ht hL Z vi ga fo fd hG kk)
      | 45, _ => exact j_tableIn F 2550 dL_law_45 (by decide) (by decide) rfl (by decide) (case_45 l hfl D ay sa ad ae o oD bS L xs F hX hN hXb hbl hbA (k0 + 3 * t) (n0 + 18 * t) hk3 t ht hL Z vi ga fo fd hG kk)
      | 46, _ => exact j_tableIn F 2628 dL_law_45 (by decide) (by decide) rfl (by decide) (case_46 l hfl D ay sa ad ae o oD bS L xs F hX hN hXb hbl hbA (k0 + 3 * t) (n0 + 18 * t) hk3 t ht hL Z vi ga fo fd hG kk)
      | 47, _ => exact j_tableIn F 2669 dL_law_45 (by decide) (by decide) rfl (by decide) (case_47 l hfl D ay sa ad ae o oD bS L xs F hX hN hXb hbl hbA (k0 + 3 * t) (n0 + 18 * t) hk3 t ht hL Z vi ga fo fd hG kk)
      | q + 48, h => exact absurd h (by omega)
    · refine j_tableOut F 2682 dL_law_45 (Or.inr (by rw [nI_toInt (by omega)]; omega)) (by decide) ?_
      refine j_widen (Nat.le_add_right (k0 + 3 * t) 3) (Nat.le_add_right (n0 + 18 * t) 18) ?_
      exact kk Z vi ga fo fd hG
