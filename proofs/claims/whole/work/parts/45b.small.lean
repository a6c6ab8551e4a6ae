set_option maxHeartbeats 4000000 in
set_option maxRecDepth 100000 in
theorem c_X10_isSignNow_yes (l : Launch) (D : va_G) (ay : Nat → ClassId) (ad : Nat → Nat) (vi : Nat → Int32) (ga : Nat → Nat → Int32) (b : Int32) (h : vi 17 = 1 ∧ vi 19 = b) : jM l yX10_isSignNow (jws yX10_isSignNow cX10_isSignNow 2 (some .boolean)) 0 0 0 0 D ay [.ref (ad 0), .int b] (mW ay ad vi ga) (fun v w => v = some (.int 1) ∧ w = (mW ay ad vi ga)) := by
  refine jM_of l (by decide) [(0, .ref (ad 0)), (1, .int b)] rfl rfl (fun p9 e9 s9 m9 a9 b9 me9 c9 A9 F => ?_)
  refine j_aload_n F 0 dX10_isSignNow_0 rfl ?_
  refine j_getf F fX10_168 0 (v := .int (vi 17)) rfl rfl dX10_isSignNow_1 ?_
  refine j_iconst F (v := 1) dX10_isSignNow_4 (by decide) ?_
  refine j_icmp_ne F 20 dX10_isSignNow_5 (by decide) (fun c_5 => absurd h.1 c_5) (fun c_5 => ?_)
  refine j_aload_n F 0 dX10_isSignNow_8 rfl ?_
  refine j_getf F fX10_171 0 (v := .int (vi 19)) rfl rfl dX10_isSignNow_9 ?_
  refine j_iload_n F 1 dX10_isSignNow_12 rfl ?_
  refine j_icmp_ne F 20 dX10_isSignNow_13 (by decide) (fun c_13 => absurd h.2 c_13) (fun c_13 => ?_)
  refine j_iconst F (v := 1) dX10_isSignNow_16 (by decide) ?_
  refine j_goto F 21 dX10_isSignNow_17 (by decide) ?_
  exact j_zret F (Or.inr rfl) ⟨rfl, rfl⟩ dX10_isSignNow_21 (Nat.le_of_ble_eq_true rfl) (Nat.le_of_ble_eq_true rfl)

set_option maxHeartbeats 4000000 in
set_option maxRecDepth 100000 in
theorem c_X10_isSignNow_no (l : Launch) (D : va_G) (ay : Nat → ClassId) (ad : Nat → Nat) (vi : Nat → Int32) (ga : Nat → Nat → Int32) (b : Int32) (h : ¬ (vi 17 = 1 ∧ vi 19 = b)) : jM l yX10_isSignNow (jws yX10_isSignNow cX10_isSignNow 2 (some .boolean)) 0 0 0 0 D ay [.ref (ad 0), .int b] (mW ay ad vi ga) (fun v w => v = some (.int 0) ∧ w = (mW ay ad vi ga)) := by
  refine jM_of l (by decide) [(0, .ref (ad 0)), (1, .int b)] rfl rfl (fun p9 e9 s9 m9 a9 b9 me9 c9 A9 F => ?_)
  refine j_aload_n F 0 dX10_isSignNow_0 rfl ?_
  refine j_getf F fX10_168 0 (v := .int (vi 17)) rfl rfl dX10_isSignNow_1 ?_
  refine j_iconst F (v := 1) dX10_isSignNow_4 (by decide) ?_
  refine j_icmp_ne F 20 dX10_isSignNow_5 (by decide) (fun c_5 => ?_) (fun c_5 => ?_)
  · skip
    refine j_iconst F (v := 0) dX10_isSignNow_20 (by decide) ?_
    exact j_zret F (Or.inl rfl) ⟨rfl, rfl⟩ dX10_isSignNow_21 (Nat.le_of_ble_eq_true rfl) (Nat.le_of_ble_eq_true rfl)
  · skip
    refine j_aload_n F 0 dX10_isSignNow_8 rfl ?_
    refine j_getf F fX10_171 0 (v := .int (vi 19)) rfl rfl dX10_isSignNow_9 ?_
    refine j_iload_n F 1 dX10_isSignNow_12 rfl ?_
    refine j_icmp_ne F 20 dX10_isSignNow_13 (by decide) (fun c_13 => ?_) (fun c_13 => ?_)
    · skip
      refine j_iconst F (v := 0) dX10_isSignNow_20 (by decide) ?_
      exact j_zret F (Or.inl rfl) ⟨rfl, rfl⟩ dX10_isSignNow_21 (Nat.le_of_ble_eq_true rfl) (Nat.le_of_ble_eq_true rfl)
    · skip
      exact absurd ⟨c_5, c_13⟩ h

set_option maxHeartbeats 4000000 in
set_option maxRecDepth 100000 in
theorem c_X10_takesNumber_no (l : Launch) (D : va_G) (ay : Nat → ClassId) (ad : Nat → Nat) (vi : Nat → Int32) (ga : Nat → Nat → Int32) (lo : Int32) (hi : Int32) (h : ¬ (vi 17 = 2 ∧ ¬ oob (vi 19) lo hi)) : jM l yX10_takesNumber (jws yX10_takesNumber cX10_takesNumber 3 (some .boolean)) 2 43 0 0 D ay [.ref (ad 0), .int lo, .int hi] (mW ay ad vi ga) (fun v w => v = some (.int 0) ∧ w = (mW ay ad vi ga)) := by
  refine jM_of l (by decide) [(0, .ref (ad 0)), (1, .int lo), (2, .int hi)] rfl rfl (fun p9 e9 s9 m9 a9 b9 me9 c9 A9 F => ?_)
  refine j_aload_n F 0 dX10_takesNumber_0 rfl ?_
  refine j_getf F fX10_168 0 (v := .int (vi 17)) rfl rfl dX10_takesNumber_1 ?_
  refine j_iconst F (v := 2) dX10_takesNumber_4 (by decide) ?_
  refine j_icmp_ne F 20 dX10_takesNumber_5 (by decide) (fun c_5 => ?_) (fun c_5 => ?_)
  · skip
    refine j_iconst F (v := 0) dX10_takesNumber_20 (by decide) ?_
    exact j_zret F (Or.inl rfl) ⟨rfl, rfl⟩ dX10_takesNumber_21 (Nat.le_of_ble_eq_true rfl) (Nat.le_of_ble_eq_true rfl)
  · skip
    by_cases hq : oob (vi 19) lo hi
    · skip
      refine j_aload_n F 0 dX10_takesNumber_8 rfl ?_
      refine j_getf F fX10_171 0 (v := .int (vi 19)) rfl rfl dX10_takesNumber_9 ?_
      refine j_iload_n F 1 dX10_takesNumber_12 rfl ?_
      refine j_iload_n F 2 dX10_takesNumber_13 rfl ?_
      refine j_ecallS F kX10_84 (As := [.int (vi 19), .int lo, .int hi]) (rest := []) (c_X10_in_no l D ay (vi 19) lo hi (show oob (vi 19) lo hi from hq)) rfl rfl rfl rfl ⟨Nat.le_of_ble_eq_true rfl, Nat.le_of_ble_eq_true rfl⟩ dX10_takesNumber_14 (fun v w hw => ?_)
      obtain ⟨rfl, rfl⟩ := hw
      refine ⟨rfl, ?_⟩
      refine j_top 0 rfl ?_
      refine j_if_ne F 22 dX10_takesNumber_17 (by decide) (fun c_17 => absurd (by decide) c_17) (fun c_17 => ?_)
      refine j_iconst F (v := 0) dX10_takesNumber_20 (by decide) ?_
      exact j_zret F (Or.inl rfl) ⟨rfl, rfl⟩ dX10_takesNumber_21 (Nat.le_of_ble_eq_true rfl) (Nat.le_of_ble_eq_true rfl)
    · skip
      refine j_aload_n F 0 dX10_takesNumber_8 rfl ?_
      refine j_getf F fX10_171 0 (v := .int (vi 19)) rfl rfl dX10_takesNumber_9 ?_
      refine j_iload_n F 1 dX10_takesNumber_12 rfl ?_
      refine j_iload_n F 2 dX10_takesNumber_13 rfl ?_
      refine j_ecallS F kX10_84 (As := [.int (vi 19), .int lo, .int hi]) (rest := []) (c_X10_in l D ay (vi 19) lo hi (show ¬ oob (vi 19) lo hi from hq)) rfl rfl rfl rfl ⟨Nat.le_of_ble_eq_true rfl, Nat.le_of_ble_eq_true rfl⟩ dX10_takesNumber_14 (fun v w hw => ?_)
      obtain ⟨rfl, rfl⟩ := hw
      refine ⟨rfl, ?_⟩
      refine j_top 1 rfl ?_
      refine j_if_ne F 22 dX10_takesNumber_17 (by decide) (fun c_17 => ?_) (fun c_17 => absurd c_17 (by decide))
      exact absurd ⟨c_5, hq⟩ h

set_option maxHeartbeats 4000000 in
set_option maxRecDepth 100000 in
theorem c_X10_takesNumber_yes (l : Launch) (D : va_G) (ay : Nat → ClassId) (ad : Nat → Nat) (vi : Nat → Int32) (ga : Nat → Nat → Int32) (lo : Int32) (hi : Int32) (n : Nat) (p : Nat) (m : Nat) (h17 : vi 17 = 2) (ho : ¬ oob (vi 19) lo hi) (h23 : vi 23 = nI m) (hm : m < 300) (h16 : vi 16 = nI n) (hn : n ≤ 300) (h20 : vi 20 = nI p) (hp : p ≤ n) : jM l yX10_takesNumber (jws yX10_takesNumber cX10_takesNumber 3 (some .boolean)) 2 43 0 0 D ay [.ref (ad 0), .int lo, .int hi] (mW ay ad vi ga) (fun v w => ∃ (tk : Int32), ∃ (va : Int32), ∃ (pb : Int32), TK (ga 10) n (sk (ga 10) n p) tk va pb ∧ v = some (.int 1) ∧ w = (mW ay ad (ups (ups (ups (ups vi 17 tk) 18 (nI (sk (ga 10) n p))) 19 va) 20 pb) (ups ga 12 (upd (ga 12) m (vi 19))))) := by
  refine jM_of l (by decide) [(0, .ref (ad 0)), (1, .int lo), (2, .int hi)] rfl rfl (fun p9 e9 s9 m9 a9 b9 me9 c9 A9 F => ?_)
  refine j_aload_n F 0 dX10_takesNumber_0 rfl ?_
  refine j_getf F fX10_168 0 (v := .int (vi 17)) rfl rfl dX10_takesNumber_1 ?_
  refine j_iconst F (v := 2) dX10_takesNumber_4 (by decide) ?_
  refine j_icmp_ne F 20 dX10_takesNumber_5 (by decide) (fun c_5 => absurd h17 c_5) (fun c_5 => ?_)
  refine j_aload_n F 0 dX10_takesNumber_8 rfl ?_
  refine j_getf F fX10_171 0 (v := .int (vi 19)) rfl rfl dX10_takesNumber_9 ?_
  refine j_iload_n F 1 dX10_takesNumber_12 rfl ?_
  refine j_iload_n F 2 dX10_takesNumber_13 rfl ?_
  refine j_ecallS F kX10_84 (As := [.int (vi 19), .int lo, .int hi]) (rest := []) (c_X10_in l D ay (vi 19) lo hi (show ¬ oob (vi 19) lo hi from ho)) rfl rfl rfl rfl ⟨Nat.le_of_ble_eq_true rfl, Nat.le_of_ble_eq_true rfl⟩ dX10_takesNumber_14 (fun v w hw => ?_)
  obtain ⟨rfl, rfl⟩ := hw
  refine ⟨rfl, ?_⟩
  refine j_top 1 rfl ?_
  refine j_if_ne F 22 dX10_takesNumber_17 (by decide) (fun c_17 => ?_) (fun c_17 => absurd c_17 (by decide))
  refine j_aload_n F 0 dX10_takesNumber_22 rfl ?_
  refine j_getf F fX10_57 0 (v := .ref (ad 13)) rfl rfl dX10_takesNumber_23 ?_
  refine j_aload_n F 0 dX10_takesNumber_26 rfl ?_
  refine j_getf F fX10_177 0 (v := .int (vi 23)) rfl rfl dX10_takesNumber_27 ?_
  refine j_top (nI m) h23 ?_
  refine j_aload_n F 0 dX10_takesNumber_30 rfl ?_
  refine j_getf F fX10_171 0 (v := .int (vi 19)) rfl rfl dX10_takesNumber_31 ?_
  refine j_iast F 13 (mW ay ad vi (ups ga 12 (upd (ga 12) m (vi 19)))) m rfl rfl (by omega) (Nat.le_of_ble_eq_true rfl) rfl dX10_takesNumber_34 ?_
  refine j_aload_n F 0 dX10_takesNumber_35 rfl ?_
  refine j_scallV F kX10_180 (As := []) (rest := []) (c_X10_reads l D ay ad vi (ups ga 12 (upd (ga 12) m (vi 19))) n p (show vi 16 = nI n from h16) (show n ≤ 300 from hn) (show vi 20 = nI p from h20) (show p ≤ n from hp)) 0 0 20 rfl rfl rfl rfl rfl rfl ⟨Nat.le_of_ble_eq_true rfl, Nat.le_of_ble_eq_true rfl⟩ dX10_takesNumber_36 (fun v w hw => ?_)
  obtain ⟨tk_36, va_36, pb_36, h36_0, rfl, rfl⟩ := hw
  replace h36_0 : TK (ga 10) n (sk (ga 10) n p) tk_36 va_36 pb_36 := h36_0
  refine ⟨rfl, (mW ay ad (ups (ups (ups (ups vi 17 tk_36) 18 (nI (sk (ga 10) n p))) 19 va_36) 20 pb_36) (ups ga 12 (upd (ga 12) m (vi 19)))), (slp_all _ _ rfl).trans rfl, ?_⟩
  refine j_iconst F (v := 1) dX10_takesNumber_39 (by decide) ?_
  exact j_zret F (Or.inr rfl) ⟨tk_36, va_36, pb_36, h36_0, rfl, rfl⟩ dX10_takesNumber_40 (Nat.le_of_ble_eq_true rfl) (Nat.le_of_ble_eq_true rfl)

