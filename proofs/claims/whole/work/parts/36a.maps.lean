set_option maxHeartbeats 4000000 in
set_option maxRecDepth 100000 in
theorem c_X10_noPlace_ok (l : Launch) (D : va_G) (ay : Nat → ClassId) (ad : Nat → Nat) (vi : Nat → Int32) (ga : Nat → Nat → Int32) (m : Nat) (n : Nat) (j : Nat) (h0 : vi 0 = 0) (hm : m < 2) (hmn : ga 2 m = nI n) (hn : n < 2 ^ 31) (hj : j < n) : jM l yX10_noPlace (jws yX10_noPlace cX10_noPlace 3 (some .boolean)) 2 43 0 0 D ay [.ref (ad 0), .int (nI m), .int (nI j)] (mW ay ad vi ga) (fun v w => v = some (.int 0) ∧ w = (mW ay ad vi ga)) := by
  refine jM_of l (by decide) [(0, .ref (ad 0)), (1, .int (nI m)), (2, .int (nI j))] rfl rfl (fun p9 e9 s9 m9 a9 b9 me9 c9 A9 F => ?_)
  refine j_aload_n F 0 dX10_noPlace_0 rfl ?_
  refine j_iload_n F 1 dX10_noPlace_1 rfl ?_
  refine j_scallV F kX10_92 (As := [.int (nI m)]) (rest := []) (c_X10_noMap_ok l D ay ad vi ga (nI m) (show vi 0 = 0 from h0) (show ¬ oob (nI m) 0 1 from nob1 hm)) 0 0 20 rfl rfl rfl rfl rfl rfl ⟨Nat.le_of_ble_eq_true rfl, Nat.le_of_ble_eq_true rfl⟩ dX10_noPlace_2 (fun v w hw => ?_)
  obtain ⟨rfl, rfl⟩ := hw
  refine ⟨rfl, (mW ay ad vi ga), (slp_all _ _ rfl).trans rfl, ?_⟩
  refine j_top 0 rfl ?_
  refine j_if_ne F 29 dX10_noPlace_5 (by decide) (fun c_5 => absurd (by decide) c_5) (fun c_5 => ?_)
  refine j_aload_n F 0 dX10_noPlace_8 rfl ?_
  refine j_iload_n F 2 dX10_noPlace_9 rfl ?_
  refine j_iconst F (v := 0) dX10_noPlace_10 (by decide) ?_
  refine j_aload_n F 0 dX10_noPlace_11 rfl ?_
  refine j_getf F fX10_20 0 (v := .ref (ad 3)) rfl rfl dX10_noPlace_12 ?_
  refine j_iload_n F 1 dX10_noPlace_15 rfl ?_
  refine j_iald F 3 m (f := ga 2) rfl rfl (by omega) (Nat.le_of_ble_eq_true rfl) dX10_noPlace_16 ?_
  refine j_top (nI n) hmn ?_
  refine j_iconst F (v := 1) dX10_noPlace_17 (by decide) ?_
  refine j_isub F dX10_noPlace_18 ?_
  refine j_ecallS F kX10_84 (As := [.int (nI j), .int 0, .int (nI n - 1)]) (rest := [.ref (ad 0)]) (c_X10_in l D ay (nI j) 0 (nI n - 1) (show ¬ oob (nI j) 0 (nI n - 1) from nop hj hn)) rfl rfl rfl rfl ⟨Nat.le_of_ble_eq_true rfl, Nat.le_of_ble_eq_true rfl⟩ dX10_noPlace_19 (fun v w hw => ?_)
  obtain ⟨rfl, rfl⟩ := hw
  refine ⟨rfl, ?_⟩
  refine j_top 1 rfl ?_
  refine j_iconst F (v := 2) dX10_noPlace_22 (by decide) ?_
  refine j_scallV F kX10_88 (As := [.int 1, .int 2]) (rest := []) (c_X10_fails_ok l D ay ad vi ga 2 (show vi 0 = 0 from h0)) 0 0 20 rfl rfl rfl rfl rfl rfl ⟨Nat.le_of_ble_eq_true rfl, Nat.le_of_ble_eq_true rfl⟩ dX10_noPlace_23 (fun v w hw => ?_)
  obtain ⟨rfl, rfl⟩ := hw
  refine ⟨rfl, (mW ay ad vi ga), (slp_all _ _ rfl).trans rfl, ?_⟩
  refine j_top 0 rfl ?_
  refine j_if_eq F 33 dX10_noPlace_26 (by decide) (fun c_26 => ?_) (fun c_26 => absurd (by decide) c_26)
  refine j_iconst F (v := 0) dX10_noPlace_33 (by decide) ?_
  exact j_zret F (Or.inl rfl) ⟨rfl, rfl⟩ dX10_noPlace_34 (Nat.le_of_ble_eq_true rfl) (Nat.le_of_ble_eq_true rfl)

set_option maxHeartbeats 4000000 in
set_option maxRecDepth 100000 in
theorem c_X10_noPlace_no1 (l : Launch) (D : va_G) (ay : Nat → ClassId) (ad : Nat → Nat) (vi : Nat → Int32) (ga : Nat → Nat → Int32) (x : Int32) (y : Int32) (h0 : vi 0 = 0) (h : oob x 0 1) : jM l yX10_noPlace (jws yX10_noPlace cX10_noPlace 3 (some .boolean)) 2 43 0 0 D ay [.ref (ad 0), .int x, .int y] (mW ay ad vi ga) (fun v w => v = some (.int 1) ∧ w = (mW ay ad (ups vi 0 1) ga)) := by
  refine jM_of l (by decide) [(0, .ref (ad 0)), (1, .int x), (2, .int y)] rfl rfl (fun p9 e9 s9 m9 a9 b9 me9 c9 A9 F => ?_)
  refine j_aload_n F 0 dX10_noPlace_0 rfl ?_
  refine j_iload_n F 1 dX10_noPlace_1 rfl ?_
  refine j_scallV F kX10_92 (As := [.int x]) (rest := []) (c_X10_noMap_no l D ay ad vi ga x (show vi 0 = 0 from h0) (show oob x 0 1 from h)) 0 0 20 rfl rfl rfl rfl rfl rfl ⟨Nat.le_of_ble_eq_true rfl, Nat.le_of_ble_eq_true rfl⟩ dX10_noPlace_2 (fun v w hw => ?_)
  obtain ⟨rfl, rfl⟩ := hw
  refine ⟨rfl, (mW ay ad (ups vi 0 1) ga), (slp_all _ _ rfl).trans rfl, ?_⟩
  refine j_top 1 rfl ?_
  refine j_if_ne F 29 dX10_noPlace_5 (by decide) (fun c_5 => ?_) (fun c_5 => absurd c_5 (by decide))
  refine j_iconst F (v := 1) dX10_noPlace_29 (by decide) ?_
  refine j_goto F 34 dX10_noPlace_30 (by decide) ?_
  exact j_zret F (Or.inr rfl) ⟨rfl, rfl⟩ dX10_noPlace_34 (Nat.le_of_ble_eq_true rfl) (Nat.le_of_ble_eq_true rfl)

set_option maxHeartbeats 4000000 in
set_option maxRecDepth 100000 in
theorem c_X10_noPlace_no2 (l : Launch) (D : va_G) (ay : Nat → ClassId) (ad : Nat → Nat) (vi : Nat → Int32) (ga : Nat → Nat → Int32) (m : Nat) (n : Nat) (y : Int32) (h0 : vi 0 = 0) (hm : m < 2) (hmn : ga 2 m = nI n) (hn : n < 2 ^ 31) (h : oop y n) : jM l yX10_noPlace (jws yX10_noPlace cX10_noPlace 3 (some .boolean)) 2 43 0 0 D ay [.ref (ad 0), .int (nI m), .int y] (mW ay ad vi ga) (fun v w => v = some (.int 1) ∧ w = (mW ay ad (ups vi 0 2) ga)) := by
  refine jM_of l (by decide) [(0, .ref (ad 0)), (1, .int (nI m)), (2, .int y)] rfl rfl (fun p9 e9 s9 m9 a9 b9 me9 c9 A9 F => ?_)
  refine j_aload_n F 0 dX10_noPlace_0 rfl ?_
  refine j_iload_n F 1 dX10_noPlace_1 rfl ?_
  refine j_scallV F kX10_92 (As := [.int (nI m)]) (rest := []) (c_X10_noMap_ok l D ay ad vi ga (nI m) (show vi 0 = 0 from h0) (show ¬ oob (nI m) 0 1 from nob1 hm)) 0 0 20 rfl rfl rfl rfl rfl rfl ⟨Nat.le_of_ble_eq_true rfl, Nat.le_of_ble_eq_true rfl⟩ dX10_noPlace_2 (fun v w hw => ?_)
  obtain ⟨rfl, rfl⟩ := hw
  refine ⟨rfl, (mW ay ad vi ga), (slp_all _ _ rfl).trans rfl, ?_⟩
  refine j_top 0 rfl ?_
  refine j_if_ne F 29 dX10_noPlace_5 (by decide) (fun c_5 => absurd (by decide) c_5) (fun c_5 => ?_)
  refine j_aload_n F 0 dX10_noPlace_8 rfl ?_
  refine j_iload_n F 2 dX10_noPlace_9 rfl ?_
  refine j_iconst F (v := 0) dX10_noPlace_10 (by decide) ?_
  refine j_aload_n F 0 dX10_noPlace_11 rfl ?_
  refine j_getf F fX10_20 0 (v := .ref (ad 3)) rfl rfl dX10_noPlace_12 ?_
  refine j_iload_n F 1 dX10_noPlace_15 rfl ?_
  refine j_iald F 3 m (f := ga 2) rfl rfl (by omega) (Nat.le_of_ble_eq_true rfl) dX10_noPlace_16 ?_
  refine j_top (nI n) hmn ?_
  refine j_iconst F (v := 1) dX10_noPlace_17 (by decide) ?_
  refine j_isub F dX10_noPlace_18 ?_
  refine j_ecallS F kX10_84 (As := [.int y, .int 0, .int (nI n - 1)]) (rest := [.ref (ad 0)]) (c_X10_in_no l D ay y 0 (nI n - 1) (show oob y 0 (nI n - 1) from (oop_oob hn).mpr h)) rfl rfl rfl rfl ⟨Nat.le_of_ble_eq_true rfl, Nat.le_of_ble_eq_true rfl⟩ dX10_noPlace_19 (fun v w hw => ?_)
  obtain ⟨rfl, rfl⟩ := hw
  refine ⟨rfl, ?_⟩
  refine j_top 0 rfl ?_
  refine j_iconst F (v := 2) dX10_noPlace_22 (by decide) ?_
  refine j_scallV F kX10_88 (As := [.int 0, .int 2]) (rest := []) (c_X10_fails_no l D ay ad vi ga 2 (show vi 0 = 0 from h0) (show ¬ 2 = 0 from by decide)) 0 0 20 rfl rfl rfl rfl rfl rfl ⟨Nat.le_of_ble_eq_true rfl, Nat.le_of_ble_eq_true rfl⟩ dX10_noPlace_23 (fun v w hw => ?_)
  obtain ⟨rfl, rfl⟩ := hw
  refine ⟨rfl, (mW ay ad (ups vi 0 2) ga), (slp_all _ _ rfl).trans rfl, ?_⟩
  refine j_top 1 rfl ?_
  refine j_if_eq F 33 dX10_noPlace_26 (by decide) (fun c_26 => absurd c_26 (by decide)) (fun c_26 => ?_)
  refine j_iconst F (v := 1) dX10_noPlace_29 (by decide) ?_
  refine j_goto F 34 dX10_noPlace_30 (by decide) ?_
  exact j_zret F (Or.inr rfl) ⟨rfl, rfl⟩ dX10_noPlace_34 (Nat.le_of_ble_eq_true rfl) (Nat.le_of_ble_eq_true rfl)

theorem chg_G {Z : DS} {vi vi' : Nat → Int32} {ga ga' : Nat → Nat → Int32} {m n' : Nat} {f' : Nat → Int32} {bg pl gv : Int32} (hG : GI Z vi ga) (hm : m < 2) (hv : ∀ q, 13 ≤ q → vi' q = vi q) (hg : ∀ q, 5 ≤ q → ga' q = ga q) (hfm : fm m (ga 0) (ga 1) (ga 2) (ga' 0) (ga' 1) (ga' 2)) (ho2 : ∀ q, q < 2 → q ≠ m → ga' 3 q = ga 3 q ∧ ga' 4 q = ga 4 q) (v4 : vi' 4 = vi 4) (v5 : vi' 5 = vi 5) (v6 : vi' 6 = vi 6) (hk : kI n' f') (hn : n' ≤ Z.1 (12 + m)) (hnn : ∀ j, j < n' → ¬ mV f' (Z.2.2 (2 * m + 1)) j = -1) (hbg : bg = 0 ∨ bg = 1) (hcur : ¬ bg = 0 → ∃ j, pl = nI j ∧ j ≤ n' ∧ (¬ gv = 0 → 1 ≤ j)) (hvw : vw (ga' 0) (ga' 1) (ga' 2) m n' f' (mV f' (Z.2.2 (2 * m + 1)))) (e3 : ga' 3 m = if bg = 0 then -1 else pl) (e4 : ga' 4 m = if bg = 0 ∨ gv = 0 then 0 else 1) : GI (mU Z m n' f' bg pl gv (Z.2.2 (2 * m + 1)) (Z.1 (12 + m)) (Z.2.1 (4 + 5 * m)) (Z.2.1 (5 + 5 * m))) vi' ga' := by
  have hB := hG.2.1
  refine GI_m hG hm hv hg (gM_U hm hk (hG.1 m hm).1.2.1 hn hnn hbg hcur hvw e3 e4) (gB_U hB hm (fun h => ?_) (fun h => ?_)) hfm ho2
  · subst h; exact ⟨hB.1, v4, v5, v6⟩
  · subst h; exact ⟨hB.2.1, v4.trans hB.2.2.1, v5.trans hB.2.2.2.1, v6.trans hB.2.2.2.2⟩
theorem upd_self {f : Nat → Int32} {y : Nat} : upd f y (f y) = f := by
  funext q
  show (if q = y then f y else f q) = f q
  split
  · next h => rw [h]
  · rfl
theorem mV_use0 {f vf : Nat → Int32} {n y : Nat} (h : kI n f) (hy : y < 100) (hf : fx f (nI y) n < n) : ∀ j, j < n → mV (usF f n (nI y)) vf j = usV f (mV f vf) n (nI y) (vf y) j := fun j hj => by
  have h2 := mV_use (vf := vf) (x := vf y) h hy j (by unfold usN; rw [if_pos hf]; exact hj)
  rw [upd_self] at h2
  exact h2
theorem kI_use0 {f : Nat → Int32} {n y : Nat} (h : kI n f) (hy : y < 100) (hf : fx f (nI y) n < n) : kI n (usF f n (nI y)) := by
  have h2 := h.use hy
  unfold usN at h2
  rw [if_pos hf] at h2
  exact h2
theorem use_G {Z : DS} {vi vi' : Nat → Int32} {ga ga' : Nat → Nat → Int32} {m y : Nat} (hG : GI Z vi ga) (hm : m < 2) (hy : y < 100) (hf : fx (Z.2.2 (2 * m)) (nI y) (Z.1 m) < Z.1 m) (hv : ∀ q, 13 ≤ q → vi' q = vi q) (hg : ∀ q, 5 ≤ q → ga' q = ga q) (e3 : ga' 3 = upd (ga 3) m (-1)) (e4 : ga' 4 = upd (ga 4) m 0) (hfm : fm m (ga 0) (ga 1) (ga 2) (ga' 0) (ga' 1) (ga' 2)) (v4 : vi' 4 = vi 4) (v5 : vi' 5 = vi 5) (v6 : vi' 6 = vi 6) (hvw : vw (ga' 0) (ga' 1) (ga' 2) m (usN (Z.2.2 (2 * m)) (Z.1 m) (nI y)) (usF (Z.2.2 (2 * m)) (Z.1 m) (nI y)) (usV (Z.2.2 (2 * m)) (mV (Z.2.2 (2 * m)) (Z.2.2 (2 * m + 1))) (Z.1 m) (nI y) ((mV (Z.2.2 (2 * m)) (Z.2.2 (2 * m + 1))) (fx (Z.2.2 (2 * m)) (nI y) (Z.1 m))))) : GI (mU Z m (Z.1 m) (usF (Z.2.2 (2 * m)) (Z.1 m) (nI y)) 0 (Z.2.1 (2 + 5 * m)) (Z.2.1 (3 + 5 * m)) (Z.2.2 (2 * m + 1)) (Z.1 (12 + m)) (Z.2.1 (4 + 5 * m)) (Z.2.1 (5 + 5 * m))) vi' ga' := by
  have hgm := hG.1 m hm
  have hI := hgm.1
  have hu : usN (Z.2.2 (2 * m)) (Z.1 m) (nI y) = Z.1 m := by unfold usN; rw [if_pos hf]
  have hw := mV_use0 (vf := Z.2.2 (2 * m + 1)) hI.1 hy hf
  have nnU := nn_use (f := Z.2.2 (2 * m)) (key := nI y) (V := mV (Z.2.2 (2 * m)) (Z.2.2 (2 * m + 1))) (x := Z.2.2 (2 * m + 1) y) hI.2.2.1 (hI.v hy hf)
  rw [hu] at hvw nnU
  rw [mV_fx hy hf] at hvw
  exact chg_G hG hm hv hg hfm (fun q h1 h2 => by rw [e3, e4]; exact ⟨upd_o h2, upd_o h2⟩) v4 v5 v6 (kI_use0 hI.1 hy hf) hgm.2.1 (fun j hj => by rw [hw j hj]; exact nnU j hj) (Or.inl rfl) (fun h => absurd rfl h) (vw_congr hvw (fun _ _ => rfl) (fun j hj => (hw j hj).symm)) (by rw [e3, if_pos rfl]; exact upd_s) (by rw [e4, if_pos (Or.inl rfl)]; exact upd_s)
theorem ho2_u {ga : Nat → Nat → Int32} {m : Nat} {a b : Int32} : ∀ q, q < 2 → q ≠ m → upd (ga 3) m a q = ga 3 q ∧ upd (ga 4) m b q = ga 4 q := fun q _ h => ⟨upd_o h, upd_o h⟩
theorem kI_0 {f : Nat → Int32} : kI 0 f := ⟨Nat.zero_le _, fun _ h => absurd h (Nat.not_lt_zero _), fun _ _ _ h => absurd h (Nat.not_lt_zero _)⟩
theorem vw_0 {g0 g1 g2 K V : Nat → Int32} {m : Nat} : vw g0 g1 (upd g2 m 0) m 0 K V := ⟨upd_s, fun _ h => absurd h (Nat.not_lt_zero _), fun _ h => absurd h (Nat.not_lt_zero _)⟩
theorem bound_G {Z : DS} {vi vi' : Nat → Int32} {ga ga' : Nat → Nat → Int32} {b : Nat} (hG : GI Z vi ga) (hb : 1 ≤ b ∧ b ≤ 20) (hv : ∀ q, 13 ≤ q → vi' q = vi q) (hg : ∀ q, 5 ≤ q → ga' q = ga q) (e0 : ga' 0 = ga 0) (e1 : ga' 1 = ga 1) (e2 : ga' 2 = upd (ga 2) 1 0) (e3 : ga' 3 = upd (ga 3) 1 (-1)) (e4 : ga' 4 = upd (ga 4) 1 0) (v4 : vi' 4 = nI b) (v5 : vi' 5 = vi 5) (v6 : vi' 6 = vi 6) : GI (mU Z 1 0 (Z.2.2 2) 0 (Z.2.1 7) (Z.2.1 8) (Z.2.2 3) b (Z.2.1 9) (Z.2.1 10)) vi' ga' := by
  have hB := hG.2.1
  refine GI_m (m := 1) hG (by omega) hv hg (gM_U (by omega) kI_0 ⟨hb.1, by omega⟩ (Nat.zero_le _) (fun _ h => absurd h (Nat.not_lt_zero _)) (Or.inl rfl) (fun h => absurd rfl h) (by rw [e2]; exact vw_0) (by rw [e3, if_pos rfl]; exact upd_s) (by rw [e4, if_pos (Or.inl rfl)]; exact upd_s)) (gB_U hB (by omega) (fun h => by omega) (fun _ => ⟨hb, v4, v5.trans hB.2.2.2.1, v6.trans hB.2.2.2.2⟩)) (by rw [e0, e1, e2]; exact fm_n) (fun q h1 h2 => by rw [e3, e4]; exact ⟨upd_o h2, upd_o h2⟩)
