-- ---- Cache
set_option maxHeartbeats 4000000 in
set_option maxRecDepth 100000 in
theorem c_X0_keys (l : Launch) (D : va_G) (ay : Nat → ClassId) (h : Nat) (o : Nat) (k : Nat) (b : Nat) (hc : Int32) (n : Nat) (f : Nat → Int32) : jM l yX0_keys (jws yX0_keys cX0_keys 1 (some (.object "LastUseDesk$UseOrder"))) 0 0 0 0 D ay [.ref h] [(h, .inr (0, [.ref o, .int (nI b), .int hc])), (o, .inr (8, [.ref k, .int (nI n)])), (k, .inl (ay 0, 100, .inl f))] (fun v w => v = some (.ref o) ∧ w = [(h, .inr (0, [.ref o, .int (nI b), .int hc])), (o, .inr (8, [.ref k, .int (nI n)])), (k, .inl (ay 0, 100, .inl f))]) := by
  refine jM_of l (by decide) [(0, .ref h)] rfl rfl (fun p9 e9 s9 m9 a9 b9 me9 c9 A9 F => ?_)
  refine j_aload_n F 0 dX0_keys_0 rfl ?_
  refine j_getf F fX0_10 0 rfl rfl dX0_keys_1 ?_
  exact j_aret F ⟨rfl, rfl⟩ dX0_keys_4 (Nat.le_of_ble_eq_true rfl) (Nat.le_of_ble_eq_true rfl)

set_option maxHeartbeats 4000000 in
set_option maxRecDepth 100000 in
theorem c_X0_hitCount (l : Launch) (D : va_G) (ay : Nat → ClassId) (h : Nat) (o : Nat) (k : Nat) (b : Nat) (hc : Int32) (n : Nat) (f : Nat → Int32) : jM l yX0_hitCount (jws yX0_hitCount cX0_hitCount 1 (some .int)) 0 0 0 0 D ay [.ref h] [(h, .inr (0, [.ref o, .int (nI b), .int hc])), (o, .inr (8, [.ref k, .int (nI n)])), (k, .inl (ay 0, 100, .inl f))] (fun v w => v = some (.int hc) ∧ w = [(h, .inr (0, [.ref o, .int (nI b), .int hc])), (o, .inr (8, [.ref k, .int (nI n)])), (k, .inl (ay 0, 100, .inl f))]) := by
  refine jM_of l (by decide) [(0, .ref h)] rfl rfl (fun p9 e9 s9 m9 a9 b9 me9 c9 A9 F => ?_)
  refine j_aload_n F 0 dX0_hitCount_0 rfl ?_
  refine j_getf F fX0_16 0 rfl rfl dX0_hitCount_1 ?_
  exact j_iret F ⟨rfl, rfl⟩ dX0_hitCount_4 (Nat.le_of_ble_eq_true rfl) (Nat.le_of_ble_eq_true rfl)

set_option maxHeartbeats 4000000 in
set_option maxRecDepth 100000 in
theorem c_X0_ask (l : Launch) (D : va_G) (ay : Nat → ClassId) (h : Nat) (o : Nat) (k : Nat) (b : Nat) (hc : Int32) (n : Nat) (f : Nat → Int32) (key : Int32) (hn : n ≤ 100) (hq : fx f key n < n ∨ n < 100) (hb : b < 2 ^ 31) : jM l yX0_ask (jws yX0_ask cX0_ask 3 (some .boolean)) 2 44 0 0 D ay [.ref h, .int key] [(h, .inr (0, [.ref o, .int (nI b), .int hc])), (o, .inr (8, [.ref k, .int (nI n)])), (k, .inl (ay 0, 100, .inl f))] (fun v w => v = some (.int (if fx f key n < n then 1 else 0)) ∧ w = [(h, .inr (0, [.ref o, .int (nI b), .int (if fx f key n < n then hc + 1 else hc)])), (o, .inr (8, [.ref k, .int (nI (stN f n key b))])), (k, .inl (ay 0, 100, .inl (stF f n key b)))]) := by
  refine jM_of l (by decide) [(0, .ref h), (1, .int key)] rfl rfl (fun p9 e9 s9 m9 a9 b9 me9 c9 A9 F => ?_)
  refine j_aload_n F 0 dX0_ask_0 rfl ?_
  refine j_getf F fX0_10 0 rfl rfl dX0_ask_1 ?_
  refine j_iload_n F 1 dX0_ask_4 rfl ?_
  refine j_callV F kX0_23 (As := [.int key]) (rest := []) (c_X8_use l D ay o k n f key hn hq) 1 [1, 2] [0] [(h, .inr (0, [.ref o, .int (nI b), .int hc]))] rfl rfl rfl rfl rfl rfl rfl ⟨Nat.le_of_ble_eq_true rfl, Nat.le_of_ble_eq_true rfl⟩ dX0_ask_5 (fun v w hw => ?_)
  obtain ⟨rfl, rfl⟩ := hw
  refine j_perm [0, 1, 2] [(h, .inr (0, [.ref o, .int (nI b), .int hc])), (o, .inr (8, [.ref k, .int (nI (usN f n key))])), (k, .inl (ay 0, 100, .inl (usF f n key)))] rfl rfl ?_
  by_cases hf : fx f key n < n
  · skip
    refine j_top 1 (if_pos hf) ?_
    refine j_istore_n F 2 [(2, .int 1), (0, .ref h), (1, .int key)] dX0_ask_8 rfl (by decide) rfl ?_
    refine j_iload_n F 0 dX0_ask_9 rfl ?_
    refine j_if_eq F 23 dX0_ask_10 (by decide) (fun c_10 => absurd c_10 (by decide)) (fun c_10 => ?_)
    refine j_aload_n F 1 dX0_ask_13 rfl ?_
    refine j_dup F dX0_ask_14 rfl ?_
    refine j_getf F fX0_16 0 rfl rfl dX0_ask_15 ?_
    refine j_iconst F (v := 1) dX0_ask_18 (by decide) ?_
    refine j_iadd F dX0_ask_19 ?_
    refine j_putf F fX0_16 0 [(h, .inr (0, [.ref o, .int (nI b), .int (hc + 1)])), (o, .inr (8, [.ref k, .int (nI (usN f n key))])), (k, .inl (ay 0, 100, .inl (usF f n key)))] rfl rfl rfl rfl rfl (Nat.le_of_ble_eq_true rfl) dX0_ask_20 ?_
    refine j_aload_n F 1 dX0_ask_23 rfl ?_
    refine j_getf F fX0_10 0 rfl rfl dX0_ask_24 ?_
    refine j_aload_n F 1 dX0_ask_27 rfl ?_
    refine j_getf F fX0_20 0 rfl rfl dX0_ask_28 ?_
    refine j_callV F kX0_27 (As := [.int (nI b)]) (rest := []) (c_X8_dropBeyond l D ay o k (usN f n key) (usF f n key) b (usN_le hn hq) hb) 1 [1, 2] [0] [(h, .inr (0, [.ref o, .int (nI b), .int (hc + 1)]))] rfl rfl rfl rfl rfl rfl rfl ⟨Nat.le_of_ble_eq_true rfl, Nat.le_of_ble_eq_true rfl⟩ dX0_ask_31 (fun v w hw => ?_)
    obtain ⟨rfl, rfl⟩ := hw
    refine j_perm [0, 1, 2] [(h, .inr (0, [.ref o, .int (nI b), .int (hc + 1)])), (o, .inr (8, [.ref k, .int (nI (if (usN f n key) ≤ b then (usN f n key) else (usN f n key) - 1))])), (k, .inl (ay 0, 100, .inl (if (usN f n key) ≤ b then (usF f n key) else shf (usF f n key) 0 (usN f n key))))] rfl rfl ?_
    refine j_pop F dX0_ask_34 rfl ?_
    refine j_iload_n F 0 dX0_ask_35 rfl ?_
    exact j_zret F (Or.inr rfl) ⟨by rw [if_pos hf], by simp only [stN, stF, if_pos hf]⟩ dX0_ask_36 (Nat.le_of_ble_eq_true rfl) (Nat.le_of_ble_eq_true rfl)
  · skip
    refine j_top 0 (if_neg hf) ?_
    refine j_istore_n F 2 [(2, .int 0), (0, .ref h), (1, .int key)] dX0_ask_8 rfl (by decide) rfl ?_
    refine j_iload_n F 0 dX0_ask_9 rfl ?_
    refine j_if_eq F 23 dX0_ask_10 (by decide) (fun c_10 => ?_) (fun c_10 => absurd (by decide) c_10)
    refine j_aload_n F 1 dX0_ask_23 rfl ?_
    refine j_getf F fX0_10 0 rfl rfl dX0_ask_24 ?_
    refine j_aload_n F 1 dX0_ask_27 rfl ?_
    refine j_getf F fX0_20 0 rfl rfl dX0_ask_28 ?_
    refine j_callV F kX0_27 (As := [.int (nI b)]) (rest := []) (c_X8_dropBeyond l D ay o k (usN f n key) (usF f n key) b (usN_le hn hq) hb) 1 [1, 2] [0] [(h, .inr (0, [.ref o, .int (nI b), .int hc]))] rfl rfl rfl rfl rfl rfl rfl ⟨Nat.le_of_ble_eq_true rfl, Nat.le_of_ble_eq_true rfl⟩ dX0_ask_31 (fun v w hw => ?_)
    obtain ⟨rfl, rfl⟩ := hw
    refine j_perm [0, 1, 2] [(h, .inr (0, [.ref o, .int (nI b), .int hc])), (o, .inr (8, [.ref k, .int (nI (if (usN f n key) ≤ b then (usN f n key) else (usN f n key) - 1))])), (k, .inl (ay 0, 100, .inl (if (usN f n key) ≤ b then (usF f n key) else shf (usF f n key) 0 (usN f n key))))] rfl rfl ?_
    refine j_pop F dX0_ask_34 rfl ?_
    refine j_iload_n F 0 dX0_ask_35 rfl ?_
    exact j_zret F (Or.inl rfl) ⟨by rw [if_neg hf], by simp only [stN, stF, if_neg hf]⟩ dX0_ask_36 (Nat.le_of_ble_eq_true rfl) (Nat.le_of_ble_eq_true rfl)

set_option maxHeartbeats 4000000 in
set_option maxRecDepth 100000 in
theorem c_X0_restart (l : Launch) (D : va_G) (ay : Nat → ClassId) (h : Nat) (o : Nat) (k : Nat) (b : Nat) (hc : Int32) (n : Nat) (f : Nat → Int32) : jM l yX0_restart (jws yX0_restart cX0_restart 1 none) 1 20 0 0 D ay [.ref h] [(h, .inr (0, [.ref o, .int (nI b), .int hc])), (o, .inr (8, [.ref k, .int (nI n)])), (k, .inl (ay 0, 100, .inl f))] (fun v w => v = none ∧ w = [(h, .inr (0, [.ref o, .int (nI b), .int 0])), (o, .inr (8, [.ref k, .int (nI 0)])), (k, .inl (ay 0, 100, .inl f))]) := by
  refine jM_of l (by decide) [(0, .ref h)] rfl rfl (fun p9 e9 s9 m9 a9 b9 me9 c9 A9 F => ?_)
  refine j_aload_n F 0 dX0_restart_0 rfl ?_
  refine j_getf F fX0_10 0 rfl rfl dX0_restart_1 ?_
  refine j_callV F kX0_31 (As := []) (rest := []) (c_X8_dropAll l D ay o k n f) 1 [1, 2] [0] [(h, .inr (0, [.ref o, .int (nI b), .int hc]))] rfl rfl rfl rfl rfl rfl rfl ⟨Nat.le_of_ble_eq_true rfl, Nat.le_of_ble_eq_true rfl⟩ dX0_restart_4 (fun v w hw => ?_)
  obtain ⟨rfl, rfl⟩ := hw
  refine j_perm [0, 1, 2] [(h, .inr (0, [.ref o, .int (nI b), .int hc])), (o, .inr (8, [.ref k, .int (nI 0)])), (k, .inl (ay 0, 100, .inl f))] rfl rfl ?_
  refine j_aload_n F 0 dX0_restart_7 rfl ?_
  refine j_iconst F (v := 0) dX0_restart_8 (by decide) ?_
  refine j_putf F fX0_16 0 [(h, .inr (0, [.ref o, .int (nI b), .int 0])), (o, .inr (8, [.ref k, .int (nI 0)])), (k, .inl (ay 0, 100, .inl f))] rfl rfl rfl rfl rfl (Nat.le_of_ble_eq_true rfl) dX0_restart_9 ?_
  exact j_vret F ⟨rfl, rfl⟩ dX0_restart_12 (Nat.le_of_ble_eq_true rfl) (Nat.le_of_ble_eq_true rfl)

-- ---- RequestLog
/-- the distance of a key, from the order of the latest requests -/
def dsI (f : Nat → Int32) (n : Nat) (key : Int32) : Int32 := if fx f key n < n then nI (n - 1 - fx f key n) else -1
/-- how many of the first c distances are less than x -/
def cb (dr : Nat → Int32) (x : Int32) : Nat → Nat
  | 0 => 0
  | c + 1 => if ¬ dr c = -1 ∧ dr c < x then cb dr x c + 1 else cb dr x c
theorem cb_le (dr : Nat → Int32) (x : Int32) : ∀ c, cb dr x c ≤ c
  | 0 => Nat.le_refl 0
  | c + 1 => by
    have ih := cb_le dr x c
    show (if ¬ dr c = -1 ∧ dr c < x then cb dr x c + 1 else cb dr x c) ≤ c + 1
    split <;> omega
def dtot (dr : Nat → Int32) : Nat → Int32
  | 0 => 0
  | c + 1 => if dr c = -1 then dtot dr c else dtot dr c + dr c
set_option maxHeartbeats 4000000 in
set_option maxRecDepth 100000 in
theorem c_X5_length (l : Launch) (D : va_G) (ay : Nat → ClassId) (g : Nat) (ka : Nat) (da : Nat) (o : Nat) (k : Nat) (c : Nat) (kr : Nat → Int32) (dr : Nat → Int32) (n : Nat) (f : Nat → Int32) : jM l yX5_length (jws yX5_length cX5_length 1 (some .int)) 0 0 0 0 D ay [.ref g] [(g, .inr (5, [.ref ka, .ref da, .ref o, .int (nI c)])), (ka, .inl (ay 0, 1000, .inl kr)), (da, .inl (ay 0, 1000, .inl dr)), (o, .inr (8, [.ref k, .int (nI n)])), (k, .inl (ay 0, 100, .inl f))] (fun v w => v = some (.int (nI c)) ∧ w = [(g, .inr (5, [.ref ka, .ref da, .ref o, .int (nI c)])), (ka, .inl (ay 0, 1000, .inl kr)), (da, .inl (ay 0, 1000, .inl dr)), (o, .inr (8, [.ref k, .int (nI n)])), (k, .inl (ay 0, 100, .inl f))]) := by
  refine jM_of l (by decide) [(0, .ref g)] rfl rfl (fun p9 e9 s9 m9 a9 b9 me9 c9 A9 F => ?_)
  refine j_aload_n F 0 dX5_length_0 rfl ?_
  refine j_getf F fX5_25 0 rfl rfl dX5_length_1 ?_
  exact j_iret F ⟨rfl, rfl⟩ dX5_length_4 (Nat.le_of_ble_eq_true rfl) (Nat.le_of_ble_eq_true rfl)

set_option maxHeartbeats 4000000 in
set_option maxRecDepth 100000 in
theorem c_X5_keyIn (l : Launch) (D : va_G) (ay : Nat → ClassId) (g : Nat) (ka : Nat) (da : Nat) (o : Nat) (k : Nat) (c : Nat) (kr : Nat → Int32) (dr : Nat → Int32) (n : Nat) (f : Nat → Int32) (j : Nat) (hc : c ≤ 1000) (hj : j < c) : jM l yX5_keyIn (jws yX5_keyIn cX5_keyIn 2 (some .int)) 0 0 0 0 D ay [.ref g, .int (nI j)] [(g, .inr (5, [.ref ka, .ref da, .ref o, .int (nI c)])), (ka, .inl (ay 0, 1000, .inl kr)), (da, .inl (ay 0, 1000, .inl dr)), (o, .inr (8, [.ref k, .int (nI n)])), (k, .inl (ay 0, 100, .inl f))] (fun v w => v = some (.int (kr j)) ∧ w = [(g, .inr (5, [.ref ka, .ref da, .ref o, .int (nI c)])), (ka, .inl (ay 0, 1000, .inl kr)), (da, .inl (ay 0, 1000, .inl dr)), (o, .inr (8, [.ref k, .int (nI n)])), (k, .inl (ay 0, 100, .inl f))]) := by
  refine jM_of l (by decide) [(0, .ref g), (1, .int (nI j))] rfl rfl (fun p9 e9 s9 m9 a9 b9 me9 c9 A9 F => ?_)
  refine j_iload_n F 1 dX5_keyIn_0 rfl ?_
  refine j_if_lt F 21 dX5_keyIn_1 (by decide) (fun c_1 => absurd c_1 (nI_pos (by omega))) (fun c_1 => ?_)
  refine j_iload_n F 1 dX5_keyIn_4 rfl ?_
  refine j_aload_n F 0 dX5_keyIn_5 rfl ?_
  refine j_getf F fX5_25 0 rfl rfl dX5_keyIn_6 ?_
  refine j_icmp_ge F 21 dX5_keyIn_9 (by decide) (fun c_9 => absurd c_9 (nI_ge hj (by omega))) (fun c_9 => ?_)
  refine j_aload_n F 0 dX5_keyIn_12 rfl ?_
  refine j_getf F fX5_9 0 rfl rfl dX5_keyIn_13 ?_
  refine j_iload_n F 1 dX5_keyIn_16 rfl ?_
  refine j_iald F 1 j rfl rfl (by omega) (Nat.le_of_ble_eq_true rfl) dX5_keyIn_17 ?_
  refine j_goto F 22 dX5_keyIn_18 (by decide) ?_
  exact j_iret F ⟨rfl, rfl⟩ dX5_keyIn_22 (Nat.le_of_ble_eq_true rfl) (Nat.le_of_ble_eq_true rfl)

set_option maxHeartbeats 4000000 in
set_option maxRecDepth 100000 in
theorem c_X5_distanceIn (l : Launch) (D : va_G) (ay : Nat → ClassId) (g : Nat) (ka : Nat) (da : Nat) (o : Nat) (k : Nat) (c : Nat) (kr : Nat → Int32) (dr : Nat → Int32) (n : Nat) (f : Nat → Int32) (j : Nat) (hc : c ≤ 1000) (hj : j < c) : jM l yX5_distanceIn (jws yX5_distanceIn cX5_distanceIn 2 (some .int)) 0 0 0 0 D ay [.ref g, .int (nI j)] [(g, .inr (5, [.ref ka, .ref da, .ref o, .int (nI c)])), (ka, .inl (ay 0, 1000, .inl kr)), (da, .inl (ay 0, 1000, .inl dr)), (o, .inr (8, [.ref k, .int (nI n)])), (k, .inl (ay 0, 100, .inl f))] (fun v w => v = some (.int (dr j)) ∧ w = [(g, .inr (5, [.ref ka, .ref da, .ref o, .int (nI c)])), (ka, .inl (ay 0, 1000, .inl kr)), (da, .inl (ay 0, 1000, .inl dr)), (o, .inr (8, [.ref k, .int (nI n)])), (k, .inl (ay 0, 100, .inl f))]) := by
  refine jM_of l (by decide) [(0, .ref g), (1, .int (nI j))] rfl rfl (fun p9 e9 s9 m9 a9 b9 me9 c9 A9 F => ?_)
  refine j_iload_n F 1 dX5_distanceIn_0 rfl ?_
  refine j_if_lt F 21 dX5_distanceIn_1 (by decide) (fun c_1 => absurd c_1 (nI_pos (by omega))) (fun c_1 => ?_)
  refine j_iload_n F 1 dX5_distanceIn_4 rfl ?_
  refine j_aload_n F 0 dX5_distanceIn_5 rfl ?_
  refine j_getf F fX5_25 0 rfl rfl dX5_distanceIn_6 ?_
  refine j_icmp_ge F 21 dX5_distanceIn_9 (by decide) (fun c_9 => absurd c_9 (nI_ge hj (by omega))) (fun c_9 => ?_)
  refine j_aload_n F 0 dX5_distanceIn_12 rfl ?_
  refine j_getf F fX5_15 0 rfl rfl dX5_distanceIn_13 ?_
  refine j_iload_n F 1 dX5_distanceIn_16 rfl ?_
  refine j_iald F 2 j rfl rfl (by omega) (Nat.le_of_ble_eq_true rfl) dX5_distanceIn_17 ?_
  refine j_goto F 22 dX5_distanceIn_18 (by decide) ?_
  exact j_iret F ⟨rfl, rfl⟩ dX5_distanceIn_22 (Nat.le_of_ble_eq_true rfl) (Nat.le_of_ble_eq_true rfl)

set_option maxHeartbeats 4000000 in
set_option maxRecDepth 100000 in
theorem c_X5_distanceTo (l : Launch) (D : va_G) (ay : Nat → ClassId) (g : Nat) (ka : Nat) (da : Nat) (o : Nat) (k : Nat) (c : Nat) (kr : Nat → Int32) (dr : Nat → Int32) (n : Nat) (f : Nat → Int32) (key : Int32) (hn : n ≤ 100) : jM l yX5_distanceTo (jws yX5_distanceTo cX5_distanceTo 3 (some .int)) 1 22 0 0 D ay [.ref g, .int key] [(g, .inr (5, [.ref ka, .ref da, .ref o, .int (nI c)])), (ka, .inl (ay 0, 1000, .inl kr)), (da, .inl (ay 0, 1000, .inl dr)), (o, .inr (8, [.ref k, .int (nI n)])), (k, .inl (ay 0, 100, .inl f))] (fun v w => v = some (.int (dsI f n key)) ∧ w = [(g, .inr (5, [.ref ka, .ref da, .ref o, .int (nI c)])), (ka, .inl (ay 0, 1000, .inl kr)), (da, .inl (ay 0, 1000, .inl dr)), (o, .inr (8, [.ref k, .int (nI n)])), (k, .inl (ay 0, 100, .inl f))]) := by
  refine jM_of l (by decide) [(0, .ref g), (1, .int key)] rfl rfl (fun p9 e9 s9 m9 a9 b9 me9 c9 A9 F => ?_)
  refine j_aload_n F 0 dX5_distanceTo_0 rfl ?_
  refine j_getf F fX5_21 0 rfl rfl dX5_distanceTo_1 ?_
  refine j_iload_n F 1 dX5_distanceTo_4 rfl ?_
  refine j_callV F kX5_40 (As := [.int key]) (rest := []) (c_X8_find l D ay o k n f key (by first | assumption | omega)) 3 [3, 4] [0, 1, 2] [(g, .inr (5, [.ref ka, .ref da, .ref o, .int (nI c)])), (ka, .inl (ay 0, 1000, .inl kr)), (da, .inl (ay 0, 1000, .inl dr))] rfl rfl rfl rfl rfl rfl rfl ⟨Nat.le_of_ble_eq_true rfl, Nat.le_of_ble_eq_true rfl⟩ dX5_distanceTo_5 (fun v w hw => ?_)
  obtain ⟨rfl, rfl⟩ := hw
  refine j_perm [0, 1, 2, 3, 4] [(g, .inr (5, [.ref ka, .ref da, .ref o, .int (nI c)])), (ka, .inl (ay 0, 1000, .inl kr)), (da, .inl (ay 0, 1000, .inl dr)), (o, .inr (8, [.ref k, .int (nI n)])), (k, .inl (ay 0, 100, .inl f))] rfl rfl ?_
  by_cases hf : fx f key n < n
  · skip
    refine j_top (nI (fx f key n)) (if_pos hf) ?_
    refine j_istore_n F 2 [(2, .int (nI (fx f key n))), (0, .ref g), (1, .int key)] dX5_distanceTo_8 rfl (by decide) rfl ?_
    refine j_iload_n F 0 dX5_distanceTo_9 rfl ?_
    refine j_iconst F (v := (-1)) dX5_distanceTo_10 (by decide) ?_
    refine j_icmp_ne F 18 dX5_distanceTo_11 (by decide) (fun c_11 => ?_) (fun c_11 => absurd c_11 (nI_m1 (by omega)))
    refine j_aload_n F 1 dX5_distanceTo_18 rfl ?_
    refine j_getf F fX5_21 0 rfl rfl dX5_distanceTo_19 ?_
    refine j_callV F kX5_43 (As := []) (rest := []) (c_X8_length l D ay o k n f) 3 [3, 4] [0, 1, 2] [(g, .inr (5, [.ref ka, .ref da, .ref o, .int (nI c)])), (ka, .inl (ay 0, 1000, .inl kr)), (da, .inl (ay 0, 1000, .inl dr))] rfl rfl rfl rfl rfl rfl rfl ⟨Nat.le_of_ble_eq_true rfl, Nat.le_of_ble_eq_true rfl⟩ dX5_distanceTo_22 (fun v w hw => ?_)
    obtain ⟨rfl, rfl⟩ := hw
    refine j_perm [0, 1, 2, 3, 4] [(g, .inr (5, [.ref ka, .ref da, .ref o, .int (nI c)])), (ka, .inl (ay 0, 1000, .inl kr)), (da, .inl (ay 0, 1000, .inl dr)), (o, .inr (8, [.ref k, .int (nI n)])), (k, .inl (ay 0, 100, .inl f))] rfl rfl ?_
    refine j_iconst F (v := 1) dX5_distanceTo_25 (by decide) ?_
    refine j_isub F dX5_distanceTo_26 ?_
    refine j_top (nI (n - 1)) (pk_sub (a := n) (b := 1) (by omega)) ?_
    refine j_iload_n F 0 dX5_distanceTo_27 rfl ?_
    refine j_isub F dX5_distanceTo_28 ?_
    refine j_top (nI (n - 1 - fx f key n)) (pk_sub (by omega)) ?_
    exact j_iret F ⟨by rw [dsI, if_pos hf], rfl⟩ dX5_distanceTo_29 (Nat.le_of_ble_eq_true rfl) (Nat.le_of_ble_eq_true rfl)
  · skip
    refine j_top (-1) (if_neg hf) ?_
    refine j_istore_n F 2 [(2, .int (-1)), (0, .ref g), (1, .int key)] dX5_distanceTo_8 rfl (by decide) rfl ?_
    refine j_iload_n F 0 dX5_distanceTo_9 rfl ?_
    refine j_iconst F (v := (-1)) dX5_distanceTo_10 (by decide) ?_
    refine j_icmp_ne F 18 dX5_distanceTo_11 (by decide) (fun c_11 => absurd rfl c_11) (fun c_11 => ?_)
    refine j_iconst F (v := (-1)) dX5_distanceTo_14 (by decide) ?_
    refine j_goto F 29 dX5_distanceTo_15 (by decide) ?_
    exact j_iret F ⟨by rw [dsI, if_neg hf], rfl⟩ dX5_distanceTo_29 (Nat.le_of_ble_eq_true rfl) (Nat.le_of_ble_eq_true rfl)

set_option maxHeartbeats 4000000 in
set_option maxRecDepth 100000 in
theorem c_X5_note (l : Launch) (D : va_G) (ay : Nat → ClassId) (g : Nat) (ka : Nat) (da : Nat) (o : Nat) (k : Nat) (c : Nat) (kr : Nat → Int32) (dr : Nat → Int32) (n : Nat) (f : Nat → Int32) (key : Int32) (hc : c < 1000) (hn : n ≤ 100) (hq : fx f key n < n ∨ n < 100) : jM l yX5_note (jws yX5_note cX5_note 2 none) 2 44 0 0 D ay [.ref g, .int key] [(g, .inr (5, [.ref ka, .ref da, .ref o, .int (nI c)])), (ka, .inl (ay 0, 1000, .inl kr)), (da, .inl (ay 0, 1000, .inl dr)), (o, .inr (8, [.ref k, .int (nI n)])), (k, .inl (ay 0, 100, .inl f))] (fun v w => v = none ∧ w = [(g, .inr (5, [.ref ka, .ref da, .ref o, .int (nI (c + 1))])), (ka, .inl (ay 0, 1000, .inl (upd kr c key))), (da, .inl (ay 0, 1000, .inl (upd dr c (dsI f n key)))), (o, .inr (8, [.ref k, .int (nI (usN f n key))])), (k, .inl (ay 0, 100, .inl (usF f n key)))]) := by
  refine jM_of l (by decide) [(0, .ref g), (1, .int key)] rfl rfl (fun p9 e9 s9 m9 a9 b9 me9 c9 A9 F => ?_)
  refine j_aload_n F 0 dX5_note_0 rfl ?_
  refine j_getf F fX5_25 0 rfl rfl dX5_note_1 ?_
  refine j_sipush F (v := 1000) dX5_note_4 (by decide) ?_
  refine j_icmp_lt F 11 dX5_note_7 (by decide) (fun c_7 => ?_) (fun c_7 => absurd (nI_lt (b := 1000) hc (by decide)) c_7)
  refine j_aload_n F 0 dX5_note_11 rfl ?_
  refine j_getf F fX5_9 0 rfl rfl dX5_note_12 ?_
  refine j_aload_n F 0 dX5_note_15 rfl ?_
  refine j_getf F fX5_25 0 rfl rfl dX5_note_16 ?_
  refine j_iload_n F 1 dX5_note_19 rfl ?_
  refine j_iast F 1 [(g, .inr (5, [.ref ka, .ref da, .ref o, .int (nI c)])), (ka, .inl (ay 0, 1000, .inl (upd kr c key))), (da, .inl (ay 0, 1000, .inl dr)), (o, .inr (8, [.ref k, .int (nI n)])), (k, .inl (ay 0, 100, .inl f))] c rfl rfl (by omega) (Nat.le_of_ble_eq_true rfl) rfl dX5_note_20 ?_
  refine j_aload_n F 0 dX5_note_21 rfl ?_
  refine j_getf F fX5_15 0 rfl rfl dX5_note_22 ?_
  refine j_aload_n F 0 dX5_note_25 rfl ?_
  refine j_getf F fX5_25 0 rfl rfl dX5_note_26 ?_
  refine j_aload_n F 0 dX5_note_29 rfl ?_
  refine j_iload_n F 1 dX5_note_30 rfl ?_
  refine j_callV F kX5_29 (As := [.int key]) (rest := [.int (nI c), .ref da]) (c_X5_distanceTo l D ay g ka da o k c (upd kr c key) dr n f key (by first | assumption | omega)) 0 [0, 1, 2, 3, 4] [] [] rfl rfl rfl rfl rfl rfl rfl ⟨Nat.le_of_ble_eq_true rfl, Nat.le_of_ble_eq_true rfl⟩ dX5_note_31 (fun v w hw => ?_)
  obtain ⟨rfl, rfl⟩ := hw
  refine j_perm [0, 1, 2, 3, 4] [(g, .inr (5, [.ref ka, .ref da, .ref o, .int (nI c)])), (ka, .inl (ay 0, 1000, .inl (upd kr c key))), (da, .inl (ay 0, 1000, .inl dr)), (o, .inr (8, [.ref k, .int (nI n)])), (k, .inl (ay 0, 100, .inl f))] rfl rfl ?_
  refine j_iast F 2 [(g, .inr (5, [.ref ka, .ref da, .ref o, .int (nI c)])), (ka, .inl (ay 0, 1000, .inl (upd kr c key))), (da, .inl (ay 0, 1000, .inl (upd dr c (dsI f n key)))), (o, .inr (8, [.ref k, .int (nI n)])), (k, .inl (ay 0, 100, .inl f))] c rfl rfl (by omega) (Nat.le_of_ble_eq_true rfl) rfl dX5_note_34 ?_
  refine j_aload_n F 0 dX5_note_35 rfl ?_
  refine j_dup F dX5_note_36 rfl ?_
  refine j_getf F fX5_25 0 rfl rfl dX5_note_37 ?_
  refine j_iconst F (v := 1) dX5_note_40 (by decide) ?_
  refine j_iadd F dX5_note_41 ?_
  refine j_top (nI (c + 1)) (nI_add _ _) ?_
  refine j_putf F fX5_25 0 [(g, .inr (5, [.ref ka, .ref da, .ref o, .int (nI (c + 1))])), (ka, .inl (ay 0, 1000, .inl (upd kr c key))), (da, .inl (ay 0, 1000, .inl (upd dr c (dsI f n key)))), (o, .inr (8, [.ref k, .int (nI n)])), (k, .inl (ay 0, 100, .inl f))] rfl rfl rfl rfl rfl (Nat.le_of_ble_eq_true rfl) dX5_note_42 ?_
  refine j_aload_n F 0 dX5_note_45 rfl ?_
  refine j_getf F fX5_21 0 rfl rfl dX5_note_46 ?_
  refine j_iload_n F 1 dX5_note_49 rfl ?_
  refine j_callV F kX5_33 (As := [.int key]) (rest := []) (c_X8_use l D ay o k n f key hn hq) 3 [3, 4] [0, 1, 2] [(g, .inr (5, [.ref ka, .ref da, .ref o, .int (nI (c + 1))])), (ka, .inl (ay 0, 1000, .inl (upd kr c key))), (da, .inl (ay 0, 1000, .inl (upd dr c (dsI f n key))))] rfl rfl rfl rfl rfl rfl rfl ⟨Nat.le_of_ble_eq_true rfl, Nat.le_of_ble_eq_true rfl⟩ dX5_note_50 (fun v w hw => ?_)
  obtain ⟨rfl, rfl⟩ := hw
  refine j_perm [0, 1, 2, 3, 4] [(g, .inr (5, [.ref ka, .ref da, .ref o, .int (nI (c + 1))])), (ka, .inl (ay 0, 1000, .inl (upd kr c key))), (da, .inl (ay 0, 1000, .inl (upd dr c (dsI f n key)))), (o, .inr (8, [.ref k, .int (nI (usN f n key))])), (k, .inl (ay 0, 100, .inl (usF f n key)))] rfl rfl ?_
  refine j_pop F dX5_note_53 rfl ?_
  exact j_vret F ⟨rfl, rfl⟩ dX5_note_54 (Nat.le_of_ble_eq_true rfl) (Nat.le_of_ble_eq_true rfl)

set_option maxHeartbeats 4000000 in
set_option maxRecDepth 100000 in
theorem c_X5_countBelow (l : Launch) (D : va_G) (ay : Nat → ClassId) (g : Nat) (ka : Nat) (da : Nat) (o : Nat) (k : Nat) (c : Nat) (kr : Nat → Int32) (dr : Nat → Int32) (n : Nat) (f : Nat → Int32) (x : Int32) (hc : c ≤ 1000) : jM l yX5_countBelow (jws yX5_countBelow cX5_countBelow 4 (some .int)) 0 0 0 0 D ay [.ref g, .int x] [(g, .inr (5, [.ref ka, .ref da, .ref o, .int (nI c)])), (ka, .inl (ay 0, 1000, .inl kr)), (da, .inl (ay 0, 1000, .inl dr)), (o, .inr (8, [.ref k, .int (nI n)])), (k, .inl (ay 0, 100, .inl f))] (fun v w => v = some (.int (nI (cb dr x c))) ∧ w = [(g, .inr (5, [.ref ka, .ref da, .ref o, .int (nI c)])), (ka, .inl (ay 0, 1000, .inl kr)), (da, .inl (ay 0, 1000, .inl dr)), (o, .inr (8, [.ref k, .int (nI n)])), (k, .inl (ay 0, 100, .inl f))]) := by
  refine jM_of l (by decide) [(0, .ref g), (1, .int x)] rfl rfl (fun p9 e9 s9 m9 a9 b9 me9 c9 A9 F => ?_)
  refine j_iconst F (v := 0) dX5_countBelow_0 (by decide) ?_
  refine j_istore_n F 2 [(2, .int 0), (0, .ref g), (1, .int x)] dX5_countBelow_1 rfl (by decide) rfl ?_
  refine j_iconst F (v := 0) dX5_countBelow_2 (by decide) ?_
  refine j_istore_n F 3 [(3, .int 0), (2, .int 0), (0, .ref g), (1, .int x)] dX5_countBelow_3 rfl (by decide) rfl ?_
  refine j_loop (σ := Nat) (fun i => i ≤ c) (fun i => c - i) (fun i => [(3, .int (nI i)), (2, .int (nI (cb dr x i))), (0, .ref g), (1, .int x)]) (fun _ => [(g, .inr (5, [.ref ka, .ref da, .ref o, .int (nI c)])), (ka, .inl (ay 0, 1000, .inl kr)), (da, .inl (ay 0, 1000, .inl dr)), (o, .inr (8, [.ref k, .int (nI n)])), (k, .inl (ay 0, 100, .inl f))]) 0 (Nat.zero_le _) rfl rfl (fun i hi ih => ?_)
  refine j_iload_n F 0 dX5_countBelow_4 rfl ?_
  refine j_aload_n F 2 dX5_countBelow_5 rfl ?_
  refine j_getf F fX5_25 0 rfl rfl dX5_countBelow_6 ?_
  refine j_icmp_ge F 41 dX5_countBelow_9 (by decide) (fun c_9 => ?_) (fun c_9 => ?_)
  · skip
    have n_9 := (n_le c i rfl rfl (by omega) (by omega)).mp c_9
    refine j_iload_n F 1 dX5_countBelow_41 rfl ?_
    exact j_iret F ⟨by rw [show i = c by omega], rfl⟩ dX5_countBelow_42 (Nat.le_of_ble_eq_true rfl) (Nat.le_of_ble_eq_true rfl)
  · skip
    have n_9 := mt (n_le c i rfl rfl (by omega) (by omega)).mpr c_9
    refine j_aload_n F 2 dX5_countBelow_12 rfl ?_
    refine j_getf F fX5_15 0 rfl rfl dX5_countBelow_13 ?_
    refine j_iload_n F 0 dX5_countBelow_16 rfl ?_
    refine j_iald F 2 i rfl rfl (by omega) (Nat.le_of_ble_eq_true rfl) dX5_countBelow_17 ?_
    refine j_iconst F (v := (-1)) dX5_countBelow_18 (by decide) ?_
    refine j_icmp_eq F 35 dX5_countBelow_19 (by decide) (fun c_19 => ?_) (fun c_19 => ?_)
    · skip
      refine j_iinc F 0 (nI (i + 1)) [(3, .int (nI (i + 1))), (2, .int (nI (cb dr x i))), (0, .ref g), (1, .int x)] dX5_countBelow_35 rfl (nI_1 _) (by decide) rfl ?_
      refine j_goto F 4 dX5_countBelow_38 (by decide) ?_
      have hcb : cb dr x i = cb dr x (i + 1) := (if_neg (fun h => h.1 c_19)).symm
      rw [hcb]
      refine j_sub [0, 1, 2, 3] [(3, .int (nI (i + 1))), (2, .int (nI (cb dr x (i + 1)))), (0, .ref g), (1, .int x)] rfl ?_
      exact ih (i + 1) (by omega) (by show c - (i + 1) < c - i; omega)
    · skip
      refine j_aload_n F 2 dX5_countBelow_22 rfl ?_
      refine j_getf F fX5_15 0 rfl rfl dX5_countBelow_23 ?_
      refine j_iload_n F 0 dX5_countBelow_26 rfl ?_
      refine j_iald F 2 i rfl rfl (by omega) (Nat.le_of_ble_eq_true rfl) dX5_countBelow_27 ?_
      refine j_iload_n F 3 dX5_countBelow_28 rfl ?_
      refine j_icmp_ge F 35 dX5_countBelow_29 (by decide) (fun c_29 => ?_) (fun c_29 => ?_)
      · skip
        refine j_iinc F 0 (nI (i + 1)) [(3, .int (nI (i + 1))), (2, .int (nI (cb dr x i))), (0, .ref g), (1, .int x)] dX5_countBelow_35 rfl (nI_1 _) (by decide) rfl ?_
        refine j_goto F 4 dX5_countBelow_38 (by decide) ?_
        have hcb : cb dr x i = cb dr x (i + 1) := (if_neg (fun h => absurd h.2 (Int32.not_lt.mpr c_29))).symm
        rw [hcb]
        refine j_sub [0, 1, 2, 3] [(3, .int (nI (i + 1))), (2, .int (nI (cb dr x (i + 1)))), (0, .ref g), (1, .int x)] rfl ?_
        exact ih (i + 1) (by omega) (by show c - (i + 1) < c - i; omega)
      · skip
        refine j_iinc F 1 (nI (cb dr x i + 1)) [(2, .int (nI (cb dr x i + 1))), (3, .int (nI i)), (0, .ref g), (1, .int x)] dX5_countBelow_32 rfl (nI_1 _) (by decide) rfl ?_
        refine j_iinc F 1 (nI (i + 1)) [(3, .int (nI (i + 1))), (2, .int (nI (cb dr x i + 1))), (0, .ref g), (1, .int x)] dX5_countBelow_35 rfl (nI_1 _) (by decide) rfl ?_
        refine j_goto F 4 dX5_countBelow_38 (by decide) ?_
        have hcb : cb dr x i + 1 = cb dr x (i + 1) := (if_pos ⟨c_19, Int32.not_le.mp c_29⟩).symm
        rw [hcb]
        refine j_sub [0, 1, 2, 3] [(3, .int (nI (i + 1))), (2, .int (nI (cb dr x (i + 1)))), (0, .ref g), (1, .int x)] rfl ?_
        exact ih (i + 1) (by omega) (by show c - (i + 1) < c - i; omega)

set_option maxHeartbeats 4000000 in
set_option maxRecDepth 100000 in
theorem c_X5_distanceTotal (l : Launch) (D : va_G) (ay : Nat → ClassId) (g : Nat) (ka : Nat) (da : Nat) (o : Nat) (k : Nat) (c : Nat) (kr : Nat → Int32) (dr : Nat → Int32) (n : Nat) (f : Nat → Int32) (hc : c ≤ 1000) : jM l yX5_distanceTotal (jws yX5_distanceTotal cX5_distanceTotal 3 (some .int)) 0 0 0 0 D ay [.ref g] [(g, .inr (5, [.ref ka, .ref da, .ref o, .int (nI c)])), (ka, .inl (ay 0, 1000, .inl kr)), (da, .inl (ay 0, 1000, .inl dr)), (o, .inr (8, [.ref k, .int (nI n)])), (k, .inl (ay 0, 100, .inl f))] (fun v w => v = some (.int (dtot dr c)) ∧ w = [(g, .inr (5, [.ref ka, .ref da, .ref o, .int (nI c)])), (ka, .inl (ay 0, 1000, .inl kr)), (da, .inl (ay 0, 1000, .inl dr)), (o, .inr (8, [.ref k, .int (nI n)])), (k, .inl (ay 0, 100, .inl f))]) := by
  refine jM_of l (by decide) [(0, .ref g)] rfl rfl (fun p9 e9 s9 m9 a9 b9 me9 c9 A9 F => ?_)
  refine j_iconst F (v := 0) dX5_distanceTotal_0 (by decide) ?_
  refine j_istore_n F 1 [(1, .int 0), (0, .ref g)] dX5_distanceTotal_1 rfl (by decide) rfl ?_
  refine j_iconst F (v := 0) dX5_distanceTotal_2 (by decide) ?_
  refine j_istore_n F 2 [(2, .int 0), (1, .int 0), (0, .ref g)] dX5_distanceTotal_3 rfl (by decide) rfl ?_
  refine j_loop (σ := Nat) (fun i => i ≤ c) (fun i => c - i) (fun i => [(2, .int (nI i)), (1, .int (dtot dr i)), (0, .ref g)]) (fun _ => [(g, .inr (5, [.ref ka, .ref da, .ref o, .int (nI c)])), (ka, .inl (ay 0, 1000, .inl kr)), (da, .inl (ay 0, 1000, .inl dr)), (o, .inr (8, [.ref k, .int (nI n)])), (k, .inl (ay 0, 100, .inl f))]) 0 (Nat.zero_le _) rfl rfl (fun i hi ih => ?_)
  refine j_iload_n F 0 dX5_distanceTotal_4 rfl ?_
  refine j_aload_n F 2 dX5_distanceTotal_5 rfl ?_
  refine j_getf F fX5_25 0 rfl rfl dX5_distanceTotal_6 ?_
  refine j_icmp_ge F 37 dX5_distanceTotal_9 (by decide) (fun c_9 => ?_) (fun c_9 => ?_)
  · skip
    have n_9 := (n_le c i rfl rfl (by omega) (by omega)).mp c_9
    refine j_iload_n F 1 dX5_distanceTotal_37 rfl ?_
    exact j_iret F ⟨by rw [show i = c by omega], rfl⟩ dX5_distanceTotal_38 (Nat.le_of_ble_eq_true rfl) (Nat.le_of_ble_eq_true rfl)
  · skip
    have n_9 := mt (n_le c i rfl rfl (by omega) (by omega)).mpr c_9
    refine j_aload_n F 2 dX5_distanceTotal_12 rfl ?_
    refine j_getf F fX5_15 0 rfl rfl dX5_distanceTotal_13 ?_
    refine j_iload_n F 0 dX5_distanceTotal_16 rfl ?_
    refine j_iald F 2 i rfl rfl (by omega) (Nat.le_of_ble_eq_true rfl) dX5_distanceTotal_17 ?_
    refine j_iconst F (v := (-1)) dX5_distanceTotal_18 (by decide) ?_
    refine j_icmp_eq F 31 dX5_distanceTotal_19 (by decide) (fun c_19 => ?_) (fun c_19 => ?_)
    · skip
      refine j_iinc F 0 (nI (i + 1)) [(2, .int (nI (i + 1))), (1, .int (dtot dr i)), (0, .ref g)] dX5_distanceTotal_31 rfl (nI_1 _) (by decide) rfl ?_
      refine j_goto F 4 dX5_distanceTotal_34 (by decide) ?_
      have hcb : dtot dr i = dtot dr (i + 1) := (if_pos c_19).symm
      rw [hcb]
      refine j_sub [0, 1, 2] [(2, .int (nI (i + 1))), (1, .int (dtot dr (i + 1))), (0, .ref g)] rfl ?_
      exact ih (i + 1) (by omega) (by show c - (i + 1) < c - i; omega)
    · skip
      refine j_iload_n F 1 dX5_distanceTotal_22 rfl ?_
      refine j_aload_n F 2 dX5_distanceTotal_23 rfl ?_
      refine j_getf F fX5_15 0 rfl rfl dX5_distanceTotal_24 ?_
      refine j_iload_n F 0 dX5_distanceTotal_27 rfl ?_
      refine j_iald F 2 i rfl rfl (by omega) (Nat.le_of_ble_eq_true rfl) dX5_distanceTotal_28 ?_
      refine j_iadd F dX5_distanceTotal_29 ?_
      refine j_istore_n F 1 [(1, .int (dtot dr i + dr i)), (2, .int (nI i)), (0, .ref g)] dX5_distanceTotal_30 rfl (by decide) rfl ?_
      refine j_iinc F 1 (nI (i + 1)) [(2, .int (nI (i + 1))), (1, .int (dtot dr i + dr i)), (0, .ref g)] dX5_distanceTotal_31 rfl (nI_1 _) (by decide) rfl ?_
      refine j_goto F 4 dX5_distanceTotal_34 (by decide) ?_
      have hcb : dtot dr i + dr i = dtot dr (i + 1) := (if_neg c_19).symm
      rw [hcb]
      refine j_sub [0, 1, 2] [(2, .int (nI (i + 1))), (1, .int (dtot dr (i + 1))), (0, .ref g)] rfl ?_
      exact ih (i + 1) (by omega) (by show c - (i + 1) < c - i; omega)

set_option maxHeartbeats 4000000 in
set_option maxRecDepth 100000 in
theorem c_X5_restart (l : Launch) (D : va_G) (ay : Nat → ClassId) (g : Nat) (ka : Nat) (da : Nat) (o : Nat) (k : Nat) (c : Nat) (kr : Nat → Int32) (dr : Nat → Int32) (n : Nat) (f : Nat → Int32) : jM l yX5_restart (jws yX5_restart cX5_restart 1 none) 1 20 0 0 D ay [.ref g] [(g, .inr (5, [.ref ka, .ref da, .ref o, .int (nI c)])), (ka, .inl (ay 0, 1000, .inl kr)), (da, .inl (ay 0, 1000, .inl dr)), (o, .inr (8, [.ref k, .int (nI n)])), (k, .inl (ay 0, 100, .inl f))] (fun v w => v = none ∧ w = [(g, .inr (5, [.ref ka, .ref da, .ref o, .int (nI 0)])), (ka, .inl (ay 0, 1000, .inl kr)), (da, .inl (ay 0, 1000, .inl dr)), (o, .inr (8, [.ref k, .int (nI 0)])), (k, .inl (ay 0, 100, .inl f))]) := by
  refine jM_of l (by decide) [(0, .ref g)] rfl rfl (fun p9 e9 s9 m9 a9 b9 me9 c9 A9 F => ?_)
  refine j_aload_n F 0 dX5_restart_0 rfl ?_
  refine j_iconst F (v := 0) dX5_restart_1 (by decide) ?_
  refine j_putf F fX5_25 0 [(g, .inr (5, [.ref ka, .ref da, .ref o, .int 0])), (ka, .inl (ay 0, 1000, .inl kr)), (da, .inl (ay 0, 1000, .inl dr)), (o, .inr (8, [.ref k, .int (nI n)])), (k, .inl (ay 0, 100, .inl f))] rfl rfl rfl rfl rfl (Nat.le_of_ble_eq_true rfl) dX5_restart_2 ?_
  refine j_aload_n F 0 dX5_restart_5 rfl ?_
  refine j_getf F fX5_21 0 rfl rfl dX5_restart_6 ?_
  refine j_callV F kX5_37 (As := []) (rest := []) (c_X8_dropAll l D ay o k n f) 3 [3, 4] [0, 1, 2] [(g, .inr (5, [.ref ka, .ref da, .ref o, .int 0])), (ka, .inl (ay 0, 1000, .inl kr)), (da, .inl (ay 0, 1000, .inl dr))] rfl rfl rfl rfl rfl rfl rfl ⟨Nat.le_of_ble_eq_true rfl, Nat.le_of_ble_eq_true rfl⟩ dX5_restart_9 (fun v w hw => ?_)
  obtain ⟨rfl, rfl⟩ := hw
  refine j_perm [0, 1, 2, 3, 4] [(g, .inr (5, [.ref ka, .ref da, .ref o, .int 0])), (ka, .inl (ay 0, 1000, .inl kr)), (da, .inl (ay 0, 1000, .inl dr)), (o, .inr (8, [.ref k, .int (nI 0)])), (k, .inl (ay 0, 100, .inl f))] rfl rfl ?_
  exact j_vret F ⟨rfl, rfl⟩ dX5_restart_12 (Nat.le_of_ble_eq_true rfl) (Nat.le_of_ble_eq_true rfl)
