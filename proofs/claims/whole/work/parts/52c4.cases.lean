set_option maxHeartbeats 4000000 in
set_option maxRecDepth 100000 in
theorem case_36 (l : Launch) (hfl : l.stackTraces = false) (D : va_G) (ay : Nat → ClassId) (sa : Nat → Nat) (ad ae : Nat → Nat) (o oD bS L : Nat) (xs : Nat → Int32) {p9 : Program} {e9 : Env} {s9 : State} {m9 : MethodId} {a9 : Array Value} {b9 : List Frame} {me9 : Method} {c9 : Code} {A9 : Nat → Prop} {Q9 : State → Prop} (F : jF p9 s9 m9 a9 me9 c9 cL_law 10 RL (some .boolean) D ay A9) (hX : jX sa A9 s9 s9.heap) (hN : jN s9) (hXb : va_X bS L xs s9 s9.heap) (hbl : bS < s9.heap.size) (hbA : ¬ A9 bS) (k n : Nat) (hk : k + 3 ≤ room_1.cells ∧ n + 18 ≤ room_1.slots) (t : Nat) (ht : 6 * t + 6 ≤ L) (hL : L ≤ 3072) (Z : DS) (vi : Nat → Int32) (ga : Nat → Nat → Int32) (fo : Nat → Int64) (fd : Nat → UInt64) (hG : GI Z vi ga) (kk : ∀ (Z' : DS) (vi' : Nat → Int32) (ga' : Nat → Nat → Int32) (fo' : Nat → Int64) (fd' : Nat → UInt64), GI Z' vi' ga' → jJ p9 l e9 room_1 s9 m9 a9 b9 me9 c9 Q9 D A9 10 (k + 3) (n + 18) (LW ay ad ae o oD Z' vi' ga' fo' fd') 2682 [(5, .int (nI (6 * t))), (0, .ref bS), (1, .ref (ad 0)), (2, .ref (ae 0)), (3, .ref o), (4, .ref oD)] []) : jJ p9 l e9 room_1 s9 m9 a9 b9 me9 c9 Q9 D A9 10 k n (LW ay ad ae o oD Z vi ga fo fd) 2254 [(5, .int (nI (6 * t))), (0, .ref bS), (1, .ref (ad 0)), (2, .ref (ae 0)), (3, .ref o), (4, .ref oD)] [] := by
  refine j_aload_n F 2 dL_law_2254 rfl ?_
  refine j_scallV F kL_258 (As := []) (rest := []) (c_X9_flush l D ay ad Z) 1 1 55 rfl rfl rfl rfl rfl rfl ⟨Nat.le_trans (Nat.le_add_right _ _) hk.1, Nat.le_trans (Nat.le_add_right _ _) hk.2⟩ dL_law_2255 (fun v w hw => ?_)
  obtain ⟨rfl, rfl⟩ := hw
  refine ⟨rfl, (LW ay ad ae o oD (xU Z (Z.1 19) (Z.2.1 19) (Z.2.1 20) ((Z.2.1 21) + nI (wC (Z.2.2 22) 16)) (wD (Z.2.2 21) (Z.2.2 20) (Z.2.2 22) 16) (Z.2.2 21) (wY (Z.2.2 22) 16) (Z.1 11) (Z.2.2 23)) vi ga fo fd), rfl, ?_⟩
  refine j_aload_n F 3 dL_law_2258 rfl ?_
  refine j_scallV F kL_261 (As := []) (rest := [.int (nI (wC (Z.2.2 22) 16))]) (c_X10_flush_ok l D ay ae vi ga Z hG) 57 57 20 rfl rfl rfl rfl rfl rfl ⟨Nat.le_trans (Nat.le_add_right _ _) hk.1, Nat.le_trans (Nat.le_add_right _ _) hk.2⟩ dL_law_2259 (fun v w hw => ?_)
  obtain ⟨vi1, ga1, hG1, hc1, rfl, rfl⟩ := hw
  refine ⟨rfl, (LW ay ad ae o oD (xU Z (Z.1 19) (Z.2.1 19) (Z.2.1 20) ((Z.2.1 21) + nI (wC (Z.2.2 22) 16)) (wD (Z.2.2 21) (Z.2.2 20) (Z.2.2 22) 16) (Z.2.2 21) (wY (Z.2.2 22) 16) (Z.1 11) (Z.2.2 23)) vi1 ga1 fo fd), rfl, ?_⟩
  refine j_top (nI (wC (Z.2.2 22) 16)) rfl ?_
  refine j_icmp_eq F 2682 dL_law_2262 (by decide) (fun c_2262 => ?_) (fun c_2262 => absurd rfl c_2262)
  refine j_widen (Nat.le_add_right k 3) (Nat.le_add_right n 18) ?_
  refine j_sub [0, 1, 2, 3, 4, 5] [(5, .int (nI (6 * t))), (0, .ref bS), (1, .ref (ad 0)), (2, .ref (ae 0)), (3, .ref o), (4, .ref oD)] rfl ?_
  exact kk (xU Z (Z.1 19) (Z.2.1 19) (Z.2.1 20) ((Z.2.1 21) + nI (wC (Z.2.2 22) 16)) (wD (Z.2.2 21) (Z.2.2 20) (Z.2.2 22) 16) (Z.2.2 21) (wY (Z.2.2 22) 16) (Z.1 11) (Z.2.2 23)) vi1 ga1 fo fd hG1

set_option maxHeartbeats 4000000 in
set_option maxRecDepth 100000 in
theorem case_37 (l : Launch) (hfl : l.stackTraces = false) (D : va_G) (ay : Nat → ClassId) (sa : Nat → Nat) (ad ae : Nat → Nat) (o oD bS L : Nat) (xs : Nat → Int32) {p9 : Program} {e9 : Env} {s9 : State} {m9 : MethodId} {a9 : Array Value} {b9 : List Frame} {me9 : Method} {c9 : Code} {A9 : Nat → Prop} {Q9 : State → Prop} (F : jF p9 s9 m9 a9 me9 c9 cL_law 10 RL (some .boolean) D ay A9) (hX : jX sa A9 s9 s9.heap) (hN : jN s9) (hXb : va_X bS L xs s9 s9.heap) (hbl : bS < s9.heap.size) (hbA : ¬ A9 bS) (k n : Nat) (hk : k + 3 ≤ room_1.cells ∧ n + 18 ≤ room_1.slots) (t : Nat) (ht : 6 * t + 6 ≤ L) (hL : L ≤ 3072) (Z : DS) (vi : Nat → Int32) (ga : Nat → Nat → Int32) (fo : Nat → Int64) (fd : Nat → UInt64) (hG : GI Z vi ga) (kk : ∀ (Z' : DS) (vi' : Nat → Int32) (ga' : Nat → Nat → Int32) (fo' : Nat → Int64) (fd' : Nat → UInt64), GI Z' vi' ga' → jJ p9 l e9 room_1 s9 m9 a9 b9 me9 c9 Q9 D A9 10 (k + 3) (n + 18) (LW ay ad ae o oD Z' vi' ga' fo' fd') 2682 [(5, .int (nI (6 * t))), (0, .ref bS), (1, .ref (ad 0)), (2, .ref (ae 0)), (3, .ref o), (4, .ref oD)] []) : jJ p9 l e9 room_1 s9 m9 a9 b9 me9 c9 Q9 D A9 10 k n (LW ay ad ae o oD Z vi ga fo fd) 2267 [(5, .int (nI (6 * t))), (0, .ref bS), (1, .ref (ad 0)), (2, .ref (ae 0)), (3, .ref o), (4, .ref oD)] [] := by
  refine j_aload_n F 2 dL_law_2267 rfl ?_
  refine j_scallV F kL_262 (As := []) (rest := []) (c_X9_accumulator l D ay ad Z) 1 1 55 rfl rfl rfl rfl rfl rfl ⟨Nat.le_trans (Nat.le_add_right _ _) hk.1, Nat.le_trans (Nat.le_add_right _ _) hk.2⟩ dL_law_2268 (fun v w hw => ?_)
  obtain ⟨rfl, rfl⟩ := hw
  refine ⟨rfl, (LW ay ad ae o oD Z vi ga fo fd), rfl, ?_⟩
  refine j_aload_n F 3 dL_law_2271 rfl ?_
  refine j_scallV F kL_265 (As := []) (rest := [.int (Z.2.1 19)]) (c_X10_accumulator_ok l D ay ae vi ga Z hG) 57 57 20 rfl rfl rfl rfl rfl rfl ⟨Nat.le_trans (Nat.le_add_right _ _) hk.1, Nat.le_trans (Nat.le_add_right _ _) hk.2⟩ dL_law_2272 (fun v w hw => ?_)
  obtain ⟨vi1, ga1, hG1, hc1, rfl, rfl⟩ := hw
  refine ⟨rfl, (LW ay ad ae o oD Z vi1 ga1 fo fd), rfl, ?_⟩
  refine j_top (Z.2.1 19) rfl ?_
  refine j_icmp_eq F 2682 dL_law_2275 (by decide) (fun c_2275 => ?_) (fun c_2275 => absurd rfl c_2275)
  refine j_widen (Nat.le_add_right k 3) (Nat.le_add_right n 18) ?_
  refine j_sub [0, 1, 2, 3, 4, 5] [(5, .int (nI (6 * t))), (0, .ref bS), (1, .ref (ad 0)), (2, .ref (ae 0)), (3, .ref o), (4, .ref oD)] rfl ?_
  exact kk Z vi1 ga1 fo fd hG1

set_option maxHeartbeats 4000000 in
set_option maxRecDepth 100000 in
theorem case_38 (l : Launch) (hfl : l.stackTraces = false) (D : va_G) (ay : Nat → ClassId) (sa : Nat → Nat) (ad ae : Nat → Nat) (o oD bS L : Nat) (xs : Nat → Int32) {p9 : Program} {e9 : Env} {s9 : State} {m9 : MethodId} {a9 : Array Value} {b9 : List Frame} {me9 : Method} {c9 : Code} {A9 : Nat → Prop} {Q9 : State → Prop} (F : jF p9 s9 m9 a9 me9 c9 cL_law 10 RL (some .boolean) D ay A9) (hX : jX sa A9 s9 s9.heap) (hN : jN s9) (hXb : va_X bS L xs s9 s9.heap) (hbl : bS < s9.heap.size) (hbA : ¬ A9 bS) (k n : Nat) (hk : k + 3 ≤ room_1.cells ∧ n + 18 ≤ room_1.slots) (t : Nat) (ht : 6 * t + 6 ≤ L) (hL : L ≤ 3072) (Z : DS) (vi : Nat → Int32) (ga : Nat → Nat → Int32) (fo : Nat → Int64) (fd : Nat → UInt64) (hG : GI Z vi ga) (kk : ∀ (Z' : DS) (vi' : Nat → Int32) (ga' : Nat → Nat → Int32) (fo' : Nat → Int64) (fd' : Nat → UInt64), GI Z' vi' ga' → jJ p9 l e9 room_1 s9 m9 a9 b9 me9 c9 Q9 D A9 10 (k + 3) (n + 18) (LW ay ad ae o oD Z' vi' ga' fo' fd') 2682 [(5, .int (nI (6 * t))), (0, .ref bS), (1, .ref (ad 0)), (2, .ref (ae 0)), (3, .ref o), (4, .ref oD)] []) : jJ p9 l e9 room_1 s9 m9 a9 b9 me9 c9 Q9 D A9 10 k n (LW ay ad ae o oD Z vi ga fo fd) 2280 [(5, .int (nI (6 * t))), (0, .ref bS), (1, .ref (ad 0)), (2, .ref (ae 0)), (3, .ref o), (4, .ref oD)] [] := by
  obtain ⟨x1, hx1⟩ : ∃ y, y = xs (6 * t + 1) := ⟨_, rfl⟩
  refine j_aload_n F 2 dL_law_2280 rfl ?_
  refine j_aload_n F 1 dL_law_2281 rfl ?_
  refine j_iload F 0 dL_law_2282 rfl ?_
  refine j_iconst F (v := 1) dL_law_2284 (by decide) ?_
  refine j_iadd F dL_law_2285 ?_
  refine j_top (nI (6 * t + 1)) (nI_add _ _) ?_
  refine j_sld F hXb hbl hbA hL (6 * t + 1) (by omega) dL_law_2286 ?_
  refine j_top x1 hx1.symm ?_
  refine j_aload_n F 4 dL_law_2287 rfl ?_
  refine j_hcallS F hX hN kL_266 (As := [.ref (ad 0), .int x1, .ref o]) (rest := []) (h_wordAt l hfl D ay sa ad Z x1 o fo (hG.2.2.2.2.2.2.2.1.1)) 1 56 rfl rfl rfl rfl rfl ⟨hk.1, hk.2⟩ dL_law_2288 (fun v w hw => ?_)
  rcases hw with ⟨a, g0, rfl, rfl, rfl⟩ | ⟨g0, rfl, rfl⟩
  · skip
    refine ⟨rfl, (LW ay ad ae o oD Z vi ga (vp_updL fo 0 ((if fx (Z.2.2 23) (nI (a / 4)) (Z.1 11) < Z.1 11 then Z.2.2 21 a else Z.2.2 20 a : Int32)).toInt64) fd), rfl, ?_⟩
    refine j_istore F 6 [(6, .int 0), (5, .int (nI (6 * t))), (0, .ref bS), (1, .ref (ad 0)), (2, .ref (ae 0)), (3, .ref o), (4, .ref oD)] dL_law_2291 (by decide) rfl ?_
    refine j_aload_n F 4 dL_law_2293 rfl ?_
    refine j_aload_n F 2 dL_law_2294 rfl ?_
    refine j_iload F 1 dL_law_2295 rfl ?_
    refine j_iconst F (v := 1) dL_law_2297 (by decide) ?_
    refine j_iadd F dL_law_2298 ?_
    refine j_top (nI (6 * t + 1)) (nI_add _ _) ?_
    refine j_sld F hXb hbl hbA hL (6 * t + 1) (by omega) dL_law_2299 ?_
    refine j_top (nI a) hx1.symm ?_
    refine j_scallV F kL_268 (As := [.int (nI a)]) (rest := []) (c_X10_wordAt_ok l D ay ae vi ga Z a hG (by first | assumption | exact ⟨‹_›, ‹_›⟩ | omega)) 57 57 20 rfl rfl rfl rfl rfl rfl ⟨hk.1, hk.2⟩ dL_law_2300 (fun v w hw => ?_)
    obtain ⟨vi1, ga1, hG1, hc1, rfl, rfl⟩ := hw
    refine ⟨rfl, (LW ay ad ae o oD Z vi1 ga1 (vp_updL fo 0 ((if fx (Z.2.2 23) (nI (a / 4)) (Z.1 11) < Z.1 11 then Z.2.2 21 a else Z.2.2 20 a : Int32)).toInt64) fd), rfl, ?_⟩
    refine j_top (if fx (Z.2.2 23) (nI (a / 4)) (Z.1 11) < Z.1 11 then Z.2.2 21 a else Z.2.2 20 a) rfl ?_
    refine j_istore F 7 [(7, .int (if fx (Z.2.2 23) (nI (a / 4)) (Z.1 11) < Z.1 11 then Z.2.2 21 a else Z.2.2 20 a)), (6, .int 0), (5, .int (nI (6 * t))), (0, .ref bS), (1, .ref (ad 0)), (2, .ref (ae 0)), (3, .ref o), (4, .ref oD)] dL_law_2303 (by decide) rfl ?_
    refine j_aload_n F 5 dL_law_2305 rfl ?_
    refine j_scallV F kL_140 (As := []) (rest := []) (c_X10_thrown l D ay ae vi1 ga1) 57 57 20 rfl rfl rfl rfl rfl rfl ⟨hk.1, hk.2⟩ dL_law_2306 (fun v w hw => ?_)
    obtain ⟨rfl, rfl⟩ := hw
    refine ⟨rfl, (LW ay ad ae o oD Z vi1 ga1 (vp_updL fo 0 ((if fx (Z.2.2 23) (nI (a / 4)) (Z.1 11) < Z.1 11 then Z.2.2 21 a else Z.2.2 20 a : Int32)).toInt64) fd), rfl, ?_⟩
    refine j_top 0 hc1 ?_
    refine j_iload F 1 dL_law_2309 rfl ?_
    refine j_icmp_eq F 2316 dL_law_2311 (by decide) (fun c_2311 => ?_) (fun c_2311 => absurd (by decide) c_2311)
    refine j_iload F 1 dL_law_2316 rfl ?_
    refine j_if_ne F 2333 dL_law_2318 (by decide) (fun c_2318 => absurd (by decide) c_2318) (fun c_2318 => ?_)
    refine j_aload_n F 6 dL_law_2321 rfl ?_
    refine j_iconst F (v := 0) dL_law_2322 (by decide) ?_
    refine j_lald F 56 0 (f := vp_updL fo 0 ((if fx (Z.2.2 23) (nI (a / 4)) (Z.1 11) < Z.1 11 then Z.2.2 21 a else Z.2.2 20 a : Int32)).toInt64) rfl rfl (by decide) (Nat.le_of_ble_eq_true rfl) dL_law_2323 ?_
    refine j_iload F 0 dL_law_2324 rfl ?_
    refine j_i2l F dL_law_2326 ?_
    refine j_lcmp F dL_law_2327 ?_
    refine j_top 0 (lg_self _) ?_
    refine j_if_eq F 2333 dL_law_2328 (by decide) (fun c_2328 => ?_) (fun c_2328 => absurd (by decide) c_2328)
    refine j_goto F 2682 dL_law_2333 (by decide) ?_
    refine j_sub [2, 3, 4, 5, 6, 7] [(5, .int (nI (6 * t))), (0, .ref bS), (1, .ref (ad 0)), (2, .ref (ae 0)), (3, .ref o), (4, .ref oD)] rfl ?_
    exact kk Z vi1 ga1 (vp_updL fo 0 ((if fx (Z.2.2 23) (nI (a / 4)) (Z.1 11) < Z.1 11 then Z.2.2 21 a else Z.2.2 20 a : Int32)).toInt64) fd hG1
  · skip
    refine ⟨rfl, (LW ay ad ae o oD Z vi ga fo fd), rfl, ?_⟩
    refine j_istore F 6 [(6, .int 1), (5, .int (nI (6 * t))), (0, .ref bS), (1, .ref (ad 0)), (2, .ref (ae 0)), (3, .ref o), (4, .ref oD)] dL_law_2291 (by decide) rfl ?_
    refine j_aload_n F 4 dL_law_2293 rfl ?_
    refine j_aload_n F 2 dL_law_2294 rfl ?_
    refine j_iload F 1 dL_law_2295 rfl ?_
    refine j_iconst F (v := 1) dL_law_2297 (by decide) ?_
    refine j_iadd F dL_law_2298 ?_
    refine j_top (nI (6 * t + 1)) (nI_add _ _) ?_
    refine j_sld F hXb hbl hbA hL (6 * t + 1) (by omega) dL_law_2299 ?_
    refine j_top x1 hx1.symm ?_
    refine j_scallV F kL_268 (As := [.int x1]) (rest := []) (c_X10_wordAt_no l D ay ae vi ga Z x1 hG (by first | assumption | exact ⟨‹_›, ‹_›⟩ | omega)) 57 57 20 rfl rfl rfl rfl rfl rfl ⟨hk.1, hk.2⟩ dL_law_2300 (fun v w hw => ?_)
    obtain ⟨vi1, ga1, hG1, hc1, rfl, rfl⟩ := hw
    refine ⟨rfl, (LW ay ad ae o oD Z vi1 ga1 fo fd), rfl, ?_⟩
    refine j_top 0 rfl ?_
    refine j_istore F 7 [(7, .int 0), (6, .int 1), (5, .int (nI (6 * t))), (0, .ref bS), (1, .ref (ad 0)), (2, .ref (ae 0)), (3, .ref o), (4, .ref oD)] dL_law_2303 (by decide) rfl ?_
    refine j_aload_n F 5 dL_law_2305 rfl ?_
    refine j_scallV F kL_140 (As := []) (rest := []) (c_X10_thrown l D ay ae vi1 ga1) 57 57 20 rfl rfl rfl rfl rfl rfl ⟨hk.1, hk.2⟩ dL_law_2306 (fun v w hw => ?_)
    obtain ⟨rfl, rfl⟩ := hw
    refine ⟨rfl, (LW ay ad ae o oD Z vi1 ga1 fo fd), rfl, ?_⟩
    refine j_top 1 hc1 ?_
    refine j_iload F 1 dL_law_2309 rfl ?_
    refine j_icmp_eq F 2316 dL_law_2311 (by decide) (fun c_2311 => ?_) (fun c_2311 => absurd (by decide) c_2311)
    refine j_iload F 1 dL_law_2316 rfl ?_
    refine j_if_ne F 2333 dL_law_2318 (by decide) (fun c_2318 => ?_) (fun c_2318 => absurd c_2318 (by decide))
    refine j_goto F 2682 dL_law_2333 (by decide) ?_
    refine j_sub [2, 3, 4, 5, 6, 7] [(5, .int (nI (6 * t))), (0, .ref bS), (1, .ref (ad 0)), (2, .ref (ae 0)), (3, .ref o), (4, .ref oD)] rfl ?_
    exact kk Z vi1 ga1 fo fd hG1

set_option maxHeartbeats 4000000 in
set_option maxRecDepth 100000 in
theorem case_39 (l : Launch) (hfl : l.stackTraces = false) (D : va_G) (ay : Nat → ClassId) (sa : Nat → Nat) (ad ae : Nat → Nat) (o oD bS L : Nat) (xs : Nat → Int32) {p9 : Program} {e9 : Env} {s9 : State} {m9 : MethodId} {a9 : Array Value} {b9 : List Frame} {me9 : Method} {c9 : Code} {A9 : Nat → Prop} {Q9 : State → Prop} (F : jF p9 s9 m9 a9 me9 c9 cL_law 10 RL (some .boolean) D ay A9) (hX : jX sa A9 s9 s9.heap) (hN : jN s9) (hXb : va_X bS L xs s9 s9.heap) (hbl : bS < s9.heap.size) (hbA : ¬ A9 bS) (k n : Nat) (hk : k + 3 ≤ room_1.cells ∧ n + 18 ≤ room_1.slots) (t : Nat) (ht : 6 * t + 6 ≤ L) (hL : L ≤ 3072) (Z : DS) (vi : Nat → Int32) (ga : Nat → Nat → Int32) (fo : Nat → Int64) (fd : Nat → UInt64) (hG : GI Z vi ga) (kk : ∀ (Z' : DS) (vi' : Nat → Int32) (ga' : Nat → Nat → Int32) (fo' : Nat → Int64) (fd' : Nat → UInt64), GI Z' vi' ga' → jJ p9 l e9 room_1 s9 m9 a9 b9 me9 c9 Q9 D A9 10 (k + 3) (n + 18) (LW ay ad ae o oD Z' vi' ga' fo' fd') 2682 [(5, .int (nI (6 * t))), (0, .ref bS), (1, .ref (ad 0)), (2, .ref (ae 0)), (3, .ref o), (4, .ref oD)] []) : jJ p9 l e9 room_1 s9 m9 a9 b9 me9 c9 Q9 D A9 10 k n (LW ay ad ae o oD Z vi ga fo fd) 2336 [(5, .int (nI (6 * t))), (0, .ref bS), (1, .ref (ad 0)), (2, .ref (ae 0)), (3, .ref o), (4, .ref oD)] [] := by
  obtain ⟨x1, hx1⟩ : ∃ y, y = xs (6 * t + 1) := ⟨_, rfl⟩
  refine j_aload_n F 2 dL_law_2336 rfl ?_
  refine j_aload_n F 1 dL_law_2337 rfl ?_
  refine j_iload F 0 dL_law_2338 rfl ?_
  refine j_iconst F (v := 1) dL_law_2340 (by decide) ?_
  refine j_iadd F dL_law_2341 ?_
  refine j_top (nI (6 * t + 1)) (nI_add _ _) ?_
  refine j_sld F hXb hbl hbA hL (6 * t + 1) (by omega) dL_law_2342 ?_
  refine j_top x1 hx1.symm ?_
  refine j_aload_n F 4 dL_law_2343 rfl ?_
  refine j_hcallS F hX hN kL_269 (As := [.ref (ad 0), .int x1, .ref o]) (rest := []) (h_discAt l hfl D ay sa ad Z x1 o fo) 1 56 rfl rfl rfl rfl rfl ⟨hk.1, hk.2⟩ dL_law_2344 (fun v w hw => ?_)
  rcases hw with ⟨a, g0, rfl, rfl, rfl⟩ | ⟨g0, rfl, rfl⟩
  · skip
    refine ⟨rfl, (LW ay ad ae o oD Z vi ga (vp_updL fo 0 ((Z.2.2 20 a : Int32)).toInt64) fd), rfl, ?_⟩
    refine j_istore F 6 [(6, .int 0), (5, .int (nI (6 * t))), (0, .ref bS), (1, .ref (ad 0)), (2, .ref (ae 0)), (3, .ref o), (4, .ref oD)] dL_law_2347 (by decide) rfl ?_
    refine j_aload_n F 4 dL_law_2349 rfl ?_
    refine j_aload_n F 2 dL_law_2350 rfl ?_
    refine j_iload F 1 dL_law_2351 rfl ?_
    refine j_iconst F (v := 1) dL_law_2353 (by decide) ?_
    refine j_iadd F dL_law_2354 ?_
    refine j_top (nI (6 * t + 1)) (nI_add _ _) ?_
    refine j_sld F hXb hbl hbA hL (6 * t + 1) (by omega) dL_law_2355 ?_
    refine j_top (nI a) hx1.symm ?_
    refine j_scallV F kL_271 (As := [.int (nI a)]) (rest := []) (c_X10_discAt_ok l D ay ae vi ga Z a hG (by first | assumption | exact ⟨‹_›, ‹_›⟩ | omega)) 57 57 20 rfl rfl rfl rfl rfl rfl ⟨hk.1, hk.2⟩ dL_law_2356 (fun v w hw => ?_)
    obtain ⟨vi1, ga1, hG1, hc1, rfl, rfl⟩ := hw
    refine ⟨rfl, (LW ay ad ae o oD Z vi1 ga1 (vp_updL fo 0 ((Z.2.2 20 a : Int32)).toInt64) fd), rfl, ?_⟩
    refine j_top (Z.2.2 20 a) rfl ?_
    refine j_istore F 7 [(7, .int (Z.2.2 20 a)), (6, .int 0), (5, .int (nI (6 * t))), (0, .ref bS), (1, .ref (ad 0)), (2, .ref (ae 0)), (3, .ref o), (4, .ref oD)] dL_law_2359 (by decide) rfl ?_
    refine j_aload_n F 5 dL_law_2361 rfl ?_
    refine j_scallV F kL_140 (As := []) (rest := []) (c_X10_thrown l D ay ae vi1 ga1) 57 57 20 rfl rfl rfl rfl rfl rfl ⟨hk.1, hk.2⟩ dL_law_2362 (fun v w hw => ?_)
    obtain ⟨rfl, rfl⟩ := hw
    refine ⟨rfl, (LW ay ad ae o oD Z vi1 ga1 (vp_updL fo 0 ((Z.2.2 20 a : Int32)).toInt64) fd), rfl, ?_⟩
    refine j_top 0 hc1 ?_
    refine j_iload F 1 dL_law_2365 rfl ?_
    refine j_icmp_eq F 2372 dL_law_2367 (by decide) (fun c_2367 => ?_) (fun c_2367 => absurd (by decide) c_2367)
    refine j_iload F 1 dL_law_2372 rfl ?_
    refine j_if_ne F 2389 dL_law_2374 (by decide) (fun c_2374 => absurd (by decide) c_2374) (fun c_2374 => ?_)
    refine j_aload_n F 6 dL_law_2377 rfl ?_
    refine j_iconst F (v := 0) dL_law_2378 (by decide) ?_
    refine j_lald F 56 0 (f := vp_updL fo 0 ((Z.2.2 20 a : Int32)).toInt64) rfl rfl (by decide) (Nat.le_of_ble_eq_true rfl) dL_law_2379 ?_
    refine j_iload F 0 dL_law_2380 rfl ?_
    refine j_i2l F dL_law_2382 ?_
    refine j_lcmp F dL_law_2383 ?_
    refine j_top 0 (lg_self _) ?_
    refine j_if_eq F 2389 dL_law_2384 (by decide) (fun c_2384 => ?_) (fun c_2384 => absurd (by decide) c_2384)
    refine j_goto F 2682 dL_law_2389 (by decide) ?_
    refine j_sub [2, 3, 4, 5, 6, 7] [(5, .int (nI (6 * t))), (0, .ref bS), (1, .ref (ad 0)), (2, .ref (ae 0)), (3, .ref o), (4, .ref oD)] rfl ?_
    exact kk Z vi1 ga1 (vp_updL fo 0 ((Z.2.2 20 a : Int32)).toInt64) fd hG1
  · skip
    refine ⟨rfl, (LW ay ad ae o oD Z vi ga fo fd), rfl, ?_⟩
    refine j_istore F 6 [(6, .int 1), (5, .int (nI (6 * t))), (0, .ref bS), (1, .ref (ad 0)), (2, .ref (ae 0)), (3, .ref o), (4, .ref oD)] dL_law_2347 (by decide) rfl ?_
    refine j_aload_n F 4 dL_law_2349 rfl ?_
    refine j_aload_n F 2 dL_law_2350 rfl ?_
    refine j_iload F 1 dL_law_2351 rfl ?_
    refine j_iconst F (v := 1) dL_law_2353 (by decide) ?_
    refine j_iadd F dL_law_2354 ?_
    refine j_top (nI (6 * t + 1)) (nI_add _ _) ?_
    refine j_sld F hXb hbl hbA hL (6 * t + 1) (by omega) dL_law_2355 ?_
    refine j_top x1 hx1.symm ?_
    refine j_scallV F kL_271 (As := [.int x1]) (rest := []) (c_X10_discAt_no l D ay ae vi ga Z x1 hG (by first | assumption | exact ⟨‹_›, ‹_›⟩ | omega)) 57 57 20 rfl rfl rfl rfl rfl rfl ⟨hk.1, hk.2⟩ dL_law_2356 (fun v w hw => ?_)
    obtain ⟨vi1, ga1, hG1, hc1, rfl, rfl⟩ := hw
    refine ⟨rfl, (LW ay ad ae o oD Z vi1 ga1 fo fd), rfl, ?_⟩
    refine j_top 0 rfl ?_
    refine j_istore F 7 [(7, .int 0), (6, .int 1), (5, .int (nI (6 * t))), (0, .ref bS), (1, .ref (ad 0)), (2, .ref (ae 0)), (3, .ref o), (4, .ref oD)] dL_law_2359 (by decide) rfl ?_
    refine j_aload_n F 5 dL_law_2361 rfl ?_
    refine j_scallV F kL_140 (As := []) (rest := []) (c_X10_thrown l D ay ae vi1 ga1) 57 57 20 rfl rfl rfl rfl rfl rfl ⟨hk.1, hk.2⟩ dL_law_2362 (fun v w hw => ?_)
    obtain ⟨rfl, rfl⟩ := hw
    refine ⟨rfl, (LW ay ad ae o oD Z vi1 ga1 fo fd), rfl, ?_⟩
    refine j_top 1 hc1 ?_
    refine j_iload F 1 dL_law_2365 rfl ?_
    refine j_icmp_eq F 2372 dL_law_2367 (by decide) (fun c_2367 => ?_) (fun c_2367 => absurd (by decide) c_2367)
    refine j_iload F 1 dL_law_2372 rfl ?_
    refine j_if_ne F 2389 dL_law_2374 (by decide) (fun c_2374 => ?_) (fun c_2374 => absurd c_2374 (by decide))
    refine j_goto F 2682 dL_law_2389 (by decide) ?_
    refine j_sub [2, 3, 4, 5, 6, 7] [(5, .int (nI (6 * t))), (0, .ref bS), (1, .ref (ad 0)), (2, .ref (ae 0)), (3, .ref o), (4, .ref oD)] rfl ?_
    exact kk Z vi1 ga1 fo fd hG1

set_option maxHeartbeats 4000000 in
set_option maxRecDepth 100000 in
theorem case_40 (l : Launch) (hfl : l.stackTraces = false) (D : va_G) (ay : Nat → ClassId) (sa : Nat → Nat) (ad ae : Nat → Nat) (o oD bS L : Nat) (xs : Nat → Int32) {p9 : Program} {e9 : Env} {s9 : State} {m9 : MethodId} {a9 : Array Value} {b9 : List Frame} {me9 : Method} {c9 : Code} {A9 : Nat → Prop} {Q9 : State → Prop} (F : jF p9 s9 m9 a9 me9 c9 cL_law 10 RL (some .boolean) D ay A9) (hX : jX sa A9 s9 s9.heap) (hN : jN s9) (hXb : va_X bS L xs s9 s9.heap) (hbl : bS < s9.heap.size) (hbA : ¬ A9 bS) (k n : Nat) (hk : k + 3 ≤ room_1.cells ∧ n + 18 ≤ room_1.slots) (t : Nat) (ht : 6 * t + 6 ≤ L) (hL : L ≤ 3072) (Z : DS) (vi : Nat → Int32) (ga : Nat → Nat → Int32) (fo : Nat → Int64) (fd : Nat → UInt64) (hG : GI Z vi ga) (kk : ∀ (Z' : DS) (vi' : Nat → Int32) (ga' : Nat → Nat → Int32) (fo' : Nat → Int64) (fd' : Nat → UInt64), GI Z' vi' ga' → jJ p9 l e9 room_1 s9 m9 a9 b9 me9 c9 Q9 D A9 10 (k + 3) (n + 18) (LW ay ad ae o oD Z' vi' ga' fo' fd') 2682 [(5, .int (nI (6 * t))), (0, .ref bS), (1, .ref (ad 0)), (2, .ref (ae 0)), (3, .ref o), (4, .ref oD)] []) : jJ p9 l e9 room_1 s9 m9 a9 b9 me9 c9 Q9 D A9 10 k n (LW ay ad ae o oD Z vi ga fo fd) 2392 [(5, .int (nI (6 * t))), (0, .ref bS), (1, .ref (ad 0)), (2, .ref (ae 0)), (3, .ref o), (4, .ref oD)] [] := by
  refine j_aload_n F 2 dL_law_2392 rfl ?_
  refine j_scallV F kL_272 (As := []) (rest := []) (c_X9_resident l D ay ad Z) 1 1 55 rfl rfl rfl rfl rfl rfl ⟨Nat.le_trans (Nat.le_add_right _ _) hk.1, Nat.le_trans (Nat.le_add_right _ _) hk.2⟩ dL_law_2393 (fun v w hw => ?_)
  obtain ⟨rfl, rfl⟩ := hw
  refine ⟨rfl, (LW ay ad ae o oD Z vi ga fo fd), rfl, ?_⟩
  refine j_aload_n F 3 dL_law_2396 rfl ?_
  refine j_scallV F kL_275 (As := []) (rest := [.int (nI (Z.1 11))]) (c_X10_resident_ok l D ay ae vi ga Z hG) 57 57 20 rfl rfl rfl rfl rfl rfl ⟨Nat.le_trans (Nat.le_add_right _ _) hk.1, Nat.le_trans (Nat.le_add_right _ _) hk.2⟩ dL_law_2397 (fun v w hw => ?_)
  obtain ⟨vi1, ga1, hG1, hc1, rfl, rfl⟩ := hw
  refine ⟨rfl, (LW ay ad ae o oD Z vi1 ga1 fo fd), rfl, ?_⟩
  refine j_top (nI (Z.1 11)) rfl ?_
  refine j_icmp_eq F 2682 dL_law_2400 (by decide) (fun c_2400 => ?_) (fun c_2400 => absurd rfl c_2400)
  refine j_widen (Nat.le_add_right k 3) (Nat.le_add_right n 18) ?_
  refine j_sub [0, 1, 2, 3, 4, 5] [(5, .int (nI (6 * t))), (0, .ref bS), (1, .ref (ad 0)), (2, .ref (ae 0)), (3, .ref o), (4, .ref oD)] rfl ?_
  exact kk Z vi1 ga1 fo fd hG1

set_option maxHeartbeats 4000000 in
set_option maxRecDepth 100000 in
theorem case_41 (l : Launch) (hfl : l.stackTraces = false) (D : va_G) (ay : Nat → ClassId) (sa : Nat → Nat) (ad ae : Nat → Nat) (o oD bS L : Nat) (xs : Nat → Int32) {p9 : Program} {e9 : Env} {s9 : State} {m9 : MethodId} {a9 : Array Value} {b9 : List Frame} {me9 : Method} {c9 : Code} {A9 : Nat → Prop} {Q9 : State → Prop} (F : jF p9 s9 m9 a9 me9 c9 cL_law 10 RL (some .boolean) D ay A9) (hX : jX sa A9 s9 s9.heap) (hN : jN s9) (hXb : va_X bS L xs s9 s9.heap) (hbl : bS < s9.heap.size) (hbA : ¬ A9 bS) (k n : Nat) (hk : k + 3 ≤ room_1.cells ∧ n + 18 ≤ room_1.slots) (t : Nat) (ht : 6 * t + 6 ≤ L) (hL : L ≤ 3072) (Z : DS) (vi : Nat → Int32) (ga : Nat → Nat → Int32) (fo : Nat → Int64) (fd : Nat → UInt64) (hG : GI Z vi ga) (kk : ∀ (Z' : DS) (vi' : Nat → Int32) (ga' : Nat → Nat → Int32) (fo' : Nat → Int64) (fd' : Nat → UInt64), GI Z' vi' ga' → jJ p9 l e9 room_1 s9 m9 a9 b9 me9 c9 Q9 D A9 10 (k + 3) (n + 18) (LW ay ad ae o oD Z' vi' ga' fo' fd') 2682 [(5, .int (nI (6 * t))), (0, .ref bS), (1, .ref (ad 0)), (2, .ref (ae 0)), (3, .ref o), (4, .ref oD)] []) : jJ p9 l e9 room_1 s9 m9 a9 b9 me9 c9 Q9 D A9 10 k n (LW ay ad ae o oD Z vi ga fo fd) 2405 [(5, .int (nI (6 * t))), (0, .ref bS), (1, .ref (ad 0)), (2, .ref (ae 0)), (3, .ref o), (4, .ref oD)] [] := by
  obtain ⟨x1, hx1⟩ : ∃ y, y = xs (6 * t + 1) := ⟨_, rfl⟩
  refine j_aload_n F 2 dL_law_2405 rfl ?_
  refine j_aload_n F 1 dL_law_2406 rfl ?_
  refine j_iload F 0 dL_law_2407 rfl ?_
  refine j_iconst F (v := 1) dL_law_2409 (by decide) ?_
  refine j_iadd F dL_law_2410 ?_
  refine j_top (nI (6 * t + 1)) (nI_add _ _) ?_
  refine j_sld F hXb hbl hbA hL (6 * t + 1) (by omega) dL_law_2411 ?_
  refine j_top x1 hx1.symm ?_
  refine j_aload_n F 4 dL_law_2412 rfl ?_
  refine j_hcallS F hX hN kL_276 (As := [.ref (ad 0), .int x1, .ref o]) (rest := []) (h_residentAt l hfl D ay sa ad Z x1 o fo (hG.2.2.2.2.2.2.2.1.1)) 1 56 rfl rfl rfl rfl rfl ⟨hk.1, hk.2⟩ dL_law_2413 (fun v w hw => ?_)
  rcases hw with ⟨j, g0, rfl, rfl, rfl⟩ | ⟨g0, rfl, rfl⟩
  · skip
    refine ⟨rfl, (LW ay ad ae o oD Z vi ga (vp_updL fo 0 ((Z.2.2 23 j : Int32)).toInt64) fd), rfl, ?_⟩
    refine j_istore F 6 [(6, .int 0), (5, .int (nI (6 * t))), (0, .ref bS), (1, .ref (ad 0)), (2, .ref (ae 0)), (3, .ref o), (4, .ref oD)] dL_law_2416 (by decide) rfl ?_
    refine j_aload_n F 4 dL_law_2418 rfl ?_
    refine j_aload_n F 2 dL_law_2419 rfl ?_
    refine j_iload F 1 dL_law_2420 rfl ?_
    refine j_iconst F (v := 1) dL_law_2422 (by decide) ?_
    refine j_iadd F dL_law_2423 ?_
    refine j_top (nI (6 * t + 1)) (nI_add _ _) ?_
    refine j_sld F hXb hbl hbA hL (6 * t + 1) (by omega) dL_law_2424 ?_
    refine j_top (nI j) hx1.symm ?_
    refine j_scallV F kL_278 (As := [.int (nI j)]) (rest := []) (c_X10_residentAt_ok l D ay ae vi ga Z j hG (by first | assumption | exact ⟨‹_›, ‹_›⟩ | omega)) 57 57 20 rfl rfl rfl rfl rfl rfl ⟨hk.1, hk.2⟩ dL_law_2425 (fun v w hw => ?_)
    obtain ⟨vi1, ga1, hG1, hc1, rfl, rfl⟩ := hw
    refine ⟨rfl, (LW ay ad ae o oD Z vi1 ga1 (vp_updL fo 0 ((Z.2.2 23 j : Int32)).toInt64) fd), rfl, ?_⟩
    refine j_top (Z.2.2 23 j) rfl ?_
    refine j_istore F 7 [(7, .int (Z.2.2 23 j)), (6, .int 0), (5, .int (nI (6 * t))), (0, .ref bS), (1, .ref (ad 0)), (2, .ref (ae 0)), (3, .ref o), (4, .ref oD)] dL_law_2428 (by decide) rfl ?_
    refine j_aload_n F 5 dL_law_2430 rfl ?_
    refine j_scallV F kL_140 (As := []) (rest := []) (c_X10_thrown l D ay ae vi1 ga1) 57 57 20 rfl rfl rfl rfl rfl rfl ⟨hk.1, hk.2⟩ dL_law_2431 (fun v w hw => ?_)
    obtain ⟨rfl, rfl⟩ := hw
    refine ⟨rfl, (LW ay ad ae o oD Z vi1 ga1 (vp_updL fo 0 ((Z.2.2 23 j : Int32)).toInt64) fd), rfl, ?_⟩
    refine j_top 0 hc1 ?_
    refine j_iload F 1 dL_law_2434 rfl ?_
    refine j_icmp_eq F 2441 dL_law_2436 (by decide) (fun c_2436 => ?_) (fun c_2436 => absurd (by decide) c_2436)
    refine j_iload F 1 dL_law_2441 rfl ?_
    refine j_if_ne F 2458 dL_law_2443 (by decide) (fun c_2443 => absurd (by decide) c_2443) (fun c_2443 => ?_)
    refine j_aload_n F 6 dL_law_2446 rfl ?_
    refine j_iconst F (v := 0) dL_law_2447 (by decide) ?_
    refine j_lald F 56 0 (f := vp_updL fo 0 ((Z.2.2 23 j : Int32)).toInt64) rfl rfl (by decide) (Nat.le_of_ble_eq_true rfl) dL_law_2448 ?_
    refine j_iload F 0 dL_law_2449 rfl ?_
    refine j_i2l F dL_law_2451 ?_
    refine j_lcmp F dL_law_2452 ?_
    refine j_top 0 (lg_self _) ?_
    refine j_if_eq F 2458 dL_law_2453 (by decide) (fun c_2453 => ?_) (fun c_2453 => absurd (by decide) c_2453)
    refine j_goto F 2682 dL_law_2458 (by decide) ?_
    refine j_sub [2, 3, 4, 5, 6, 7] [(5, .int (nI (6 * t))), (0, .ref bS), (1, .ref (ad 0)), (2, .ref (ae 0)), (3, .ref o), (4, .ref oD)] rfl ?_
    exact kk Z vi1 ga1 (vp_updL fo 0 ((Z.2.2 23 j : Int32)).toInt64) fd hG1
  · skip
    refine ⟨rfl, (LW ay ad ae o oD Z vi ga fo fd), rfl, ?_⟩
    refine j_istore F 6 [(6, .int 1), (5, .int (nI (6 * t))), (0, .ref bS), (1, .ref (ad 0)), (2, .ref (ae 0)), (3, .ref o), (4, .ref oD)] dL_law_2416 (by decide) rfl ?_
    refine j_aload_n F 4 dL_law_2418 rfl ?_
    refine j_aload_n F 2 dL_law_2419 rfl ?_
    refine j_iload F 1 dL_law_2420 rfl ?_
    refine j_iconst F (v := 1) dL_law_2422 (by decide) ?_
    refine j_iadd F dL_law_2423 ?_
    refine j_top (nI (6 * t + 1)) (nI_add _ _) ?_
    refine j_sld F hXb hbl hbA hL (6 * t + 1) (by omega) dL_law_2424 ?_
    refine j_top x1 hx1.symm ?_
    refine j_scallV F kL_278 (As := [.int x1]) (rest := []) (c_X10_residentAt_no l D ay ae vi ga Z x1 hG (by first | assumption | exact ⟨‹_›, ‹_›⟩ | omega)) 57 57 20 rfl rfl rfl rfl rfl rfl ⟨hk.1, hk.2⟩ dL_law_2425 (fun v w hw => ?_)
    obtain ⟨vi1, ga1, hG1, hc1, rfl, rfl⟩ := hw
    refine ⟨rfl, (LW ay ad ae o oD Z vi1 ga1 fo fd), rfl, ?_⟩
    refine j_top 0 rfl ?_
    refine j_istore F 7 [(7, .int 0), (6, .int 1), (5, .int (nI (6 * t))), (0, .ref bS), (1, .ref (ad 0)), (2, .ref (ae 0)), (3, .ref o), (4, .ref oD)] dL_law_2428 (by decide) rfl ?_
    refine j_aload_n F 5 dL_law_2430 rfl ?_
    refine j_scallV F kL_140 (As := []) (rest := []) (c_X10_thrown l D ay ae vi1 ga1) 57 57 20 rfl rfl rfl rfl rfl rfl ⟨hk.1, hk.2⟩ dL_law_2431 (fun v w hw => ?_)
    obtain ⟨rfl, rfl⟩ := hw
    refine ⟨rfl, (LW ay ad ae o oD Z vi1 ga1 fo fd), rfl, ?_⟩
    refine j_top 1 hc1 ?_
    refine j_iload F 1 dL_law_2434 rfl ?_
    refine j_icmp_eq F 2441 dL_law_2436 (by decide) (fun c_2436 => ?_) (fun c_2436 => absurd (by decide) c_2436)
    refine j_iload F 1 dL_law_2441 rfl ?_
    refine j_if_ne F 2458 dL_law_2443 (by decide) (fun c_2443 => ?_) (fun c_2443 => absurd c_2443 (by decide))
    refine j_goto F 2682 dL_law_2458 (by decide) ?_
    refine j_sub [2, 3, 4, 5, 6, 7] [(5, .int (nI (6 * t))), (0, .ref bS), (1, .ref (ad 0)), (2, .ref (ae 0)), (3, .ref o), (4, .ref oD)] rfl ?_
    exact kk Z vi1 ga1 fo fd hG1

set_option maxHeartbeats 4000000 in
set_option maxRecDepth 100000 in
theorem case_42 (l : Launch) (hfl : l.stackTraces = false) (D : va_G) (ay : Nat → ClassId) (sa : Nat → Nat) (ad ae : Nat → Nat) (o oD bS L : Nat) (xs : Nat → Int32) {p9 : Program} {e9 : Env} {s9 : State} {m9 : MethodId} {a9 : Array Value} {b9 : List Frame} {me9 : Method} {c9 : Code} {A9 : Nat → Prop} {Q9 : State → Prop} (F : jF p9 s9 m9 a9 me9 c9 cL_law 10 RL (some .boolean) D ay A9) (hX : jX sa A9 s9 s9.heap) (hN : jN s9) (hXb : va_X bS L xs s9 s9.heap) (hbl : bS < s9.heap.size) (hbA : ¬ A9 bS) (k n : Nat) (hk : k + 3 ≤ room_1.cells ∧ n + 18 ≤ room_1.slots) (t : Nat) (ht : 6 * t + 6 ≤ L) (hL : L ≤ 3072) (Z : DS) (vi : Nat → Int32) (ga : Nat → Nat → Int32) (fo : Nat → Int64) (fd : Nat → UInt64) (hG : GI Z vi ga) (kk : ∀ (Z' : DS) (vi' : Nat → Int32) (ga' : Nat → Nat → Int32) (fo' : Nat → Int64) (fd' : Nat → UInt64), GI Z' vi' ga' → jJ p9 l e9 room_1 s9 m9 a9 b9 me9 c9 Q9 D A9 10 (k + 3) (n + 18) (LW ay ad ae o oD Z' vi' ga' fo' fd') 2682 [(5, .int (nI (6 * t))), (0, .ref bS), (1, .ref (ad 0)), (2, .ref (ae 0)), (3, .ref o), (4, .ref oD)] []) : jJ p9 l e9 room_1 s9 m9 a9 b9 me9 c9 Q9 D A9 10 k n (LW ay ad ae o oD Z vi ga fo fd) 2461 [(5, .int (nI (6 * t))), (0, .ref bS), (1, .ref (ad 0)), (2, .ref (ae 0)), (3, .ref o), (4, .ref oD)] [] := by
  obtain ⟨x1, hx1⟩ : ∃ y, y = xs (6 * t + 1) := ⟨_, rfl⟩
  refine j_aload_n F 2 dL_law_2461 rfl ?_
  refine j_aload_n F 1 dL_law_2462 rfl ?_
  refine j_iload F 0 dL_law_2463 rfl ?_
  refine j_iconst F (v := 1) dL_law_2465 (by decide) ?_
  refine j_iadd F dL_law_2466 ?_
  refine j_top (nI (6 * t + 1)) (nI_add _ _) ?_
  refine j_sld F hXb hbl hbA hL (6 * t + 1) (by omega) dL_law_2467 ?_
  refine j_top x1 hx1.symm ?_
  refine j_aload_n F 4 dL_law_2468 rfl ?_
  refine j_hcallS F hX hN kL_279 (As := [.ref (ad 0), .int x1, .ref o]) (rest := []) (h_isDirty l hfl D ay sa ad Z x1 o fo) 1 56 rfl rfl rfl rfl rfl ⟨hk.1, hk.2⟩ dL_law_2469 (fun v w hw => ?_)
  rcases hw with ⟨p, g0, rfl, rfl, rfl⟩ | ⟨g0, rfl, rfl⟩
  · skip
    refine ⟨rfl, (LW ay ad ae o oD Z vi ga (vp_updL fo 0 (if (if Z.2.2 22 p = 0 then 0 else 1 : Int32) = 0 then 0 else 1)) fd), rfl, ?_⟩
    refine j_istore F 6 [(6, .int 0), (5, .int (nI (6 * t))), (0, .ref bS), (1, .ref (ad 0)), (2, .ref (ae 0)), (3, .ref o), (4, .ref oD)] dL_law_2472 (by decide) rfl ?_
    refine j_aload_n F 4 dL_law_2474 rfl ?_
    refine j_aload_n F 2 dL_law_2475 rfl ?_
    refine j_iload F 1 dL_law_2476 rfl ?_
    refine j_iconst F (v := 1) dL_law_2478 (by decide) ?_
    refine j_iadd F dL_law_2479 ?_
    refine j_top (nI (6 * t + 1)) (nI_add _ _) ?_
    refine j_sld F hXb hbl hbA hL (6 * t + 1) (by omega) dL_law_2480 ?_
    refine j_top (nI p) hx1.symm ?_
    refine j_scallV F kL_281 (As := [.int (nI p)]) (rest := []) (c_X10_isDirty_ok l D ay ae vi ga Z p hG (by first | assumption | exact ⟨‹_›, ‹_›⟩ | omega)) 57 57 20 rfl rfl rfl rfl rfl rfl ⟨hk.1, hk.2⟩ dL_law_2481 (fun v w hw => ?_)
    obtain ⟨vi1, ga1, hG1, hc1, rfl, rfl⟩ := hw
    refine ⟨rfl, (LW ay ad ae o oD Z vi1 ga1 (vp_updL fo 0 (if (if Z.2.2 22 p = 0 then 0 else 1 : Int32) = 0 then 0 else 1)) fd), rfl, ?_⟩
    refine j_top (if Z.2.2 22 p = 0 then 0 else 1) rfl ?_
    refine j_istore F 7 [(7, .int (if Z.2.2 22 p = 0 then 0 else 1)), (6, .int 0), (5, .int (nI (6 * t))), (0, .ref bS), (1, .ref (ad 0)), (2, .ref (ae 0)), (3, .ref o), (4, .ref oD)] dL_law_2484 (by decide) rfl ?_
    refine j_aload_n F 5 dL_law_2486 rfl ?_
    refine j_scallV F kL_140 (As := []) (rest := []) (c_X10_thrown l D ay ae vi1 ga1) 57 57 20 rfl rfl rfl rfl rfl rfl ⟨hk.1, hk.2⟩ dL_law_2487 (fun v w hw => ?_)
    obtain ⟨rfl, rfl⟩ := hw
    refine ⟨rfl, (LW ay ad ae o oD Z vi1 ga1 (vp_updL fo 0 (if (if Z.2.2 22 p = 0 then 0 else 1 : Int32) = 0 then 0 else 1)) fd), rfl, ?_⟩
    refine j_top 0 hc1 ?_
    refine j_iload F 1 dL_law_2490 rfl ?_
    refine j_icmp_eq F 2497 dL_law_2492 (by decide) (fun c_2492 => ?_) (fun c_2492 => absurd (by decide) c_2492)
    refine j_iload F 1 dL_law_2497 rfl ?_
    refine j_if_ne F 2521 dL_law_2499 (by decide) (fun c_2499 => absurd (by decide) c_2499) (fun c_2499 => ?_)
    refine j_aload_n F 6 dL_law_2502 rfl ?_
    refine j_iconst F (v := 0) dL_law_2503 (by decide) ?_
    refine j_lald F 56 0 (f := vp_updL fo 0 (if (if Z.2.2 22 p = 0 then 0 else 1 : Int32) = 0 then 0 else 1)) rfl rfl (by decide) (Nat.le_of_ble_eq_true rfl) dL_law_2504 ?_
    refine j_iload F 0 dL_law_2505 rfl ?_
    refine j_if_eq F 2514 dL_law_2507 (by decide) (fun c_2507 => ?_) (fun c_2507 => ?_)
    · skip
      refine j_lconst F (v := 0) dL_law_2514 (by decide) ?_
      refine j_lcmp F dL_law_2515 ?_
      refine j_top 0 ((congrArg (fun z => lg_cmp z 0) ((if_pos c_2507 : (if (if Z.2.2 22 p = 0 then 0 else 1 : Int32) = 0 then (0 : Int64) else 1) = 0))).trans (lg_self _)) ?_
      refine j_if_eq F 2521 dL_law_2516 (by decide) (fun c_2516 => ?_) (fun c_2516 => absurd (by decide) c_2516)
      refine j_goto F 2682 dL_law_2521 (by decide) ?_
      refine j_sub [2, 3, 4, 5, 6, 7] [(5, .int (nI (6 * t))), (0, .ref bS), (1, .ref (ad 0)), (2, .ref (ae 0)), (3, .ref o), (4, .ref oD)] rfl ?_
      exact kk Z vi1 ga1 (vp_updL fo 0 (if (if Z.2.2 22 p = 0 then 0 else 1 : Int32) = 0 then 0 else 1)) fd hG1
    · skip
      refine j_lconst F (v := 1) dL_law_2510 (by decide) ?_
      refine j_goto F 2515 dL_law_2511 (by decide) ?_
      refine j_lcmp F dL_law_2515 ?_
      refine j_top 0 ((congrArg (fun z => lg_cmp z 1) ((if_neg c_2507 : (if (if Z.2.2 22 p = 0 then 0 else 1 : Int32) = 0 then (0 : Int64) else 1) = 1))).trans (lg_self _)) ?_
      refine j_if_eq F 2521 dL_law_2516 (by decide) (fun c_2516 => ?_) (fun c_2516 => absurd (by decide) c_2516)
      refine j_goto F 2682 dL_law_2521 (by decide) ?_
      refine j_sub [2, 3, 4, 5, 6, 7] [(5, .int (nI (6 * t))), (0, .ref bS), (1, .ref (ad 0)), (2, .ref (ae 0)), (3, .ref o), (4, .ref oD)] rfl ?_
      exact kk Z vi1 ga1 (vp_updL fo 0 (if (if Z.2.2 22 p = 0 then 0 else 1 : Int32) = 0 then 0 else 1)) fd hG1
  · skip
    refine ⟨rfl, (LW ay ad ae o oD Z vi ga fo fd), rfl, ?_⟩
    refine j_istore F 6 [(6, .int 1), (5, .int (nI (6 * t))), (0, .ref bS), (1, .ref (ad 0)), (2, .ref (ae 0)), (3, .ref o), (4, .ref oD)] dL_law_2472 (by decide) rfl ?_
    refine j_aload_n F 4 dL_law_2474 rfl ?_
    refine j_aload_n F 2 dL_law_2475 rfl ?_
    refine j_iload F 1 dL_law_2476 rfl ?_
    refine j_iconst F (v := 1) dL_law_2478 (by decide) ?_
    refine j_iadd F dL_law_2479 ?_
    refine j_top (nI (6 * t + 1)) (nI_add _ _) ?_
    refine j_sld F hXb hbl hbA hL (6 * t + 1) (by omega) dL_law_2480 ?_
    refine j_top x1 hx1.symm ?_
    refine j_scallV F kL_281 (As := [.int x1]) (rest := []) (c_X10_isDirty_no l D ay ae vi ga Z x1 hG (by first | assumption | exact ⟨‹_›, ‹_›⟩ | omega)) 57 57 20 rfl rfl rfl rfl rfl rfl ⟨hk.1, hk.2⟩ dL_law_2481 (fun v w hw => ?_)
    obtain ⟨vi1, ga1, hG1, hc1, rfl, rfl⟩ := hw
    refine ⟨rfl, (LW ay ad ae o oD Z vi1 ga1 fo fd), rfl, ?_⟩
    refine j_top 0 rfl ?_
    refine j_istore F 7 [(7, .int 0), (6, .int 1), (5, .int (nI (6 * t))), (0, .ref bS), (1, .ref (ad 0)), (2, .ref (ae 0)), (3, .ref o), (4, .ref oD)] dL_law_2484 (by decide) rfl ?_
    refine j_aload_n F 5 dL_law_2486 rfl ?_
    refine j_scallV F kL_140 (As := []) (rest := []) (c_X10_thrown l D ay ae vi1 ga1) 57 57 20 rfl rfl rfl rfl rfl rfl ⟨hk.1, hk.2⟩ dL_law_2487 (fun v w hw => ?_)
    obtain ⟨rfl, rfl⟩ := hw
    refine ⟨rfl, (LW ay ad ae o oD Z vi1 ga1 fo fd), rfl, ?_⟩
    refine j_top 1 hc1 ?_
    refine j_iload F 1 dL_law_2490 rfl ?_
    refine j_icmp_eq F 2497 dL_law_2492 (by decide) (fun c_2492 => ?_) (fun c_2492 => absurd (by decide) c_2492)
    refine j_iload F 1 dL_law_2497 rfl ?_
    refine j_if_ne F 2521 dL_law_2499 (by decide) (fun c_2499 => ?_) (fun c_2499 => absurd c_2499 (by decide))
    refine j_goto F 2682 dL_law_2521 (by decide) ?_
    refine j_sub [2, 3, 4, 5, 6, 7] [(5, .int (nI (6 * t))), (0, .ref bS), (1, .ref (ad 0)), (2, .ref (ae 0)), (3, .ref o), (4, .ref oD)] rfl ?_
    exact kk Z vi1 ga1 fo fd hG1

set_option maxHeartbeats 4000000 in
set_option maxRecDepth 100000 in
theorem case_43 (l : Launch) (hfl : l.stackTraces = false) (D : va_G) (ay : Nat → ClassId) (sa : Nat → Nat) (ad ae : Nat → Nat) (o oD bS L : Nat) (xs : Nat → Int32) {p9 : Program} {e9 : Env} {s9 : State} {m9 : MethodId} {a9 : Array Value} {b9 : List Frame} {me9 : Method} {c9 : Code} {A9 : Nat → Prop} {Q9 : State → Prop} (F : jF p9 s9 m9 a9 me9 c9 cL_law 10 RL (some .boolean) D ay A9) (hX : jX sa A9 s9 s9.heap) (hN : jN s9) (hXb : va_X bS L xs s9 s9.heap) (hbl : bS < s9.heap.size) (hbA : ¬ A9 bS) (k n : Nat) (hk : k + 3 ≤ room_1.cells ∧ n + 18 ≤ room_1.slots) (t : Nat) (ht : 6 * t + 6 ≤ L) (hL : L ≤ 3072) (Z : DS) (vi : Nat → Int32) (ga : Nat → Nat → Int32) (fo : Nat → Int64) (fd : Nat → UInt64) (hG : GI Z vi ga) (kk : ∀ (Z' : DS) (vi' : Nat → Int32) (ga' : Nat → Nat → Int32) (fo' : Nat → Int64) (fd' : Nat → UInt64), GI Z' vi' ga' → jJ p9 l e9 room_1 s9 m9 a9 b9 me9 c9 Q9 D A9 10 (k + 3) (n + 18) (LW ay ad ae o oD Z' vi' ga' fo' fd') 2682 [(5, .int (nI (6 * t))), (0, .ref bS), (1, .ref (ad 0)), (2, .ref (ae 0)), (3, .ref o), (4, .ref oD)] []) : jJ p9 l e9 room_1 s9 m9 a9 b9 me9 c9 Q9 D A9 10 k n (LW ay ad ae o oD Z vi ga fo fd) 2524 [(5, .int (nI (6 * t))), (0, .ref bS), (1, .ref (ad 0)), (2, .ref (ae 0)), (3, .ref o), (4, .ref oD)] [] := by
  refine j_aload_n F 2 dL_law_2524 rfl ?_
  refine j_scallV F kL_282 (As := []) (rest := []) (c_X9_faults l D ay ad Z) 1 1 55 rfl rfl rfl rfl rfl rfl ⟨Nat.le_trans (Nat.le_add_right _ _) hk.1, Nat.le_trans (Nat.le_add_right _ _) hk.2⟩ dL_law_2525 (fun v w hw => ?_)
  obtain ⟨rfl, rfl⟩ := hw
  refine ⟨rfl, (LW ay ad ae o oD Z vi ga fo fd), rfl, ?_⟩
  refine j_aload_n F 3 dL_law_2528 rfl ?_
  refine j_scallV F kL_285 (As := []) (rest := [.int (Z.2.1 20)]) (c_X10_faults_ok l D ay ae vi ga Z hG) 57 57 20 rfl rfl rfl rfl rfl rfl ⟨Nat.le_trans (Nat.le_add_right _ _) hk.1, Nat.le_trans (Nat.le_add_right _ _) hk.2⟩ dL_law_2529 (fun v w hw => ?_)
  obtain ⟨vi1, ga1, hG1, hc1, rfl, rfl⟩ := hw
  refine ⟨rfl, (LW ay ad ae o oD Z vi1 ga1 fo fd), rfl, ?_⟩
  refine j_top (Z.2.1 20) rfl ?_
  refine j_icmp_eq F 2682 dL_law_2532 (by decide) (fun c_2532 => ?_) (fun c_2532 => absurd rfl c_2532)
  refine j_widen (Nat.le_add_right k 3) (Nat.le_add_right n 18) ?_
  refine j_sub [0, 1, 2, 3, 4, 5] [(5, .int (nI (6 * t))), (0, .ref bS), (1, .ref (ad 0)), (2, .ref (ae 0)), (3, .ref o), (4, .ref oD)] rfl ?_
  exact kk Z vi1 ga1 fo fd hG1

set_option maxHeartbeats 4000000 in
set_option maxRecDepth 100000 in
theorem case_44 (l : Launch) (hfl : l.stackTraces = false) (D : va_G) (ay : Nat → ClassId) (sa : Nat → Nat) (ad ae : Nat → Nat) (o oD bS L : Nat) (xs : Nat → Int32) {p9 : Program} {e9 : Env} {s9 : State} {m9 : MethodId} {a9 : Array Value} {b9 : List Frame} {me9 : Method} {c9 : Code} {A9 : Nat → Prop} {Q9 : State → Prop} (F : jF p9 s9 m9 a9 me9 c9 cL_law 10 RL (some .boolean) D ay A9) (hX : jX sa A9 s9 s9.heap) (hN : jN s9) (hXb : va_X bS L xs s9 s9.heap) (hbl : bS < s9.heap.size) (hbA : ¬ A9 bS) (k n : Nat) (hk : k + 3 ≤ room_1.cells ∧ n + 18 ≤ room_1.slots) (t : Nat) (ht : 6 * t + 6 ≤ L) (hL : L ≤ 3072) (Z : DS) (vi : Nat → Int32) (ga : Nat → Nat → Int32) (fo : Nat → Int64) (fd : Nat → UInt64) (hG : GI Z vi ga) (kk : ∀ (Z' : DS) (vi' : Nat → Int32) (ga' : Nat → Nat → Int32) (fo' : Nat → Int64) (fd' : Nat → UInt64), GI Z' vi' ga' → jJ p9 l e9 room_1 s9 m9 a9 b9 me9 c9 Q9 D A9 10 (k + 3) (n + 18) (LW ay ad ae o oD Z' vi' ga' fo' fd') 2682 [(5, .int (nI (6 * t))), (0, .ref bS), (1, .ref (ad 0)), (2, .ref (ae 0)), (3, .ref o), (4, .ref oD)] []) : jJ p9 l e9 room_1 s9 m9 a9 b9 me9 c9 Q9 D A9 10 k n (LW ay ad ae o oD Z vi ga fo fd) 2537 [(5, .int (nI (6 * t))), (0, .ref bS), (1, .ref (ad 0)), (2, .ref (ae 0)), (3, .ref o), (4, .ref oD)] [] := by
  refine j_aload_n F 2 dL_law_2537 rfl ?_
  refine j_scallV F kL_286 (As := []) (rest := []) (c_X9_writes l D ay ad Z) 1 1 55 rfl rfl rfl rfl rfl rfl ⟨Nat.le_trans (Nat.le_add_right _ _) hk.1, Nat.le_trans (Nat.le_add_right _ _) hk.2⟩ dL_law_2538 (fun v w hw => ?_)
  obtain ⟨rfl, rfl⟩ := hw
  refine ⟨rfl, (LW ay ad ae o oD Z vi ga fo fd), rfl, ?_⟩
  refine j_aload_n F 3 dL_law_2541 rfl ?_
  refine j_scallV F kL_289 (As := []) (rest := [.int (Z.2.1 21)]) (c_X10_writes_ok l D ay ae vi ga Z hG) 57 57 20 rfl rfl rfl rfl rfl rfl ⟨Nat.le_trans (Nat.le_add_right _ _) hk.1, Nat.le_trans (Nat.le_add_right _ _) hk.2⟩ dL_law_2542 (fun v w hw => ?_)
  obtain ⟨vi1, ga1, hG1, hc1, rfl, rfl⟩ := hw
  refine ⟨rfl, (LW ay ad ae o oD Z vi1 ga1 fo fd), rfl, ?_⟩
  refine j_top (Z.2.1 21) rfl ?_
  refine j_icmp_eq F 2682 dL_law_2545 (by decide) (fun c_2545 => ?_) (fun c_2545 => absurd rfl c_2545)
  refine j_widen (Nat.le_add_right k 3) (Nat.le_add_right n 18) ?_
  refine j_sub [0, 1, 2, 3, 4, 5] [(5, .int (nI (6 * t))), (0, .ref bS), (1, .ref (ad 0)), (2, .ref (ae 0)), (3, .ref o), (4, .ref oD)] rfl ?_
  exact kk Z vi1 ga1 fo fd hG1

set_option maxHeartbeats 4000000 in
set_option maxRecDepth 100000 in
theorem case_45 (l : Launch) (hfl : l.stackTraces = false) (D : va_G) (ay : Nat → ClassId) (sa : Nat → Nat) (ad ae : Nat → Nat) (o oD bS L : Nat) (xs : Nat → Int32) {p9 : Program} {e9 : Env} {s9 : State} {m9 : MethodId} {a9 : Array Value} {b9 : List Frame} {me9 : Method} {c9 : Code} {A9 : Nat → Prop} {Q9 : State → Prop} (F : jF p9 s9 m9 a9 me9 c9 cL_law 10 RL (some .boolean) D ay A9) (hX : jX sa A9 s9 s9.heap) (hN : jN s9) (hXb : va_X bS L xs s9 s9.heap) (hbl : bS < s9.heap.size) (hbA : ¬ A9 bS) (k n : Nat) (hk : k + 3 ≤ room_1.cells ∧ n + 18 ≤ room_1.slots) (t : Nat) (ht : 6 * t + 6 ≤ L) (hL : L ≤ 3072) (Z : DS) (vi : Nat → Int32) (ga : Nat → Nat → Int32) (fo : Nat → Int64) (fd : Nat → UInt64) (hG : GI Z vi ga) (kk : ∀ (Z' : DS) (vi' : Nat → Int32) (ga' : Nat → Nat → Int32) (fo' : Nat → Int64) (fd' : Nat → UInt64), GI Z' vi' ga' → jJ p9 l e9 room_1 s9 m9 a9 b9 me9 c9 Q9 D A9 10 (k + 3) (n + 18) (LW ay ad ae o oD Z' vi' ga' fo' fd') 2682 [(5, .int (nI (6 * t))), (0, .ref bS), (1, .ref (ad 0)), (2, .ref (ae 0)), (3, .ref o), (4, .ref oD)] []) : jJ p9 l e9 room_1 s9 m9 a9 b9 me9 c9 Q9 D A9 10 k n (LW ay ad ae o oD Z vi ga fo fd) 2550 [(5, .int (nI (6 * t))), (0, .ref bS), (1, .ref (ad 0)), (2, .ref (ae 0)), (3, .ref o), (4, .ref oD)] [] := by
  obtain ⟨x1, hx1⟩ : ∃ y, y = xs (6 * t + 1) := ⟨_, rfl⟩
  refine j_aload_n F 2 dL_law_2550 rfl ?_
  refine j_aload_n F 1 dL_law_2551 rfl ?_
  refine j_iload F 0 dL_law_2552 rfl ?_
  refine j_iconst F (v := 1) dL_law_2554 (by decide) ?_
  refine j_iadd F dL_law_2555 ?_
  refine j_top (nI (6 * t + 1)) (nI_add _ _) ?_
  refine j_sld F hXb hbl hbA hL (6 * t + 1) (by omega) dL_law_2556 ?_
  refine j_top x1 hx1.symm ?_
  refine j_aload F 5 dL_law_2557 rfl ?_
  refine j_hcallS F hX hN kL_290 (As := [.ref (ad 0), .int x1, .ref oD]) (rest := []) (h_hitShare l hfl D ay sa ad Z x1 oD fd (hG.2.2.1)) 0 56 rfl rfl rfl rfl rfl ⟨hk.1, hk.2⟩ dL_law_2559 (fun v w hw => ?_)
  rcases hw with ⟨i, g0, rfl, rfl, rfl⟩ | ⟨g0, rfl, rfl⟩
  · skip
    refine ⟨rfl, (LW ay ad ae o oD Z vi ga fo (vf_upd fd 0 (FP.f2d (if Z.1 14 = 0 then FP.fconst0 else FP.fdiv (FP.i2f (Z.2.1 (11 + i))) (FP.i2f (nI (Z.1 14))))))), rfl, ?_⟩
    have hnan : FP.Core.fIsNaN (if Z.1 14 = 0 then FP.fconst0 else FP.fdiv (FP.i2f (Z.2.1 (11 + i))) (FP.i2f (nI (Z.1 14)))) = false := by
      split
      · decide
      · next h => exact fp_fdiv _ (fun e => h ((nI_eq (b := 0) (by have := hG.2.2.1.2.2; omega) (by decide)).mp e))
    refine j_istore F 6 [(6, .int 0), (5, .int (nI (6 * t))), (0, .ref bS), (1, .ref (ad 0)), (2, .ref (ae 0)), (3, .ref o), (4, .ref oD)] dL_law_2562 (by decide) rfl ?_
    refine j_aload_n F 4 dL_law_2564 rfl ?_
    refine j_aload_n F 2 dL_law_2565 rfl ?_
    refine j_iload F 1 dL_law_2566 rfl ?_
    refine j_iconst F (v := 1) dL_law_2568 (by decide) ?_
    refine j_iadd F dL_law_2569 ?_
    refine j_top (nI (6 * t + 1)) (nI_add _ _) ?_
    refine j_sld F hXb hbl hbA hL (6 * t + 1) (by omega) dL_law_2570 ?_
    refine j_top (nI (i + 1)) hx1.symm ?_
    refine j_scallV F kL_293 (As := [.int (nI (i + 1))]) (rest := []) (c_X10_hitShare_ok l D ay ae vi ga Z i hG (by first | assumption | exact ⟨‹_›, ‹_›⟩ | omega)) 57 57 20 rfl rfl rfl rfl rfl rfl ⟨hk.1, hk.2⟩ dL_law_2571 (fun v w hw => ?_)
    obtain ⟨vi1, ga1, hG1, hc1, rfl, rfl⟩ := hw
    refine ⟨rfl, (LW ay ad ae o oD Z vi1 ga1 fo (vf_upd fd 0 (FP.f2d (if Z.1 14 = 0 then FP.fconst0 else FP.fdiv (FP.i2f (Z.2.1 (11 + i))) (FP.i2f (nI (Z.1 14))))))), rfl, ?_⟩
    refine j_fstore F 7 [(7, .float (if Z.1 14 = 0 then FP.fconst0 else FP.fdiv (FP.i2f (Z.2.1 (11 + i))) (FP.i2f (nI (Z.1 14))))), (6, .int 0), (5, .int (nI (6 * t))), (0, .ref bS), (1, .ref (ad 0)), (2, .ref (ae 0)), (3, .ref o), (4, .ref oD)] dL_law_2574 (by decide) rfl ?_
    refine j_aload_n F 5 dL_law_2576 rfl ?_
    refine j_scallV F kL_140 (As := []) (rest := []) (c_X10_thrown l D ay ae vi1 ga1) 57 57 20 rfl rfl rfl rfl rfl rfl ⟨hk.1, hk.2⟩ dL_law_2577 (fun v w hw => ?_)
    obtain ⟨rfl, rfl⟩ := hw
    refine ⟨rfl, (LW ay ad ae o oD Z vi1 ga1 fo (vf_upd fd 0 (FP.f2d (if Z.1 14 = 0 then FP.fconst0 else FP.fdiv (FP.i2f (Z.2.1 (11 + i))) (FP.i2f (nI (Z.1 14))))))), rfl, ?_⟩
    refine j_top 0 hc1 ?_
    refine j_iload F 1 dL_law_2580 rfl ?_
    refine j_icmp_eq F 2587 dL_law_2582 (by decide) (fun c_2582 => ?_) (fun c_2582 => absurd (by decide) c_2582)
    refine j_iload F 1 dL_law_2587 rfl ?_
    refine j_if_ne F 2625 dL_law_2589 (by decide) (fun c_2589 => absurd (by decide) c_2589) (fun c_2589 => ?_)
    refine j_aload F 7 dL_law_2592 rfl ?_
    refine j_iconst F (v := 0) dL_law_2594 (by decide) ?_
    refine j_dald F 0 0 (f := vf_upd fd 0 (FP.f2d (if Z.1 14 = 0 then FP.fconst0 else FP.fdiv (FP.i2f (Z.2.1 (11 + i))) (FP.i2f (nI (Z.1 14)))))) rfl rfl (by decide) (Nat.le_of_ble_eq_true rfl) dL_law_2595 ?_
    refine j_fload F 0 dL_law_2596 rfl ?_
    refine j_f2d F dL_law_2598 (fp_n64 (fp_f2d hnan)) ?_
    refine j_dcmp F dL_law_2599 ?_
    refine j_top 0 (fp_self (fp_f2d hnan)) ?_
    refine j_if_eq F 2625 dL_law_2600 (by decide) (fun c_2600 => ?_) (fun c_2600 => absurd (by decide) c_2600)
    refine j_goto F 2682 dL_law_2625 (by decide) ?_
    refine j_sub [2, 3, 4, 5, 6, 7] [(5, .int (nI (6 * t))), (0, .ref bS), (1, .ref (ad 0)), (2, .ref (ae 0)), (3, .ref o), (4, .ref oD)] rfl ?_
    exact kk Z vi1 ga1 fo (vf_upd fd 0 (FP.f2d (if Z.1 14 = 0 then FP.fconst0 else FP.fdiv (FP.i2f (Z.2.1 (11 + i))) (FP.i2f (nI (Z.1 14)))))) hG1
  · skip
    refine ⟨rfl, (LW ay ad ae o oD Z vi ga fo fd), rfl, ?_⟩
    refine j_istore F 6 [(6, .int 1), (5, .int (nI (6 * t))), (0, .ref bS), (1, .ref (ad 0)), (2, .ref (ae 0)), (3, .ref o), (4, .ref oD)] dL_law_2562 (by decide) rfl ?_
    refine j_aload_n F 4 dL_law_2564 rfl ?_
    refine j_aload_n F 2 dL_law_2565 rfl ?_
    refine j_iload F 1 dL_law_2566 rfl ?_
    refine j_iconst F (v := 1) dL_law_2568 (by decide) ?_
    refine j_iadd F dL_law_2569 ?_
    refine j_top (nI (6 * t + 1)) (nI_add _ _) ?_
    refine j_sld F hXb hbl hbA hL (6 * t + 1) (by omega) dL_law_2570 ?_
    refine j_top x1 hx1.symm ?_
    refine j_scallV F kL_293 (As := [.int x1]) (rest := []) (c_X10_hitShare_no l D ay ae vi ga Z x1 hG (by first | assumption | exact ⟨‹_›, ‹_›⟩ | omega)) 57 57 20 rfl rfl rfl rfl rfl rfl ⟨hk.1, hk.2⟩ dL_law_2571 (fun v w hw => ?_)
    obtain ⟨vi1, ga1, hG1, hc1, rfl, rfl⟩ := hw
    refine ⟨rfl, (LW ay ad ae o oD Z vi1 ga1 fo fd), rfl, ?_⟩
    refine j_fstore F 7 [(7, .float FP.fconst0), (6, .int 1), (5, .int (nI (6 * t))), (0, .ref bS), (1, .ref (ad 0)), (2, .ref (ae 0)), (3, .ref o), (4, .ref oD)] dL_law_2574 (by decide) rfl ?_
    refine j_aload_n F 5 dL_law_2576 rfl ?_
    refine j_scallV F kL_140 (As := []) (rest := []) (c_X10_thrown l D ay ae vi1 ga1) 57 57 20 rfl rfl rfl rfl rfl rfl ⟨hk.1, hk.2⟩ dL_law_2577 (fun v w hw => ?_)
    obtain ⟨rfl, rfl⟩ := hw
    refine ⟨rfl, (LW ay ad ae o oD Z vi1 ga1 fo fd), rfl, ?_⟩
    refine j_top 1 hc1 ?_
    refine j_iload F 1 dL_law_2580 rfl ?_
    refine j_icmp_eq F 2587 dL_law_2582 (by decide) (fun c_2582 => ?_) (fun c_2582 => absurd (by decide) c_2582)
    refine j_iload F 1 dL_law_2587 rfl ?_
    refine j_if_ne F 2625 dL_law_2589 (by decide) (fun c_2589 => ?_) (fun c_2589 => absurd c_2589 (by decide))
    refine j_goto F 2682 dL_law_2625 (by decide) ?_
    refine j_sub [2, 3, 4, 5, 6, 7] [(5, .int (nI (6 * t))), (0, .ref bS), (1, .ref (ad 0)), (2, .ref (ae 0)), (3, .ref o), (4, .ref oD)] rfl ?_
    exact kk Z vi1 ga1 fo fd hG1

set_option maxHeartbeats 4000000 in
set_option maxRecDepth 100000 in
theorem case_46 (l : Launch) (hfl : l.stackTraces = false) (D : va_G) (ay : Nat → ClassId) (sa : Nat → Nat) (ad ae : Nat → Nat) (o oD bS L : Nat) (xs : Nat → Int32) {p9 : Program} {e9 : Env} {s9 : State} {m9 : MethodId} {a9 : Array Value} {b9 : List Frame} {me9 : Method} {c9 : Code} {A9 : Nat → Prop} {Q9 : State → Prop} (F : jF p9 s9 m9 a9 me9 c9 cL_law 10 RL (some .boolean) D ay A9) (hX : jX sa A9 s9 s9.heap) (hN : jN s9) (hXb : va_X bS L xs s9 s9.heap) (hbl : bS < s9.heap.size) (hbA : ¬ A9 bS) (k n : Nat) (hk : k + 3 ≤ room_1.cells ∧ n + 18 ≤ room_1.slots) (t : Nat) (ht : 6 * t + 6 ≤ L) (hL : L ≤ 3072) (Z : DS) (vi : Nat → Int32) (ga : Nat → Nat → Int32) (fo : Nat → Int64) (fd : Nat → UInt64) (hG : GI Z vi ga) (kk : ∀ (Z' : DS) (vi' : Nat → Int32) (ga' : Nat → Nat → Int32) (fo' : Nat → Int64) (fd' : Nat → UInt64), GI Z' vi' ga' → jJ p9 l e9 room_1 s9 m9 a9 b9 me9 c9 Q9 D A9 10 (k + 3) (n + 18) (LW ay ad ae o oD Z' vi' ga' fo' fd') 2682 [(5, .int (nI (6 * t))), (0, .ref bS), (1, .ref (ad 0)), (2, .ref (ae 0)), (3, .ref o), (4, .ref oD)] []) : jJ p9 l e9 room_1 s9 m9 a9 b9 me9 c9 Q9 D A9 10 k n (LW ay ad ae o oD Z vi ga fo fd) 2628 [(5, .int (nI (6 * t))), (0, .ref bS), (1, .ref (ad 0)), (2, .ref (ae 0)), (3, .ref o), (4, .ref oD)] [] := by
  refine j_aload_n F 2 dL_law_2628 rfl ?_
  refine j_scallV F kL_294 (As := []) (rest := []) (c_X9_meanDistance l D ay ad Z (hG.2.2.1)) 1 1 55 rfl rfl rfl rfl rfl rfl ⟨Nat.le_trans (Nat.le_add_right _ _) hk.1, Nat.le_trans (Nat.le_add_right _ _) hk.2⟩ dL_law_2629 (fun v w hw => ?_)
  obtain ⟨rfl, rfl⟩ := hw
  refine ⟨rfl, (LW ay ad ae o oD Z vi ga fo fd), rfl, ?_⟩
  have hnan : FP.Core.dIsNaN (if cb (Z.2.2 13) 100 (Z.1 14) = 0 then FP.dconst0 else FP.ddiv (FP.i2d (dtot (Z.2.2 13) (Z.1 14))) (FP.i2d (nI (cb (Z.2.2 13) 100 (Z.1 14))))) = false := by
    split
    · decide
    · next h => exact fp_ddiv _ (fun e => h ((nI_eq (b := 0) (by have := cb_le (Z.2.2 13) 100 (Z.1 14); have := hG.2.2.1.2.2; omega) (by decide)).mp e))
  refine j_dstore F 6 [(6, .double (if cb (Z.2.2 13) 100 (Z.1 14) = 0 then FP.dconst0 else FP.ddiv (FP.i2d (dtot (Z.2.2 13) (Z.1 14))) (FP.i2d (nI (cb (Z.2.2 13) 100 (Z.1 14)))))), (5, .int (nI (6 * t))), (0, .ref bS), (1, .ref (ad 0)), (2, .ref (ae 0)), (3, .ref o), (4, .ref oD)] dL_law_2632 (by decide) rfl ?_
  refine j_aload_n F 4 dL_law_2634 rfl ?_
  refine j_scallV F kL_298 (As := []) (rest := []) (c_X10_meanDistance_ok l D ay ae vi ga Z hG) 57 57 20 rfl rfl rfl rfl rfl rfl ⟨Nat.le_trans (Nat.le_add_right _ _) hk.1, Nat.le_trans (Nat.le_add_right _ _) hk.2⟩ dL_law_2635 (fun v w hw => ?_)
  obtain ⟨vi1, ga1, hG1, hc1, rfl, rfl⟩ := hw
  refine ⟨rfl, (LW ay ad ae o oD Z vi1 ga1 fo fd), rfl, ?_⟩
  refine j_dstore F 8 [(8, .double (if cb (Z.2.2 13) 100 (Z.1 14) = 0 then FP.dconst0 else FP.ddiv (FP.i2d (dtot (Z.2.2 13) (Z.1 14))) (FP.i2d (nI (cb (Z.2.2 13) 100 (Z.1 14)))))), (6, .double (if cb (Z.2.2 13) 100 (Z.1 14) = 0 then FP.dconst0 else FP.ddiv (FP.i2d (dtot (Z.2.2 13) (Z.1 14))) (FP.i2d (nI (cb (Z.2.2 13) 100 (Z.1 14)))))), (5, .int (nI (6 * t))), (0, .ref bS), (1, .ref (ad 0)), (2, .ref (ae 0)), (3, .ref o), (4, .ref oD)] dL_law_2638 (by decide) rfl ?_
  refine j_dload F 1 dL_law_2640 rfl ?_
  refine j_dload F 0 dL_law_2642 rfl ?_
  refine j_dcmp F dL_law_2644 ?_
  refine j_top 0 (fp_self hnan) ?_
  refine j_if_eq F 2666 dL_law_2645 (by decide) (fun c_2645 => ?_) (fun c_2645 => absurd (by decide) c_2645)
  refine j_goto F 2682 dL_law_2666 (by decide) ?_
  refine j_widen (Nat.le_add_right k 3) (Nat.le_add_right n 18) ?_
  refine j_sub [2, 3, 4, 5, 6, 7] [(5, .int (nI (6 * t))), (0, .ref bS), (1, .ref (ad 0)), (2, .ref (ae 0)), (3, .ref o), (4, .ref oD)] rfl ?_
  exact kk Z vi1 ga1 fo fd hG1

set_option maxHeartbeats 4000000 in
set_option maxRecDepth 100000 in
theorem case_47 (l : Launch) (hfl : l.stackTraces = false) (D : va_G) (ay : Nat → ClassId) (sa : Nat → Nat) (ad ae : Nat → Nat) (o oD bS L : Nat) (xs : Nat → Int32) {p9 : Program} {e9 : Env} {s9 : State} {m9 : MethodId} {a9 : Array Value} {b9 : List Frame} {me9 : Method} {c9 : Code} {A9 : Nat → Prop} {Q9 : State → Prop} (F : jF p9 s9 m9 a9 me9 c9 cL_law 10 RL (some .boolean) D ay A9) (hX : jX sa A9 s9 s9.heap) (hN : jN s9) (hXb : va_X bS L xs s9 s9.heap) (hbl : bS < s9.heap.size) (hbA : ¬ A9 bS) (k n : Nat) (hk : k + 3 ≤ room_1.cells ∧ n + 18 ≤ room_1.slots) (t : Nat) (ht : 6 * t + 6 ≤ L) (hL : L ≤ 3072) (Z : DS) (vi : Nat → Int32) (ga : Nat → Nat → Int32) (fo : Nat → Int64) (fd : Nat → UInt64) (hG : GI Z vi ga) (kk : ∀ (Z' : DS) (vi' : Nat → Int32) (ga' : Nat → Nat → Int32) (fo' : Nat → Int64) (fd' : Nat → UInt64), GI Z' vi' ga' → jJ p9 l e9 room_1 s9 m9 a9 b9 me9 c9 Q9 D A9 10 (k + 3) (n + 18) (LW ay ad ae o oD Z' vi' ga' fo' fd') 2682 [(5, .int (nI (6 * t))), (0, .ref bS), (1, .ref (ad 0)), (2, .ref (ae 0)), (3, .ref o), (4, .ref oD)] []) : jJ p9 l e9 room_1 s9 m9 a9 b9 me9 c9 Q9 D A9 10 k n (LW ay ad ae o oD Z vi ga fo fd) 2669 [(5, .int (nI (6 * t))), (0, .ref bS), (1, .ref (ad 0)), (2, .ref (ae 0)), (3, .ref o), (4, .ref oD)] [] := by
  refine j_aload_n F 2 dL_law_2669 rfl ?_
  refine j_scallV F kL_299 (As := []) (rest := []) (c_X9_errors l D ay ad Z (hG.2.2.1)) 1 1 55 rfl rfl rfl rfl rfl rfl ⟨Nat.le_trans (Nat.le_add_right _ _) hk.1, Nat.le_trans (Nat.le_add_right _ _) hk.2⟩ dL_law_2670 (fun v w hw => ?_)
  obtain ⟨rfl, rfl⟩ := hw
  refine ⟨rfl, (LW ay ad ae o oD Z vi ga fo fd), rfl, ?_⟩
  refine j_aload_n F 3 dL_law_2673 rfl ?_
  refine j_scallV F kL_302 (As := []) (rest := [.int (nI (erN Z 8))]) (c_X10_errors_ok l D ay ae vi ga Z hG) 57 57 20 rfl rfl rfl rfl rfl rfl ⟨Nat.le_trans (Nat.le_add_right _ _) hk.1, Nat.le_trans (Nat.le_add_right _ _) hk.2⟩ dL_law_2674 (fun v w hw => ?_)
  obtain ⟨vi1, ga1, hG1, hc1, rfl, rfl⟩ := hw
  refine ⟨rfl, (LW ay ad ae o oD Z vi1 ga1 fo fd), rfl, ?_⟩
  refine j_top (nI (erN Z 8)) rfl ?_
  refine j_icmp_eq F 2682 dL_law_2677 (by decide) (fun c_2677 => ?_) (fun c_2677 => absurd rfl c_2677)
  refine j_widen (Nat.le_add_right k 3) (Nat.le_add_right n 18) ?_
  refine j_sub [0, 1, 2, 3, 4, 5] [(5, .int (nI (6 * t))), (0, .ref bS), (1, .ref (ad 0)), (2, .ref (ae 0)), (3, .ref o), (4, .ref oD)] rfl ?_
  exact kk Z vi1 ga1 fo fd hG1

