set_option maxHeartbeats 4000000 in
set_option maxRecDepth 100000 in
theorem case_0 (l : Launch) (hfl : l.stackTraces = false) (D : va_G) (ay : Nat → ClassId) (sa : Nat → Nat) (ad ae : Nat → Nat) (o oD b L : Nat) (xs : Nat → Int32) {p9 : Program} {e9 : Env} {s9 : State} {m9 : MethodId} {a9 : Array Value} {b9 : List Frame} {me9 : Method} {c9 : Code} {A9 : Nat → Prop} {Q9 : State → Prop} (F : jF p9 s9 m9 a9 me9 c9 cL_law 10 RL (some .boolean) D ay A9) (hX : jX sa A9 s9 s9.heap) (hN : jN s9) (hXb : va_X b L xs s9 s9.heap) (hbl : b < s9.heap.size) (hbA : ¬ A9 b) (k n : Nat) (hk : k + 3 ≤ room_1.cells ∧ n + 18 ≤ room_1.slots) (t : Nat) (ht : 6 * t + 6 ≤ L) (hL : L ≤ 3072) (Z : DS) (vi : Nat → Int32) (ga : Nat → Nat → Int32) (fo : Nat → Int64) (fd : Nat → UInt64) (hG : GI Z vi ga) (kk : ∀ (Z' : DS) (vi' : Nat → Int32) (ga' : Nat → Nat → Int32) (fo' : Nat → Int64) (fd' : Nat → UInt64), GI Z' vi' ga' → jJ p9 l e9 room_1 s9 m9 a9 b9 me9 c9 Q9 D A9 10 (k + 3) (n + 18) (LW ay ad ae o oD Z' vi' ga' fo' fd') 2682 [(5, .int (nI (6 * t))), (0, .ref b), (1, .ref (ad 0)), (2, .ref (ae 0)), (3, .ref o), (4, .ref oD)] []) : jJ p9 l e9 room_1 s9 m9 a9 b9 me9 c9 Q9 D A9 10 k n (LW ay ad ae o oD Z vi ga fo fd) 252 [(5, .int (nI (6 * t))), (0, .ref b), (1, .ref (ad 0)), (2, .ref (ae 0)), (3, .ref o), (4, .ref oD)] [] := by
  obtain ⟨x1, hx1⟩ : ∃ y, y = xs (6 * t + 1) := ⟨_, rfl⟩
  obtain ⟨x2, hx2⟩ : ∃ y, y = xs (6 * t + 2) := ⟨_, rfl⟩
  obtain ⟨x3, hx3⟩ : ∃ y, y = xs (6 * t + 3) := ⟨_, rfl⟩
  refine j_aload_n F 2 dL_law_252 rfl ?_
  refine j_aload_n F 1 dL_law_253 rfl ?_
  refine j_iload F 0 dL_law_254 rfl ?_
  refine j_iconst F (v := 1) dL_law_256 (by decide) ?_
  refine j_iadd F dL_law_257 ?_
  refine j_top (nI (6 * t + 1)) (nI_add _ _) ?_
  refine j_sld F hXb hbl hbA hL (6 * t + 1) (by omega) dL_law_258 ?_
  refine j_top x1 hx1.symm ?_
  refine j_aload_n F 1 dL_law_259 rfl ?_
  refine j_iload F 0 dL_law_260 rfl ?_
  refine j_iconst F (v := 2) dL_law_262 (by decide) ?_
  refine j_iadd F dL_law_263 ?_
  refine j_top (nI (6 * t + 2)) (nI_add _ _) ?_
  refine j_sld F hXb hbl hbA hL (6 * t + 2) (by omega) dL_law_264 ?_
  refine j_top x2 hx2.symm ?_
  refine j_aload_n F 1 dL_law_265 rfl ?_
  refine j_iload F 0 dL_law_266 rfl ?_
  refine j_iconst F (v := 3) dL_law_268 (by decide) ?_
  refine j_iadd F dL_law_269 ?_
  refine j_top (nI (6 * t + 3)) (nI_add _ _) ?_
  refine j_sld F hXb hbl hbA hL (6 * t + 3) (by omega) dL_law_270 ?_
  refine j_top x3 hx3.symm ?_
  refine j_aload_n F 4 dL_law_271 rfl ?_
  refine j_hcallS F hX hN kL_134 (As := [.ref (ad 0), .int x1, .int x2, .int x3, .ref o]) (rest := []) (h_put l hfl D ay sa ad Z x1 x2 x3 o fo (fun m hm => (hG.1 m hm).1)) 1 56 rfl rfl rfl rfl rfl ⟨hk.1, hk.2⟩ dL_law_272 (fun v w hw => ?_)
  rcases hw with ⟨m, y, z, g0, g1, g2, rfl, rfl, rfl, rfl, rfl⟩ | ⟨g0, rfl, rfl⟩
  · skip
    refine ⟨rfl, (LW ay ad ae o oD (mU Z m (stN (Z.2.2 (2 * m)) (Z.1 m) (nI y) (Z.1 (12 + m))) (stF (Z.2.2 (2 * m)) (Z.1 m) (nI y) (Z.1 (12 + m))) 0 (Z.2.1 (2 + 5 * m)) (Z.2.1 (3 + 5 * m)) (upd (Z.2.2 (2 * m + 1)) y (nI z)) (Z.1 (12 + m)) (if usN (Z.2.2 (2 * m)) (Z.1 m) (nI y) ≤ (Z.1 (12 + m)) then (Z.2.1 (4 + 5 * m)) else (Z.2.1 (4 + 5 * m)) + 1) (if usN (Z.2.2 (2 * m)) (Z.1 m) (nI y) ≤ (Z.1 (12 + m)) then (Z.2.1 (5 + 5 * m)) else usF (Z.2.2 (2 * m)) (Z.1 m) (nI y) 0)) vi ga (vp_updL fo 0 ((if fx (Z.2.2 (2 * m)) (nI y) (Z.1 m) < (Z.1 m) then (Z.2.2 (2 * m + 1)) y else -1 : Int32)).toInt64) fd), rfl, ?_⟩
    refine j_istore F 6 [(6, .int 0), (5, .int (nI (6 * t))), (0, .ref b), (1, .ref (ad 0)), (2, .ref (ae 0)), (3, .ref o), (4, .ref oD)] dL_law_275 (by decide) rfl ?_
    refine j_aload_n F 4 dL_law_277 rfl ?_
    refine j_aload_n F 2 dL_law_278 rfl ?_
    refine j_iload F 1 dL_law_279 rfl ?_
    refine j_iconst F (v := 1) dL_law_281 (by decide) ?_
    refine j_iadd F dL_law_282 ?_
    refine j_top (nI (6 * t + 1)) (nI_add _ _) ?_
    refine j_sld F hXb hbl hbA hL (6 * t + 1) (by omega) dL_law_283 ?_
    refine j_top (nI m) hx1.symm ?_
    refine j_aload_n F 2 dL_law_284 rfl ?_
    refine j_iload F 1 dL_law_285 rfl ?_
    refine j_iconst F (v := 2) dL_law_287 (by decide) ?_
    refine j_iadd F dL_law_288 ?_
    refine j_top (nI (6 * t + 2)) (nI_add _ _) ?_
    refine j_sld F hXb hbl hbA hL (6 * t + 2) (by omega) dL_law_289 ?_
    refine j_top (nI y) hx2.symm ?_
    refine j_aload_n F 2 dL_law_290 rfl ?_
    refine j_iload F 1 dL_law_291 rfl ?_
    refine j_iconst F (v := 3) dL_law_293 (by decide) ?_
    refine j_iadd F dL_law_294 ?_
    refine j_top (nI (6 * t + 3)) (nI_add _ _) ?_
    refine j_sld F hXb hbl hbA hL (6 * t + 3) (by omega) dL_law_295 ?_
    refine j_top (nI z) hx3.symm ?_
    refine j_scallV F kL_139 (As := [.int (nI m), .int (nI y), .int (nI z)]) (rest := []) (c_X10_put_ok l D ay ae vi ga Z m y z hG (by first | assumption | exact ⟨‹_›, ‹_›⟩ | omega) (by first | assumption | exact ⟨‹_›, ‹_›⟩ | omega) (by first | assumption | exact ⟨‹_›, ‹_›⟩ | omega)) 57 57 20 rfl rfl rfl rfl rfl rfl ⟨hk.1, hk.2⟩ dL_law_296 (fun v w hw => ?_)
    obtain ⟨vi1, ga1, hG1, hc1, rfl, rfl⟩ := hw
    refine ⟨rfl, (LW ay ad ae o oD (mU Z m (stN (Z.2.2 (2 * m)) (Z.1 m) (nI y) (Z.1 (12 + m))) (stF (Z.2.2 (2 * m)) (Z.1 m) (nI y) (Z.1 (12 + m))) 0 (Z.2.1 (2 + 5 * m)) (Z.2.1 (3 + 5 * m)) (upd (Z.2.2 (2 * m + 1)) y (nI z)) (Z.1 (12 + m)) (if usN (Z.2.2 (2 * m)) (Z.1 m) (nI y) ≤ (Z.1 (12 + m)) then (Z.2.1 (4 + 5 * m)) else (Z.2.1 (4 + 5 * m)) + 1) (if usN (Z.2.2 (2 * m)) (Z.1 m) (nI y) ≤ (Z.1 (12 + m)) then (Z.2.1 (5 + 5 * m)) else usF (Z.2.2 (2 * m)) (Z.1 m) (nI y) 0)) vi1 ga1 (vp_updL fo 0 ((if fx (Z.2.2 (2 * m)) (nI y) (Z.1 m) < (Z.1 m) then (Z.2.2 (2 * m + 1)) y else -1 : Int32)).toInt64) fd), rfl, ?_⟩
    refine j_top (if fx (Z.2.2 (2 * m)) (nI y) (Z.1 m) < (Z.1 m) then (Z.2.2 (2 * m + 1)) y else -1) rfl ?_
    refine j_istore F 7 [(7, .int (if fx (Z.2.2 (2 * m)) (nI y) (Z.1 m) < (Z.1 m) then (Z.2.2 (2 * m + 1)) y else -1)), (6, .int 0), (5, .int (nI (6 * t))), (0, .ref b), (1, .ref (ad 0)), (2, .ref (ae 0)), (3, .ref o), (4, .ref oD)] dL_law_299 (by decide) rfl ?_
    refine j_aload_n F 5 dL_law_301 rfl ?_
    refine j_scallV F kL_140 (As := []) (rest := []) (c_X10_thrown l D ay ae vi1 ga1) 57 57 20 rfl rfl rfl rfl rfl rfl ⟨hk.1, hk.2⟩ dL_law_302 (fun v w hw => ?_)
    obtain ⟨rfl, rfl⟩ := hw
    refine ⟨rfl, (LW ay ad ae o oD (mU Z m (stN (Z.2.2 (2 * m)) (Z.1 m) (nI y) (Z.1 (12 + m))) (stF (Z.2.2 (2 * m)) (Z.1 m) (nI y) (Z.1 (12 + m))) 0 (Z.2.1 (2 + 5 * m)) (Z.2.1 (3 + 5 * m)) (upd (Z.2.2 (2 * m + 1)) y (nI z)) (Z.1 (12 + m)) (if usN (Z.2.2 (2 * m)) (Z.1 m) (nI y) ≤ (Z.1 (12 + m)) then (Z.2.1 (4 + 5 * m)) else (Z.2.1 (4 + 5 * m)) + 1) (if usN (Z.2.2 (2 * m)) (Z.1 m) (nI y) ≤ (Z.1 (12 + m)) then (Z.2.1 (5 + 5 * m)) else usF (Z.2.2 (2 * m)) (Z.1 m) (nI y) 0)) vi1 ga1 (vp_updL fo 0 ((if fx (Z.2.2 (2 * m)) (nI y) (Z.1 m) < (Z.1 m) then (Z.2.2 (2 * m + 1)) y else -1 : Int32)).toInt64) fd), rfl, ?_⟩
    refine j_top 0 hc1 ?_
    refine j_iload F 1 dL_law_305 rfl ?_
    refine j_icmp_eq F 312 dL_law_307 (by decide) (fun c_307 => ?_) (fun c_307 => absurd (by decide) c_307)
    refine j_iload F 1 dL_law_312 rfl ?_
    refine j_if_ne F 329 dL_law_314 (by decide) (fun c_314 => absurd (by decide) c_314) (fun c_314 => ?_)
    refine j_aload_n F 6 dL_law_317 rfl ?_
    refine j_iconst F (v := 0) dL_law_318 (by decide) ?_
    refine j_lald F 56 0 (f := vp_updL fo 0 ((if fx (Z.2.2 (2 * m)) (nI y) (Z.1 m) < (Z.1 m) then (Z.2.2 (2 * m + 1)) y else -1 : Int32)).toInt64) rfl rfl (by decide) (Nat.le_of_ble_eq_true rfl) dL_law_319 ?_
    refine j_iload F 0 dL_law_320 rfl ?_
    refine j_i2l F dL_law_322 ?_
    refine j_lcmp F dL_law_323 ?_
    refine j_top 0 (lg_self _) ?_
    refine j_if_eq F 329 dL_law_324 (by decide) (fun c_324 => ?_) (fun c_324 => absurd (by decide) c_324)
    refine j_goto F 2682 dL_law_329 (by decide) ?_
    refine j_sub [2, 3, 4, 5, 6, 7] [(5, .int (nI (6 * t))), (0, .ref b), (1, .ref (ad 0)), (2, .ref (ae 0)), (3, .ref o), (4, .ref oD)] rfl ?_
    exact kk (mU Z m (stN (Z.2.2 (2 * m)) (Z.1 m) (nI y) (Z.1 (12 + m))) (stF (Z.2.2 (2 * m)) (Z.1 m) (nI y) (Z.1 (12 + m))) 0 (Z.2.1 (2 + 5 * m)) (Z.2.1 (3 + 5 * m)) (upd (Z.2.2 (2 * m + 1)) y (nI z)) (Z.1 (12 + m)) (if usN (Z.2.2 (2 * m)) (Z.1 m) (nI y) ≤ (Z.1 (12 + m)) then (Z.2.1 (4 + 5 * m)) else (Z.2.1 (4 + 5 * m)) + 1) (if usN (Z.2.2 (2 * m)) (Z.1 m) (nI y) ≤ (Z.1 (12 + m)) then (Z.2.1 (5 + 5 * m)) else usF (Z.2.2 (2 * m)) (Z.1 m) (nI y) 0)) vi1 ga1 (vp_updL fo 0 ((if fx (Z.2.2 (2 * m)) (nI y) (Z.1 m) < (Z.1 m) then (Z.2.2 (2 * m + 1)) y else -1 : Int32)).toInt64) fd hG1
  · skip
    refine ⟨rfl, (LW ay ad ae o oD Z vi ga fo fd), rfl, ?_⟩
    refine j_istore F 6 [(6, .int 1), (5, .int (nI (6 * t))), (0, .ref b), (1, .ref (ad 0)), (2, .ref (ae 0)), (3, .ref o), (4, .ref oD)] dL_law_275 (by decide) rfl ?_
    refine j_aload_n F 4 dL_law_277 rfl ?_
    refine j_aload_n F 2 dL_law_278 rfl ?_
    refine j_iload F 1 dL_law_279 rfl ?_
    refine j_iconst F (v := 1) dL_law_281 (by decide) ?_
    refine j_iadd F dL_law_282 ?_
    refine j_top (nI (6 * t + 1)) (nI_add _ _) ?_
    refine j_sld F hXb hbl hbA hL (6 * t + 1) (by omega) dL_law_283 ?_
    refine j_top x1 hx1.symm ?_
    refine j_aload_n F 2 dL_law_284 rfl ?_
    refine j_iload F 1 dL_law_285 rfl ?_
    refine j_iconst F (v := 2) dL_law_287 (by decide) ?_
    refine j_iadd F dL_law_288 ?_
    refine j_top (nI (6 * t + 2)) (nI_add _ _) ?_
    refine j_sld F hXb hbl hbA hL (6 * t + 2) (by omega) dL_law_289 ?_
    refine j_top x2 hx2.symm ?_
    refine j_aload_n F 2 dL_law_290 rfl ?_
    refine j_iload F 1 dL_law_291 rfl ?_
    refine j_iconst F (v := 3) dL_law_293 (by decide) ?_
    refine j_iadd F dL_law_294 ?_
    refine j_top (nI (6 * t + 3)) (nI_add _ _) ?_
    refine j_sld F hXb hbl hbA hL (6 * t + 3) (by omega) dL_law_295 ?_
    refine j_top x3 hx3.symm ?_
    refine j_scallV F kL_139 (As := [.int x1, .int x2, .int x3]) (rest := []) (c_X10_put_no l D ay ae vi ga Z x1 x2 x3 hG (by first | assumption | exact ⟨‹_›, ‹_›⟩ | omega)) 57 57 20 rfl rfl rfl rfl rfl rfl ⟨hk.1, hk.2⟩ dL_law_296 (fun v w hw => ?_)
    obtain ⟨vi1, ga1, hG1, hc1, rfl, rfl⟩ := hw
    refine ⟨rfl, (LW ay ad ae o oD Z vi1 ga1 fo fd), rfl, ?_⟩
    refine j_top 0 rfl ?_
    refine j_istore F 7 [(7, .int 0), (6, .int 1), (5, .int (nI (6 * t))), (0, .ref b), (1, .ref (ad 0)), (2, .ref (ae 0)), (3, .ref o), (4, .ref oD)] dL_law_299 (by decide) rfl ?_
    refine j_aload_n F 5 dL_law_301 rfl ?_
    refine j_scallV F kL_140 (As := []) (rest := []) (c_X10_thrown l D ay ae vi1 ga1) 57 57 20 rfl rfl rfl rfl rfl rfl ⟨hk.1, hk.2⟩ dL_law_302 (fun v w hw => ?_)
    obtain ⟨rfl, rfl⟩ := hw
    refine ⟨rfl, (LW ay ad ae o oD Z vi1 ga1 fo fd), rfl, ?_⟩
    refine j_top 1 hc1 ?_
    refine j_iload F 1 dL_law_305 rfl ?_
    refine j_icmp_eq F 312 dL_law_307 (by decide) (fun c_307 => ?_) (fun c_307 => absurd (by decide) c_307)
    refine j_iload F 1 dL_law_312 rfl ?_
    refine j_if_ne F 329 dL_law_314 (by decide) (fun c_314 => ?_) (fun c_314 => absurd c_314 (by decide))
    refine j_goto F 2682 dL_law_329 (by decide) ?_
    refine j_sub [2, 3, 4, 5, 6, 7] [(5, .int (nI (6 * t))), (0, .ref b), (1, .ref (ad 0)), (2, .ref (ae 0)), (3, .ref o), (4, .ref oD)] rfl ?_
    exact kk Z vi1 ga1 fo fd hG1

set_option maxHeartbeats 4000000 in
set_option maxRecDepth 100000 in
theorem case_7 (l : Launch) (hfl : l.stackTraces = false) (D : va_G) (ay : Nat → ClassId) (sa : Nat → Nat) (ad ae : Nat → Nat) (o oD b L : Nat) (xs : Nat → Int32) {p9 : Program} {e9 : Env} {s9 : State} {m9 : MethodId} {a9 : Array Value} {b9 : List Frame} {me9 : Method} {c9 : Code} {A9 : Nat → Prop} {Q9 : State → Prop} (F : jF p9 s9 m9 a9 me9 c9 cL_law 10 RL (some .boolean) D ay A9) (hX : jX sa A9 s9 s9.heap) (hN : jN s9) (hXb : va_X b L xs s9 s9.heap) (hbl : b < s9.heap.size) (hbA : ¬ A9 b) (k n : Nat) (hk : k + 3 ≤ room_1.cells ∧ n + 18 ≤ room_1.slots) (t : Nat) (ht : 6 * t + 6 ≤ L) (hL : L ≤ 3072) (Z : DS) (vi : Nat → Int32) (ga : Nat → Nat → Int32) (fo : Nat → Int64) (fd : Nat → UInt64) (hG : GI Z vi ga) (kk : ∀ (Z' : DS) (vi' : Nat → Int32) (ga' : Nat → Nat → Int32) (fo' : Nat → Int64) (fd' : Nat → UInt64), GI Z' vi' ga' → jJ p9 l e9 room_1 s9 m9 a9 b9 me9 c9 Q9 D A9 10 (k + 3) (n + 18) (LW ay ad ae o oD Z' vi' ga' fo' fd') 2682 [(5, .int (nI (6 * t))), (0, .ref b), (1, .ref (ad 0)), (2, .ref (ae 0)), (3, .ref o), (4, .ref oD)] []) : jJ p9 l e9 room_1 s9 m9 a9 b9 me9 c9 Q9 D A9 10 k n (LW ay ad ae o oD Z vi ga fo fd) 740 [(5, .int (nI (6 * t))), (0, .ref b), (1, .ref (ad 0)), (2, .ref (ae 0)), (3, .ref o), (4, .ref oD)] [] := by
  obtain ⟨x1, hx1⟩ : ∃ y, y = xs (6 * t + 1) := ⟨_, rfl⟩
  obtain ⟨x2, hx2⟩ : ∃ y, y = xs (6 * t + 2) := ⟨_, rfl⟩
  refine j_aload_n F 2 dL_law_740 rfl ?_
  refine j_aload_n F 1 dL_law_741 rfl ?_
  refine j_iload F 0 dL_law_742 rfl ?_
  refine j_iconst F (v := 1) dL_law_744 (by decide) ?_
  refine j_iadd F dL_law_745 ?_
  refine j_top (nI (6 * t + 1)) (nI_add _ _) ?_
  refine j_sld F hXb hbl hbA hL (6 * t + 1) (by omega) dL_law_746 ?_
  refine j_top x1 hx1.symm ?_
  refine j_aload_n F 1 dL_law_747 rfl ?_
  refine j_iload F 0 dL_law_748 rfl ?_
  refine j_iconst F (v := 2) dL_law_750 (by decide) ?_
  refine j_iadd F dL_law_751 ?_
  refine j_top (nI (6 * t + 2)) (nI_add _ _) ?_
  refine j_sld F hXb hbl hbA hL (6 * t + 2) (by omega) dL_law_752 ?_
  refine j_top x2 hx2.symm ?_
  refine j_aload_n F 4 dL_law_753 rfl ?_
  refine j_hcallS F hX hN kL_163 (As := [.ref (ad 0), .int x1, .int x2, .ref o]) (rest := []) (h_hasKey l hfl D ay sa ad Z x1 x2 o fo (fun m hm => (hG.1 m hm).1)) 1 56 rfl rfl rfl rfl rfl ⟨hk.1, hk.2⟩ dL_law_754 (fun v w hw => ?_)
  rcases hw with ⟨m, y, g0, g1, rfl, rfl, rfl, rfl⟩ | ⟨g0, rfl, rfl⟩
  · skip
    refine ⟨rfl, (LW ay ad ae o oD Z vi ga (vp_updL fo 0 (if (if fx (Z.2.2 (2 * m)) (nI y) (Z.1 m) < Z.1 m then 1 else 0 : Int32) = 0 then 0 else 1)) fd), rfl, ?_⟩
    refine j_istore F 6 [(6, .int 0), (5, .int (nI (6 * t))), (0, .ref b), (1, .ref (ad 0)), (2, .ref (ae 0)), (3, .ref o), (4, .ref oD)] dL_law_757 (by decide) rfl ?_
    refine j_aload_n F 4 dL_law_759 rfl ?_
    refine j_aload_n F 2 dL_law_760 rfl ?_
    refine j_iload F 1 dL_law_761 rfl ?_
    refine j_iconst F (v := 1) dL_law_763 (by decide) ?_
    refine j_iadd F dL_law_764 ?_
    refine j_top (nI (6 * t + 1)) (nI_add _ _) ?_
    refine j_sld F hXb hbl hbA hL (6 * t + 1) (by omega) dL_law_765 ?_
    refine j_top (nI m) hx1.symm ?_
    refine j_aload_n F 2 dL_law_766 rfl ?_
    refine j_iload F 1 dL_law_767 rfl ?_
    refine j_iconst F (v := 2) dL_law_769 (by decide) ?_
    refine j_iadd F dL_law_770 ?_
    refine j_top (nI (6 * t + 2)) (nI_add _ _) ?_
    refine j_sld F hXb hbl hbA hL (6 * t + 2) (by omega) dL_law_771 ?_
    refine j_top (nI y) hx2.symm ?_
    refine j_scallV F kL_165 (As := [.int (nI m), .int (nI y)]) (rest := []) (c_X10_hasKey_ok l D ay ae vi ga Z m y hG (by first | assumption | exact ⟨‹_›, ‹_›⟩ | omega) (by first | assumption | exact ⟨‹_›, ‹_›⟩ | omega)) 57 57 20 rfl rfl rfl rfl rfl rfl ⟨hk.1, hk.2⟩ dL_law_772 (fun v w hw => ?_)
    obtain ⟨vi1, ga1, hG1, hc1, rfl, rfl⟩ := hw
    refine ⟨rfl, (LW ay ad ae o oD Z vi1 ga1 (vp_updL fo 0 (if (if fx (Z.2.2 (2 * m)) (nI y) (Z.1 m) < Z.1 m then 1 else 0 : Int32) = 0 then 0 else 1)) fd), rfl, ?_⟩
    refine j_top (if fx (Z.2.2 (2 * m)) (nI y) (Z.1 m) < Z.1 m then 1 else 0) rfl ?_
    refine j_istore F 7 [(7, .int (if fx (Z.2.2 (2 * m)) (nI y) (Z.1 m) < Z.1 m then 1 else 0)), (6, .int 0), (5, .int (nI (6 * t))), (0, .ref b), (1, .ref (ad 0)), (2, .ref (ae 0)), (3, .ref o), (4, .ref oD)] dL_law_775 (by decide) rfl ?_
    refine j_aload_n F 5 dL_law_777 rfl ?_
    refine j_scallV F kL_140 (As := []) (rest := []) (c_X10_thrown l D ay ae vi1 ga1) 57 57 20 rfl rfl rfl rfl rfl rfl ⟨hk.1, hk.2⟩ dL_law_778 (fun v w hw => ?_)
    obtain ⟨rfl, rfl⟩ := hw
    refine ⟨rfl, (LW ay ad ae o oD Z vi1 ga1 (vp_updL fo 0 (if (if fx (Z.2.2 (2 * m)) (nI y) (Z.1 m) < Z.1 m then 1 else 0 : Int32) = 0 then 0 else 1)) fd), rfl, ?_⟩
    refine j_top 0 hc1 ?_
    refine j_iload F 1 dL_law_781 rfl ?_
    refine j_icmp_eq F 788 dL_law_783 (by decide) (fun c_783 => ?_) (fun c_783 => absurd (by decide) c_783)
    refine j_iload F 1 dL_law_788 rfl ?_
    refine j_if_ne F 812 dL_law_790 (by decide) (fun c_790 => absurd (by decide) c_790) (fun c_790 => ?_)
    refine j_aload_n F 6 dL_law_793 rfl ?_
    refine j_iconst F (v := 0) dL_law_794 (by decide) ?_
    refine j_lald F 56 0 (f := vp_updL fo 0 (if (if fx (Z.2.2 (2 * m)) (nI y) (Z.1 m) < Z.1 m then 1 else 0 : Int32) = 0 then 0 else 1)) rfl rfl (by decide) (Nat.le_of_ble_eq_true rfl) dL_law_795 ?_
    refine j_iload F 0 dL_law_796 rfl ?_
    refine j_if_eq F 805 dL_law_798 (by decide) (fun c_798 => ?_) (fun c_798 => ?_)
    · skip
      refine j_lconst F (v := 0) dL_law_805 (by decide) ?_
      refine j_lcmp F dL_law_806 ?_
      refine j_top 0 ((congrArg (fun z => lg_cmp z 0) ((if_pos c_798 : (if (if fx (Z.2.2 (2 * m)) (nI y) (Z.1 m) < Z.1 m then 1 else 0 : Int32) = 0 then (0 : Int64) else 1) = 0))).trans (lg_self _)) ?_
      refine j_if_eq F 812 dL_law_807 (by decide) (fun c_807 => ?_) (fun c_807 => absurd (by decide) c_807)
      refine j_goto F 2682 dL_law_812 (by decide) ?_
      refine j_sub [2, 3, 4, 5, 6, 7] [(5, .int (nI (6 * t))), (0, .ref b), (1, .ref (ad 0)), (2, .ref (ae 0)), (3, .ref o), (4, .ref oD)] rfl ?_
      exact kk Z vi1 ga1 (vp_updL fo 0 (if (if fx (Z.2.2 (2 * m)) (nI y) (Z.1 m) < Z.1 m then 1 else 0 : Int32) = 0 then 0 else 1)) fd hG1
    · skip
      refine j_lconst F (v := 1) dL_law_801 (by decide) ?_
      refine j_goto F 806 dL_law_802 (by decide) ?_
      refine j_lcmp F dL_law_806 ?_
      refine j_top 0 ((congrArg (fun z => lg_cmp z 1) ((if_neg c_798 : (if (if fx (Z.2.2 (2 * m)) (nI y) (Z.1 m) < Z.1 m then 1 else 0 : Int32) = 0 then (0 : Int64) else 1) = 1))).trans (lg_self _)) ?_
      refine j_if_eq F 812 dL_law_807 (by decide) (fun c_807 => ?_) (fun c_807 => absurd (by decide) c_807)
      refine j_goto F 2682 dL_law_812 (by decide) ?_
      refine j_sub [2, 3, 4, 5, 6, 7] [(5, .int (nI (6 * t))), (0, .ref b), (1, .ref (ad 0)), (2, .ref (ae 0)), (3, .ref o), (4, .ref oD)] rfl ?_
      exact kk Z vi1 ga1 (vp_updL fo 0 (if (if fx (Z.2.2 (2 * m)) (nI y) (Z.1 m) < Z.1 m then 1 else 0 : Int32) = 0 then 0 else 1)) fd hG1
  · skip
    refine ⟨rfl, (LW ay ad ae o oD Z vi ga fo fd), rfl, ?_⟩
    refine j_istore F 6 [(6, .int 1), (5, .int (nI (6 * t))), (0, .ref b), (1, .ref (ad 0)), (2, .ref (ae 0)), (3, .ref o), (4, .ref oD)] dL_law_757 (by decide) rfl ?_
    refine j_aload_n F 4 dL_law_759 rfl ?_
    refine j_aload_n F 2 dL_law_760 rfl ?_
    refine j_iload F 1 dL_law_761 rfl ?_
    refine j_iconst F (v := 1) dL_law_763 (by decide) ?_
    refine j_iadd F dL_law_764 ?_
    refine j_top (nI (6 * t + 1)) (nI_add _ _) ?_
    refine j_sld F hXb hbl hbA hL (6 * t + 1) (by omega) dL_law_765 ?_
    refine j_top x1 hx1.symm ?_
    refine j_aload_n F 2 dL_law_766 rfl ?_
    refine j_iload F 1 dL_law_767 rfl ?_
    refine j_iconst F (v := 2) dL_law_769 (by decide) ?_
    refine j_iadd F dL_law_770 ?_
    refine j_top (nI (6 * t + 2)) (nI_add _ _) ?_
    refine j_sld F hXb hbl hbA hL (6 * t + 2) (by omega) dL_law_771 ?_
    refine j_top x2 hx2.symm ?_
    refine j_scallV F kL_165 (As := [.int x1, .int x2]) (rest := []) (c_X10_hasKey_no l D ay ae vi ga Z x1 x2 hG (by first | assumption | exact ⟨‹_›, ‹_›⟩ | omega)) 57 57 20 rfl rfl rfl rfl rfl rfl ⟨hk.1, hk.2⟩ dL_law_772 (fun v w hw => ?_)
    obtain ⟨vi1, ga1, hG1, hc1, rfl, rfl⟩ := hw
    refine ⟨rfl, (LW ay ad ae o oD Z vi1 ga1 fo fd), rfl, ?_⟩
    refine j_top 0 rfl ?_
    refine j_istore F 7 [(7, .int 0), (6, .int 1), (5, .int (nI (6 * t))), (0, .ref b), (1, .ref (ad 0)), (2, .ref (ae 0)), (3, .ref o), (4, .ref oD)] dL_law_775 (by decide) rfl ?_
    refine j_aload_n F 5 dL_law_777 rfl ?_
    refine j_scallV F kL_140 (As := []) (rest := []) (c_X10_thrown l D ay ae vi1 ga1) 57 57 20 rfl rfl rfl rfl rfl rfl ⟨hk.1, hk.2⟩ dL_law_778 (fun v w hw => ?_)
    obtain ⟨rfl, rfl⟩ := hw
    refine ⟨rfl, (LW ay ad ae o oD Z vi1 ga1 fo fd), rfl, ?_⟩
    refine j_top 1 hc1 ?_
    refine j_iload F 1 dL_law_781 rfl ?_
    refine j_icmp_eq F 788 dL_law_783 (by decide) (fun c_783 => ?_) (fun c_783 => absurd (by decide) c_783)
    refine j_iload F 1 dL_law_788 rfl ?_
    refine j_if_ne F 812 dL_law_790 (by decide) (fun c_790 => ?_) (fun c_790 => absurd c_790 (by decide))
    refine j_goto F 2682 dL_law_812 (by decide) ?_
    refine j_sub [2, 3, 4, 5, 6, 7] [(5, .int (nI (6 * t))), (0, .ref b), (1, .ref (ad 0)), (2, .ref (ae 0)), (3, .ref o), (4, .ref oD)] rfl ?_
    exact kk Z vi1 ga1 fo fd hG1

set_option maxHeartbeats 4000000 in
set_option maxRecDepth 100000 in
theorem case_14 (l : Launch) (hfl : l.stackTraces = false) (D : va_G) (ay : Nat → ClassId) (sa : Nat → Nat) (ad ae : Nat → Nat) (o oD b L : Nat) (xs : Nat → Int32) {p9 : Program} {e9 : Env} {s9 : State} {m9 : MethodId} {a9 : Array Value} {b9 : List Frame} {me9 : Method} {c9 : Code} {A9 : Nat → Prop} {Q9 : State → Prop} (F : jF p9 s9 m9 a9 me9 c9 cL_law 10 RL (some .boolean) D ay A9) (hX : jX sa A9 s9 s9.heap) (hN : jN s9) (hXb : va_X b L xs s9 s9.heap) (hbl : b < s9.heap.size) (hbA : ¬ A9 b) (k n : Nat) (hk : k + 3 ≤ room_1.cells ∧ n + 18 ≤ room_1.slots) (t : Nat) (ht : 6 * t + 6 ≤ L) (hL : L ≤ 3072) (Z : DS) (vi : Nat → Int32) (ga : Nat → Nat → Int32) (fo : Nat → Int64) (fd : Nat → UInt64) (hG : GI Z vi ga) (kk : ∀ (Z' : DS) (vi' : Nat → Int32) (ga' : Nat → Nat → Int32) (fo' : Nat → Int64) (fd' : Nat → UInt64), GI Z' vi' ga' → jJ p9 l e9 room_1 s9 m9 a9 b9 me9 c9 Q9 D A9 10 (k + 3) (n + 18) (LW ay ad ae o oD Z' vi' ga' fo' fd') 2682 [(5, .int (nI (6 * t))), (0, .ref b), (1, .ref (ad 0)), (2, .ref (ae 0)), (3, .ref o), (4, .ref oD)] []) : jJ p9 l e9 room_1 s9 m9 a9 b9 me9 c9 Q9 D A9 10 k n (LW ay ad ae o oD Z vi ga fo fd) 1206 [(5, .int (nI (6 * t))), (0, .ref b), (1, .ref (ad 0)), (2, .ref (ae 0)), (3, .ref o), (4, .ref oD)] [] := by
  refine j_aload_n F 2 dL_law_1206 rfl ?_
  refine j_scallV F kL_184 (As := []) (rest := []) (c_X9_putOut l D ay ad Z) 1 1 55 rfl rfl rfl rfl rfl rfl ⟨Nat.le_trans (Nat.le_add_right _ _) hk.1, Nat.le_trans (Nat.le_add_right _ _) hk.2⟩ dL_law_1207 (fun v w hw => ?_)
  obtain ⟨rfl, rfl⟩ := hw
  refine ⟨rfl, (LW ay ad ae o oD Z vi ga fo fd), rfl, ?_⟩
  refine j_aload_n F 3 dL_law_1210 rfl ?_
  refine j_scallV F kL_187 (As := []) (rest := [.int (Z.2.1 9)]) (c_X10_putOut_ok l D ay ae vi ga Z hG) 57 57 20 rfl rfl rfl rfl rfl rfl ⟨Nat.le_trans (Nat.le_add_right _ _) hk.1, Nat.le_trans (Nat.le_add_right _ _) hk.2⟩ dL_law_1211 (fun v w hw => ?_)
  obtain ⟨vi1, ga1, hG1, hc1, rfl, rfl⟩ := hw
  refine ⟨rfl, (LW ay ad ae o oD Z vi1 ga1 fo fd), rfl, ?_⟩
  refine j_top (Z.2.1 9) rfl ?_
  refine j_icmp_eq F 2682 dL_law_1214 (by decide) (fun c_1214 => ?_) (fun c_1214 => absurd rfl c_1214)
  refine j_widen (Nat.le_add_right k 3) (Nat.le_add_right n 18) ?_
  refine j_sub [0, 1, 2, 3, 4, 5] [(5, .int (nI (6 * t))), (0, .ref b), (1, .ref (ad 0)), (2, .ref (ae 0)), (3, .ref o), (4, .ref oD)] rfl ?_
  exact kk Z vi1 ga1 fo fd hG1

set_option maxHeartbeats 4000000 in
set_option maxRecDepth 100000 in
theorem case_45 (l : Launch) (hfl : l.stackTraces = false) (D : va_G) (ay : Nat → ClassId) (sa : Nat → Nat) (ad ae : Nat → Nat) (o oD b L : Nat) (xs : Nat → Int32) {p9 : Program} {e9 : Env} {s9 : State} {m9 : MethodId} {a9 : Array Value} {b9 : List Frame} {me9 : Method} {c9 : Code} {A9 : Nat → Prop} {Q9 : State → Prop} (F : jF p9 s9 m9 a9 me9 c9 cL_law 10 RL (some .boolean) D ay A9) (hX : jX sa A9 s9 s9.heap) (hN : jN s9) (hXb : va_X b L xs s9 s9.heap) (hbl : b < s9.heap.size) (hbA : ¬ A9 b) (k n : Nat) (hk : k + 3 ≤ room_1.cells ∧ n + 18 ≤ room_1.slots) (t : Nat) (ht : 6 * t + 6 ≤ L) (hL : L ≤ 3072) (Z : DS) (vi : Nat → Int32) (ga : Nat → Nat → Int32) (fo : Nat → Int64) (fd : Nat → UInt64) (hG : GI Z vi ga) (kk : ∀ (Z' : DS) (vi' : Nat → Int32) (ga' : Nat → Nat → Int32) (fo' : Nat → Int64) (fd' : Nat → UInt64), GI Z' vi' ga' → jJ p9 l e9 room_1 s9 m9 a9 b9 me9 c9 Q9 D A9 10 (k + 3) (n + 18) (LW ay ad ae o oD Z' vi' ga' fo' fd') 2682 [(5, .int (nI (6 * t))), (0, .ref b), (1, .ref (ad 0)), (2, .ref (ae 0)), (3, .ref o), (4, .ref oD)] []) : jJ p9 l e9 room_1 s9 m9 a9 b9 me9 c9 Q9 D A9 10 k n (LW ay ad ae o oD Z vi ga fo fd) 2550 [(5, .int (nI (6 * t))), (0, .ref b), (1, .ref (ad 0)), (2, .ref (ae 0)), (3, .ref o), (4, .ref oD)] [] := by
  obtain ⟨x1, hx1⟩ : ∃ y, y = xs (6 * t + 1) := ⟨_, rfl⟩
  refine j_aload_n F 2 dL_law_2550 rfl ?_
  refine j_aload_n F 1 dL_law_2551 rfl ?_
  refine j_iload F 0 dL_law_2552 rfl ?_
  refine j_iconst F (v := 1) dL_law_2554 (by decide) ?_
  refine j_iadd F dL_law_2555 ?_
  refine j_top (nI (6 * t + 1)) (nI_add _ _) ?_
  refine j_sld F hXb hbl hbA hL (6 * t + 1) (by omega) dL_law_2556 ?_
  refine j_top x1 hx1.symm ?_
  refine j_aload F 5 dL_law_2557 rfl ?_
  refine j_hcallS F hX hN kL_290 (As := [.ref (ad 0), .int x1, .ref oD]) (rest := []) (h_hitShare l hfl D ay sa ad Z x1 oD fd (hG.2.2.1)) 0 56 rfl rfl rfl rfl rfl ⟨hk.1, hk.2⟩ dL_law_2559 (fun v w hw => ?_)
  rcases hw with ⟨i, g0, rfl, rfl, rfl⟩ | ⟨g0, rfl, rfl⟩
  · skip
    refine ⟨rfl, (LW ay ad ae o oD Z vi ga fo (vf_upd fd 0 (FP.f2d (if Z.1 14 = 0 then FP.fconst0 else FP.fdiv (FP.i2f (Z.2.1 (11 + i))) (FP.i2f (nI (Z.1 14))))))), rfl, ?_⟩
    have hnan : FP.Core.fIsNaN (if Z.1 14 = 0 then FP.fconst0 else FP.fdiv (FP.i2f (Z.2.1 (11 + i))) (FP.i2f (nI (Z.1 14)))) = false := by
      split
      · decide
      · next h => exact fp_fdiv _ (fun e => h ((nI_eq (b := 0) (by have := hG.2.2.1.2.2; omega) (by decide)).mp e))
    refine j_istore F 6 [(6, .int 0), (5, .int (nI (6 * t))), (0, .ref b), (1, .ref (ad 0)), (2, .ref (ae 0)), (3, .ref o), (4, .ref oD)] dL_law_2562 (by decide) rfl ?_
    refine j_aload_n F 4 dL_law_2564 rfl ?_
    refine j_aload_n F 2 dL_law_2565 rfl ?_
    refine j_iload F 1 dL_law_2566 rfl ?_
    refine j_iconst F (v := 1) dL_law_2568 (by decide) ?_
    refine j_iadd F dL_law_2569 ?_
    refine j_top (nI (6 * t + 1)) (nI_add _ _) ?_
    refine j_sld F hXb hbl hbA hL (6 * t + 1) (by omega) dL_law_2570 ?_
    refine j_top (nI (i + 1)) hx1.symm ?_
    refine j_scallV F kL_293 (As := [.int (nI (i + 1))]) (rest := []) (c_X10_hitShare_ok l D ay ae vi ga Z i hG (by first | assumption | exact ⟨‹_›, ‹_›⟩ | omega)) 57 57 20 rfl rfl rfl rfl rfl rfl ⟨hk.1, hk.2⟩ dL_law_2571 (fun v w hw => ?_)
    obtain ⟨vi1, ga1, hG1, hc1, rfl, rfl⟩ := hw
    refine ⟨rfl, (LW ay ad ae o oD Z vi1 ga1 fo (vf_upd fd 0 (FP.f2d (if Z.1 14 = 0 then FP.fconst0 else FP.fdiv (FP.i2f (Z.2.1 (11 + i))) (FP.i2f (nI (Z.1 14))))))), rfl, ?_⟩
    refine j_fstore F 7 [(7, .float (if Z.1 14 = 0 then FP.fconst0 else FP.fdiv (FP.i2f (Z.2.1 (11 + i))) (FP.i2f (nI (Z.1 14))))), (6, .int 0), (5, .int (nI (6 * t))), (0, .ref b), (1, .ref (ad 0)), (2, .ref (ae 0)), (3, .ref o), (4, .ref oD)] dL_law_2574 (by decide) rfl ?_
    refine j_aload_n F 5 dL_law_2576 rfl ?_
    refine j_scallV F kL_140 (As := []) (rest := []) (c_X10_thrown l D ay ae vi1 ga1) 57 57 20 rfl rfl rfl rfl rfl rfl ⟨hk.1, hk.2⟩ dL_law_2577 (fun v w hw => ?_)
    obtain ⟨rfl, rfl⟩ := hw
    refine ⟨rfl, (LW ay ad ae o oD Z vi1 ga1 fo (vf_upd fd 0 (FP.f2d (if Z.1 14 = 0 then FP.fconst0 else FP.fdiv (FP.i2f (Z.2.1 (11 + i))) (FP.i2f (nI (Z.1 14))))))), rfl, ?_⟩
    refine j_top 0 hc1 ?_
    refine j_iload F 1 dL_law_2580 rfl ?_
    refine j_icmp_eq F 2587 dL_law_2582 (by decide) (fun c_2582 => ?_) (fun c_2582 => absurd (by decide) c_2582)
    refine j_iload F 1 dL_law_2587 rfl ?_
    refine j_if_ne F 2625 dL_law_2589 (by decide) (fun c_2589 => absurd (by decide) c_2589) (fun c_2589 => ?_)
    refine j_aload F 7 dL_law_2592 rfl ?_
    refine j_iconst F (v := 0) dL_law_2594 (by decide) ?_
    refine j_dald F 0 0 (f := vf_upd fd 0 (FP.f2d (if Z.1 14 = 0 then FP.fconst0 else FP.fdiv (FP.i2f (Z.2.1 (11 + i))) (FP.i2f (nI (Z.1 14)))))) rfl rfl (by decide) (Nat.le_of_ble_eq_true rfl) dL_law_2595 ?_
    refine j_fload F 0 dL_law_2596 rfl ?_
    refine j_f2d F dL_law_2598 (fp_n64 (fp_f2d hnan)) ?_
    refine j_dcmp F dL_law_2599 ?_
    refine j_top 0 (fp_self (fp_f2d hnan)) ?_
    refine j_if_eq F 2625 dL_law_2600 (by decide) (fun c_2600 => ?_) (fun c_2600 => absurd (by decide) c_2600)
    refine j_goto F 2682 dL_law_2625 (by decide) ?_
    refine j_sub [2, 3, 4, 5, 6, 7] [(5, .int (nI (6 * t))), (0, .ref b), (1, .ref (ad 0)), (2, .ref (ae 0)), (3, .ref o), (4, .ref oD)] rfl ?_
    exact kk Z vi1 ga1 fo (vf_upd fd 0 (FP.f2d (if Z.1 14 = 0 then FP.fconst0 else FP.fdiv (FP.i2f (Z.2.1 (11 + i))) (FP.i2f (nI (Z.1 14)))))) hG1
  · skip
    refine ⟨rfl, (LW ay ad ae o oD Z vi ga fo fd), rfl, ?_⟩
    refine j_istore F 6 [(6, .int 1), (5, .int (nI (6 * t))), (0, .ref b), (1, .ref (ad 0)), (2, .ref (ae 0)), (3, .ref o), (4, .ref oD)] dL_law_2562 (by decide) rfl ?_
    refine j_aload_n F 4 dL_law_2564 rfl ?_
    refine j_aload_n F 2 dL_law_2565 rfl ?_
    refine j_iload F 1 dL_law_2566 rfl ?_
    refine j_iconst F (v := 1) dL_law_2568 (by decide) ?_
    refine j_iadd F dL_law_2569 ?_
    refine j_top (nI (6 * t + 1)) (nI_add _ _) ?_
    refine j_sld F hXb hbl hbA hL (6 * t + 1) (by omega) dL_law_2570 ?_
    refine j_top x1 hx1.symm ?_
    refine j_scallV F kL_293 (As := [.int x1]) (rest := []) (c_X10_hitShare_no l D ay ae vi ga Z x1 hG (by first | assumption | exact ⟨‹_›, ‹_›⟩ | omega)) 57 57 20 rfl rfl rfl rfl rfl rfl ⟨hk.1, hk.2⟩ dL_law_2571 (fun v w hw => ?_)
    obtain ⟨vi1, ga1, hG1, hc1, rfl, rfl⟩ := hw
    refine ⟨rfl, (LW ay ad ae o oD Z vi1 ga1 fo fd), rfl, ?_⟩
    refine j_fstore F 7 [(7, .float FP.fconst0), (6, .int 1), (5, .int (nI (6 * t))), (0, .ref b), (1, .ref (ad 0)), (2, .ref (ae 0)), (3, .ref o), (4, .ref oD)] dL_law_2574 (by decide) rfl ?_
    refine j_aload_n F 5 dL_law_2576 rfl ?_
    refine j_scallV F kL_140 (As := []) (rest := []) (c_X10_thrown l D ay ae vi1 ga1) 57 57 20 rfl rfl rfl rfl rfl rfl ⟨hk.1, hk.2⟩ dL_law_2577 (fun v w hw => ?_)
    obtain ⟨rfl, rfl⟩ := hw
    refine ⟨rfl, (LW ay ad ae o oD Z vi1 ga1 fo fd), rfl, ?_⟩
    refine j_top 1 hc1 ?_
    refine j_iload F 1 dL_law_2580 rfl ?_
    refine j_icmp_eq F 2587 dL_law_2582 (by decide) (fun c_2582 => ?_) (fun c_2582 => absurd (by decide) c_2582)
    refine j_iload F 1 dL_law_2587 rfl ?_
    refine j_if_ne F 2625 dL_law_2589 (by decide) (fun c_2589 => ?_) (fun c_2589 => absurd c_2589 (by decide))
    refine j_goto F 2682 dL_law_2625 (by decide) ?_
    refine j_sub [2, 3, 4, 5, 6, 7] [(5, .int (nI (6 * t))), (0, .ref b), (1, .ref (ad 0)), (2, .ref (ae 0)), (3, .ref o), (4, .ref oD)] rfl ?_
    exact kk Z vi1 ga1 fo fd hG1

set_option maxHeartbeats 4000000 in
set_option maxRecDepth 100000 in
theorem case_46 (l : Launch) (hfl : l.stackTraces = false) (D : va_G) (ay : Nat → ClassId) (sa : Nat → Nat) (ad ae : Nat → Nat) (o oD b L : Nat) (xs : Nat → Int32) {p9 : Program} {e9 : Env} {s9 : State} {m9 : MethodId} {a9 : Array Value} {b9 : List Frame} {me9 : Method} {c9 : Code} {A9 : Nat → Prop} {Q9 : State → Prop} (F : jF p9 s9 m9 a9 me9 c9 cL_law 10 RL (some .boolean) D ay A9) (hX : jX sa A9 s9 s9.heap) (hN : jN s9) (hXb : va_X b L xs s9 s9.heap) (hbl : b < s9.heap.size) (hbA : ¬ A9 b) (k n : Nat) (hk : k + 3 ≤ room_1.cells ∧ n + 18 ≤ room_1.slots) (t : Nat) (ht : 6 * t + 6 ≤ L) (hL : L ≤ 3072) (Z : DS) (vi : Nat → Int32) (ga : Nat → Nat → Int32) (fo : Nat → Int64) (fd : Nat → UInt64) (hG : GI Z vi ga) (kk : ∀ (Z' : DS) (vi' : Nat → Int32) (ga' : Nat → Nat → Int32) (fo' : Nat → Int64) (fd' : Nat → UInt64), GI Z' vi' ga' → jJ p9 l e9 room_1 s9 m9 a9 b9 me9 c9 Q9 D A9 10 (k + 3) (n + 18) (LW ay ad ae o oD Z' vi' ga' fo' fd') 2682 [(5, .int (nI (6 * t))), (0, .ref b), (1, .ref (ad 0)), (2, .ref (ae 0)), (3, .ref o), (4, .ref oD)] []) : jJ p9 l e9 room_1 s9 m9 a9 b9 me9 c9 Q9 D A9 10 k n (LW ay ad ae o oD Z vi ga fo fd) 2628 [(5, .int (nI (6 * t))), (0, .ref b), (1, .ref (ad 0)), (2, .ref (ae 0)), (3, .ref o), (4, .ref oD)] [] := by
  refine j_aload_n F 2 dL_law_2628 rfl ?_
  refine j_scallV F kL_294 (As := []) (rest := []) (c_X9_meanDistance l D ay ad Z (hG.2.2.1)) 1 1 55 rfl rfl rfl rfl rfl rfl ⟨Nat.le_trans (Nat.le_add_right _ _) hk.1, Nat.le_trans (Nat.le_add_right _ _) hk.2⟩ dL_law_2629 (fun v w hw => ?_)
  obtain ⟨rfl, rfl⟩ := hw
  refine ⟨rfl, (LW ay ad ae o oD Z vi ga fo fd), rfl, ?_⟩
  have hnan : FP.Core.dIsNaN (if cb (Z.2.2 13) 100 (Z.1 14) = 0 then FP.dconst0 else FP.ddiv (FP.i2d (dtot (Z.2.2 13) (Z.1 14))) (FP.i2d (nI (cb (Z.2.2 13) 100 (Z.1 14))))) = false := by
    split
    · decide
    · next h => exact fp_ddiv _ (fun e => h ((nI_eq (b := 0) (by have := cb_le (Z.2.2 13) 100 (Z.1 14); have := hG.2.2.1.2.2; omega) (by decide)).mp e))
  refine j_dstore F 6 [(6, .double (if cb (Z.2.2 13) 100 (Z.1 14) = 0 then FP.dconst0 else FP.ddiv (FP.i2d (dtot (Z.2.2 13) (Z.1 14))) (FP.i2d (nI (cb (Z.2.2 13) 100 (Z.1 14)))))), (5, .int (nI (6 * t))), (0, .ref b), (1, .ref (ad 0)), (2, .ref (ae 0)), (3, .ref o), (4, .ref oD)] dL_law_2632 (by decide) rfl ?_
  refine j_aload_n F 4 dL_law_2634 rfl ?_
  refine j_scallV F kL_298 (As := []) (rest := []) (c_X10_meanDistance_ok l D ay ae vi ga Z hG) 57 57 20 rfl rfl rfl rfl rfl rfl ⟨Nat.le_trans (Nat.le_add_right _ _) hk.1, Nat.le_trans (Nat.le_add_right _ _) hk.2⟩ dL_law_2635 (fun v w hw => ?_)
  obtain ⟨vi1, ga1, hG1, hc1, rfl, rfl⟩ := hw
  refine ⟨rfl, (LW ay ad ae o oD Z vi1 ga1 fo fd), rfl, ?_⟩
  refine j_dstore F 8 [(8, .double (if cb (Z.2.2 13) 100 (Z.1 14) = 0 then FP.dconst0 else FP.ddiv (FP.i2d (dtot (Z.2.2 13) (Z.1 14))) (FP.i2d (nI (cb (Z.2.2 13) 100 (Z.1 14)))))), (6, .double (if cb (Z.2.2 13) 100 (Z.1 14) = 0 then FP.dconst0 else FP.ddiv (FP.i2d (dtot (Z.2.2 13) (Z.1 14))) (FP.i2d (nI (cb (Z.2.2 13) 100 (Z.1 14)))))), (5, .int (nI (6 * t))), (0, .ref b), (1, .ref (ad 0)), (2, .ref (ae 0)), (3, .ref o), (4, .ref oD)] dL_law_2638 (by decide) rfl ?_
  refine j_dload F 1 dL_law_2640 rfl ?_
  refine j_dload F 0 dL_law_2642 rfl ?_
  refine j_dcmp F dL_law_2644 ?_
  refine j_top 0 (fp_self hnan) ?_
  refine j_if_eq F 2666 dL_law_2645 (by decide) (fun c_2645 => ?_) (fun c_2645 => absurd (by decide) c_2645)
  refine j_goto F 2682 dL_law_2666 (by decide) ?_
  refine j_widen (Nat.le_add_right k 3) (Nat.le_add_right n 18) ?_
  refine j_sub [2, 3, 4, 5, 6, 7] [(5, .int (nI (6 * t))), (0, .ref b), (1, .ref (ad 0)), (2, .ref (ae 0)), (3, .ref o), (4, .ref oD)] rfl ?_
  exact kk Z vi1 ga1 fo fd hG1

