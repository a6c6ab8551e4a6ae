set_option maxHeartbeats 4000000 in
set_option maxRecDepth 100000 in
theorem case_0 (l : Launch) (hfl : l.stackTraces = false) (D : va_G) (ay : Nat → ClassId) (sa : Nat → Nat) (ad ae : Nat → Nat) (o oD bS L : Nat) (xs : Nat → Int32) {p9 : Program} {e9 : Env} {s9 : State} {m9 : MethodId} {a9 : Array Value} {b9 : List Frame} {me9 : Method} {c9 : Code} {A9 : Nat → Prop} {Q9 : State → Prop} (F : jF p9 s9 m9 a9 me9 c9 cL_law 10 RL (some .boolean) D ay A9) (hX : jX sa A9 s9 s9.heap) (hN : jN s9) (hXb : va_X bS L xs s9 s9.heap) (hbl : bS < s9.heap.size) (hbA : ¬ A9 bS) (k n : Nat) (hk : k + 3 ≤ room_1.cells ∧ n + 18 ≤ room_1.slots) (t : Nat) (ht : 6 * t + 6 ≤ L) (hL : L ≤ 3072) (Z : DS) (vi : Nat → Int32) (ga : Nat → Nat → Int32) (fo : Nat → Int64) (fd : Nat → UInt64) (hG : GI Z vi ga) (kk : ∀ (Z' : DS) (vi' : Nat → Int32) (ga' : Nat → Nat → Int32) (fo' : Nat → Int64) (fd' : Nat → UInt64), GI Z' vi' ga' → jJ p9 l e9 room_1 s9 m9 a9 b9 me9 c9 Q9 D A9 10 (k + 3) (n + 18) (LW ay ad ae o oD Z' vi' ga' fo' fd') 2682 [(5, .int (nI (6 * t))), (0, .ref bS), (1, .ref (ad 0)), (2, .ref (ae 0)), (3, .ref o), (4, .ref oD)] []) : jJ p9 l e9 room_1 s9 m9 a9 b9 me9 c9 Q9 D A9 10 k n (LW ay ad ae o oD Z vi ga fo fd) 252 [(5, .int (nI (6 * t))), (0, .ref bS), (1, .ref (ad 0)), (2, .ref (ae 0)), (3, .ref o), (4, .ref oD)] [] := by
  obtain ⟨x1, hx1⟩ : ∃ y, y = xs (6 * t + 1) := ⟨_, rfl⟩
  obtain ⟨x2, hx2⟩ : ∃ y, y = xs (6 * t + 2) := ⟨_, rfl⟩
  obtain ⟨x3, hx3⟩ : ∃ y, y = xs (6 * t + 3) := ⟨_, rfl⟩
  refine j_aload_n F 2 dL_law_252 rfl ?_
  refine j_aload_n F 1 dL_law_253 rfl ?_
  refine j_iload F 0 dL_law_254 rfl ?_
  refine j_iconst F (v := 1) dL_law_256 (by decide) ?_
  refine j_iadd F dL_law_257 ?_
  refine j_top (nI (6 * t + 1)) (nI_add _ _) ?_
  refine j_sld F hXb hbl hbA hL (6 * t + 1) (by omega) dL_law_258 ?_
  refine j_top x1 hx1.symm ?_
  refine j_aload_n F 1 dL_law_259 rfl ?_
  refine j_iload F 0 dL_law_260 rfl ?_
  refine j_iconst F (v := 2) dL_law_262 (by decide) ?_
  refine j_iadd F dL_law_263 ?_
  refine j_top (nI (6 * t + 2)) (nI_add _ _) ?_
  refine j_sld F hXb hbl hbA hL (6 * t + 2) (by omega) dL_law_264 ?_
  refine j_top x2 hx2.symm ?_
  refine j_aload_n F 1 dL_law_265 rfl ?_
  refine j_iload F 0 dL_law_266 rfl ?_
  refine j_iconst F (v := 3) dL_law_268 (by decide) ?_
  refine j_iadd F dL_law_269 ?_
  refine j_top (nI (6 * t + 3)) (nI_add _ _) ?_
  refine j_sld F hXb hbl hbA hL (6 * t + 3) (by omega) dL_law_270 ?_
  refine j_top x3 hx3.symm ?_
  refine j_aload_n F 4 dL_law_271 rfl ?_
  refine j_hcallS F hX hN kL_134 (As := [.ref (ad 0), .int x1, .int x2, .int x3, .ref o]) (rest := []) (h_put l hfl D ay sa ad Z x1 x2 x3 o fo (fun m hm => (hG.1 m hm).1)) 1 56 rfl rfl rfl rfl rfl ⟨hk.1, hk.2⟩ dL_law_272 (fun v w hw => ?_)
  rcases hw with ⟨m, y, z, g0, g1, g2, rfl, rfl, rfl, rfl, rfl⟩ | ⟨g0, rfl, rfl⟩
  · skip
    refine ⟨rfl, (LW ay ad ae o oD (mU Z m (stN (Z.2.2 (2 * m)) (Z.1 m) (nI y) (Z.1 (12 + m))) (stF (Z.2.2 (2 * m)) (Z.1 m) (nI y) (Z.1 (12 + m))) 0 (Z.2.1 (2 + 5 * m)) (Z.2.1 (3 + 5 * m)) (upd (Z.2.2 (2 * m + 1)) y (nI z)) (Z.1 (12 + m)) (if usN (Z.2.2 (2 * m)) (Z.1 m) (nI y) ≤ (Z.1 (12 + m)) then (Z.2.1 (4 + 5 * m)) else (Z.2.1 (4 + 5 * m)) + 1) (if usN (Z.2.2 (2 * m)) (Z.1 m) (nI y) ≤ (Z.1 (12 + m)) then (Z.2.1 (5 + 5 * m)) else usF (Z.2.2 (2 * m)) (Z.1 m) (nI y) 0)) vi ga (vp_updL fo 0 ((if fx (Z.2.2 (2 * m)) (nI y) (Z.1 m) < (Z.1 m) then (Z.2.2 (2 * m + 1)) y else -1 : Int32)).toInt64) fd), rfl, ?_⟩
    refine j_istore F 6 [(6, .int 0), (5, .int (nI (6 * t))), (0, .ref bS), (1, .ref (ad 0)), (2, .ref (ae 0)), (3, .ref o), (4, .ref oD)] dL_law_275 (by decide) rfl ?_
    refine j_aload_n F 4 dL_law_277 rfl ?_
    refine j_aload_n F 2 dL_law_278 rfl ?_
    refine j_iload F 1 dL_law_279 rfl ?_
    refine j_iconst F (v := 1) dL_law_281 (by decide) ?_
    refine j_iadd F dL_law_282 ?_
    refine j_top (nI (6 * t + 1)) (nI_add _ _) ?_
    refine j_sld F hXb hbl hbA hL (6 * t + 1) (by omega) dL_law_283 ?_
    refine j_top (nI m) hx1.symm ?_
    refine j_aload_n F 2 dL_law_284 rfl ?_
    refine j_iload F 1 dL_law_285 rfl ?_
    refine j_iconst F (v := 2) dL_law_287 (by decide) ?_
    refine j_iadd F dL_law_288 ?_
    refine j_top (nI (6 * t + 2)) (nI_add _ _) ?_
    refine j_sld F hXb hbl hbA hL (6 * t + 2) (by omega) dL_law_289 ?_
    refine j_top (nI y) hx2.symm ?_
    refine j_aload_n F 2 dL_law_290 rfl ?_
    refine j_iload F 1 dL_law_291 rfl ?_
    refine j_iconst F (v := 3) dL_law_293 (by decide) ?_
    refine j_iadd F dL_law_294 ?_
    refine j_top (nI (6 * t + 3)) (nI_add _ _) ?_
    refine j_sld F hXb hbl hbA hL (6 * t + 3) (by omega) dL_law_295 ?_
    refine j_top (nI z) hx3.symm ?_
    refine j_scallV F kL_139 (As := [.int (nI m), .int (nI y), .int (nI z)]) (rest := []) (c_X10_put_ok l D ay ae vi ga Z m y z hG (by first | assumption | exact ⟨‹_›, ‹_›⟩ | omega) (by first | assumption | exact ⟨‹_›, ‹_›⟩ | omega) (by first | assumption | exact ⟨‹_›, ‹_›⟩ | omega)) 57 57 20 rfl rfl rfl rfl rfl rfl ⟨hk.1, hk.2⟩ dL_law_296 (fun v w hw => ?_)
    obtain ⟨vi1, ga1, hG1, hc1, rfl, rfl⟩ := hw
    refine ⟨rfl, (LW ay ad ae o oD (mU Z m (stN (Z.2.2 (2 * m)) (Z.1 m) (nI y) (Z.1 (12 + m))) (stF (Z.2.2 (2 * m)) (Z.1 m) (nI y) (Z.1 (12 + m))) 0 (Z.2.1 (2 + 5 * m)) (Z.2.1 (3 + 5 * m)) (upd (Z.2.2 (2 * m + 1)) y (nI z)) (Z.1 (12 + m)) (if usN (Z.2.2 (2 * m)) (Z.1 m) (nI y) ≤ (Z.1 (12 + m)) then (Z.2.1 (4 + 5 * m)) else (Z.2.1 (4 + 5 * m)) + 1) (if usN (Z.2.2 (2 * m)) (Z.1 m) (nI y) ≤ (Z.1 (12 + m)) then (Z.2.1 (5 + 5 * m)) else usF (Z.2.2 (2 * m)) (Z.1 m) (nI y) 0)) vi1 ga1 (vp_updL fo 0 ((if fx (Z.2.2 (2 * m)) (nI y) (Z.1 m) < (Z.1 m) then (Z.2.2 (2 * m + 1)) y else -1 : Int32)).toInt64) fd), rfl, ?_⟩
    refine j_top (if fx (Z.2.2 (2 * m)) (nI y) (Z.1 m) < (Z.1 m) then (Z.2.2 (2 * m + 1)) y else -1) rfl ?_
    refine j_istore F 7 [(7, .int (if fx (Z.2.2 (2 * m)) (nI y) (Z.1 m) < (Z.1 m) then (Z.2.2 (2 * m + 1)) y else -1)), (6, .int 0), (5, .int (nI (6 * t))), (0, .ref bS), (1, .ref (ad 0)), (2, .ref (ae 0)), (3, .ref o), (4, .ref oD)] dL_law_299 (by decide) rfl ?_
    refine j_aload_n F 5 dL_law_301 rfl ?_
    refine j_scallV F kL_140 (As := []) (rest := []) (c_X10_thrown l D ay ae vi1 ga1) 57 57 20 rfl rfl rfl rfl rfl rfl ⟨hk.1, hk.2⟩ dL_law_302 (fun v w hw => ?_)
    obtain ⟨rfl, rfl⟩ := hw
    refine ⟨rfl, (LW ay ad ae o oD (mU Z m (stN (Z.2.2 (2 * m)) (Z.1 m) (nI y) (Z.1 (12 + m))) (stF (Z.2.2 (2 * m)) (Z.1 m) (nI y) (Z.1 (12 + m))) 0 (Z.2.1 (2 + 5 * m)) (Z.2.1 (3 + 5 * m)) (upd (Z.2.2 (2 * m + 1)) y (nI z)) (Z.1 (12 + m)) (if usN (Z.2.2 (2 * m)) (Z.1 m) (nI y) ≤ (Z.1 (12 + m)) then (Z.2.1 (4 + 5 * m)) else (Z.2.1 (4 + 5 * m)) + 1) (if usN (Z.2.2 (2 * m)) (Z.1 m) (nI y) ≤ (Z.1 (12 + m)) then (Z.2.1 (5 + 5 * m)) else usF (Z.2.2 (2 * m)) (Z.1 m) (nI y) 0)) vi1 ga1 (vp_updL fo 0 ((if fx (Z.2.2 (2 * m)) (nI y) (Z.1 m) < (Z.1 m) then (Z.2.2 (2 * m + 1)) y else -1 : Int32)).toInt64) fd), rfl, ?_⟩
    refine j_top 0 hc1 ?_
    refine j_iload F 1 dL_law_305 rfl ?_
    refine j_icmp_eq F 312 dL_law_307 (by decide) (fun c_307 => ?_) (fun c_307 => absurd (by decide) c_307)
    refine j_iload F 1 dL_law_312 rfl ?_
    refine j_if_ne F 329 dL_law_314 (by decide) (fun c_314 => absurd (by decide) c_314) (fun c_314 => ?_)
    refine j_aload_n F 6 dL_law_317 rfl ?_
    refine j_iconst F (v := 0) dL_law_318 (by decide) ?_
    refine j_lald F 56 0 (f := vp_updL fo 0 ((if fx (Z.2.2 (2 * m)) (nI y) (Z.1 m) < (Z.1 m) then (Z.2.2 (2 * m + 1)) y else -1 : Int32)).toInt64) rfl rfl (by decide) (Nat.le_of_ble_eq_true rfl) dL_law_319 ?_
    refine j_iload F 0 dL_law_320 rfl ?_
    refine j_i2l F dL_law_322 ?_
    refine j_lcmp F dL_law_323 ?_
    refine j_top 0 (lg_self _) ?_
    refine j_if_eq F 329 dL_law_324 (by decide) (fun c_324 => ?_) (fun c_324 => absurd (by decide) c_324)
    refine j_goto F 2682 dL_law_329 (by decide) ?_
    refine j_sub [2, 3, 4, 5, 6, 7] [(5, .int (nI (6 * t))), (0, .ref bS), (1, .ref (ad 0)), (2, .ref (ae 0)), (3, .ref o), (4, .ref oD)] rfl ?_
    exact kk (mU Z m (stN (Z.2.2 (2 * m)) (Z.1 m) (nI y) (Z.1 (12 + m))) (stF (Z.2.2 (2 * m)) (Z.1 m) (nI y) (Z.1 (12 + m))) 0 (Z.2.1 (2 + 5 * m)) (Z.2.1 (3 + 5 * m)) (upd (Z.2.2 (2 * m + 1)) y (nI z)) (Z.1 (12 + m)) (if usN (Z.2.2 (2 * m)) (Z.1 m) (nI y) ≤ (Z.1 (12 + m)) then (Z.2.1 (4 + 5 * m)) else (Z.2.1 (4 + 5 * m)) + 1) (if usN (Z.2.2 (2 * m)) (Z.1 m) (nI y) ≤ (Z.1 (12 + m)) then (Z.2.1 (5 + 5 * m)) else usF (Z.2.2 (2 * m)) (Z.1 m) (nI y) 0)) vi1 ga1 (vp_updL fo 0 ((if fx (Z.2.2 (2 * m)) (nI y) (Z.1 m) < (Z.1 m) then (Z.2.2 (2 * m + 1)) y else -1 : Int32)).toInt64) fd hG1
  · skip
    refine ⟨rfl, (LW ay ad ae o oD Z vi ga fo fd), rfl, ?_⟩
    refine j_istore F 6 [(6, .int 1), (5, .int (nI (6 * t))), (0, .ref bS), (1, .ref (ad 0)), (2, .ref (ae 0)), (3, .ref o), (4, .ref oD)] dL_law_275 (by decide) rfl ?_
    refine j_aload_n F 4 dL_law_277 rfl ?_
    refine j_aload_n F 2 dL_law_278 rfl ?_
    refine j_iload F 1 dL_law_279 rfl ?_
    refine j_iconst F (v := 1) dL_law_281 (by decide) ?_
    refine j_iadd F dL_law_282 ?_
    refine j_top (nI (6 * t + 1)) (nI_add _ _) ?_
    refine j_sld F hXb hbl hbA hL (6 * t + 1) (by omega) dL_law_283 ?_
    refine j_top x1 hx1.symm ?_
    refine j_aload_n F 2 dL_law_284 rfl ?_
    refine j_iload F 1 dL_law_285 rfl ?_
    refine j_iconst F (v := 2) dL_law_287 (by decide) ?_
    refine j_iadd F dL_law_288 ?_
    refine j_top (nI (6 * t + 2)) (nI_add _ _) ?_
    refine j_sld F hXb hbl hbA hL (6 * t + 2) (by omega) dL_law_289 ?_
    refine j_top x2 hx2.symm ?_
    refine j_aload_n F 2 dL_law_290 rfl ?_
    refine j_iload F 1 dL_law_291 rfl ?_
    refine j_iconst F (v := 3) dL_law_293 (by decide) ?_
    refine j_iadd F dL_law_294 ?_
    refine j_top (nI (6 * t + 3)) (nI_add _ _) ?_
    refine j_sld F hXb hbl hbA hL (6 * t + 3) (by omega) dL_law_295 ?_
    refine j_top x3 hx3.symm ?_
    refine j_scallV F kL_139 (As := [.int x1, .int x2, .int x3]) (rest := []) (c_X10_put_no l D ay ae vi ga Z x1 x2 x3 hG (by first | assumption | exact ⟨‹_›, ‹_›⟩ | omega)) 57 57 20 rfl rfl rfl rfl rfl rfl ⟨hk.1, hk.2⟩ dL_law_296 (fun v w hw => ?_)
    obtain ⟨vi1, ga1, hG1, hc1, rfl, rfl⟩ := hw
    refine ⟨rfl, (LW ay ad ae o oD Z vi1 ga1 fo fd), rfl, ?_⟩
    refine j_top 0 rfl ?_
    refine j_istore F 7 [(7, .int 0), (6, .int 1), (5, .int (nI (6 * t))), (0, .ref bS), (1, .ref (ad 0)), (2, .ref (ae 0)), (3, .ref o), (4, .ref oD)] dL_law_299 (by decide) rfl ?_
    refine j_aload_n F 5 dL_law_301 rfl ?_
    refine j_scallV F kL_140 (As := []) (rest := []) (c_X10_thrown l D ay ae vi1 ga1) 57 57 20 rfl rfl rfl rfl rfl rfl ⟨hk.1, hk.2⟩ dL_law_302 (fun v w hw => ?_)
    obtain ⟨rfl, rfl⟩ := hw
    refine ⟨rfl, (LW ay ad ae o oD Z vi1 ga1 fo fd), rfl, ?_⟩
    refine j_top 1 hc1 ?_
    refine j_iload F 1 dL_law_305 rfl ?_
    refine j_icmp_eq F 312 dL_law_307 (by decide) (fun c_307 => ?_) (fun c_307 => absurd (by decide) c_307)
    refine j_iload F 1 dL_law_312 rfl ?_
    refine j_if_ne F 329 dL_law_314 (by decide) (fun c_314 => ?_) (fun c_314 => absurd c_314 (by decide))
    refine j_goto F 2682 dL_law_329 (by decide) ?_
    refine j_sub [2, 3, 4, 5, 6, 7] [(5, .int (nI (6 * t))), (0, .ref bS), (1, .ref (ad 0)), (2, .ref (ae 0)), (3, .ref o), (4, .ref oD)] rfl ?_
    exact kk Z vi1 ga1 fo fd hG1

set_option maxHeartbeats 4000000 in
set_option maxRecDepth 100000 in
theorem case_1 (l : Launch) (hfl : l.stackTraces = false) (D : va_G) (ay : Nat → ClassId) (sa : Nat → Nat) (ad ae : Nat → Nat) (o oD bS L : Nat) (xs : Nat → Int32) {p9 : Program} {e9 : Env} {s9 : State} {m9 : MethodId} {a9 : Array Value} {b9 : List Frame} {me9 : Method} {c9 : Code} {A9 : Nat → Prop} {Q9 : State → Prop} (F : jF p9 s9 m9 a9 me9 c9 cL_law 10 RL (some .boolean) D ay A9) (hX : jX sa A9 s9 s9.heap) (hN : jN s9) (hXb : va_X bS L xs s9 s9.heap) (hbl : bS < s9.heap.size) (hbA : ¬ A9 bS) (k n : Nat) (hk : k + 3 ≤ room_1.cells ∧ n + 18 ≤ room_1.slots) (t : Nat) (ht : 6 * t + 6 ≤ L) (hL : L ≤ 3072) (Z : DS) (vi : Nat → Int32) (ga : Nat → Nat → Int32) (fo : Nat → Int64) (fd : Nat → UInt64) (hG : GI Z vi ga) (kk : ∀ (Z' : DS) (vi' : Nat → Int32) (ga' : Nat → Nat → Int32) (fo' : Nat → Int64) (fd' : Nat → UInt64), GI Z' vi' ga' → jJ p9 l e9 room_1 s9 m9 a9 b9 me9 c9 Q9 D A9 10 (k + 3) (n + 18) (LW ay ad ae o oD Z' vi' ga' fo' fd') 2682 [(5, .int (nI (6 * t))), (0, .ref bS), (1, .ref (ad 0)), (2, .ref (ae 0)), (3, .ref o), (4, .ref oD)] []) : jJ p9 l e9 room_1 s9 m9 a9 b9 me9 c9 Q9 D A9 10 k n (LW ay ad ae o oD Z vi ga fo fd) 332 [(5, .int (nI (6 * t))), (0, .ref bS), (1, .ref (ad 0)), (2, .ref (ae 0)), (3, .ref o), (4, .ref oD)] [] := by
  obtain ⟨x1, hx1⟩ : ∃ y, y = xs (6 * t + 1) := ⟨_, rfl⟩
  obtain ⟨x2, hx2⟩ : ∃ y, y = xs (6 * t + 2) := ⟨_, rfl⟩
  obtain ⟨x3, hx3⟩ : ∃ y, y = xs (6 * t + 3) := ⟨_, rfl⟩
  refine j_aload_n F 2 dL_law_332 rfl ?_
  refine j_aload_n F 1 dL_law_333 rfl ?_
  refine j_iload F 0 dL_law_334 rfl ?_
  refine j_iconst F (v := 1) dL_law_336 (by decide) ?_
  refine j_iadd F dL_law_337 ?_
  refine j_top (nI (6 * t + 1)) (nI_add _ _) ?_
  refine j_sld F hXb hbl hbA hL (6 * t + 1) (by omega) dL_law_338 ?_
  refine j_top x1 hx1.symm ?_
  refine j_aload_n F 1 dL_law_339 rfl ?_
  refine j_iload F 0 dL_law_340 rfl ?_
  refine j_iconst F (v := 2) dL_law_342 (by decide) ?_
  refine j_iadd F dL_law_343 ?_
  refine j_top (nI (6 * t + 2)) (nI_add _ _) ?_
  refine j_sld F hXb hbl hbA hL (6 * t + 2) (by omega) dL_law_344 ?_
  refine j_top x2 hx2.symm ?_
  refine j_aload_n F 1 dL_law_345 rfl ?_
  refine j_iload F 0 dL_law_346 rfl ?_
  refine j_iconst F (v := 3) dL_law_348 (by decide) ?_
  refine j_iadd F dL_law_349 ?_
  refine j_top (nI (6 * t + 3)) (nI_add _ _) ?_
  refine j_sld F hXb hbl hbA hL (6 * t + 3) (by omega) dL_law_350 ?_
  refine j_top x3 hx3.symm ?_
  refine j_aload_n F 4 dL_law_351 rfl ?_
  refine j_hcallS F hX hN kL_143 (As := [.ref (ad 0), .int x1, .int x2, .int x3, .ref o]) (rest := []) (h_putIfAbsent l hfl D ay sa ad Z x1 x2 x3 o fo (fun m hm => (hG.1 m hm).1)) 1 56 rfl rfl rfl rfl rfl ⟨hk.1, hk.2⟩ dL_law_352 (fun v w hw => ?_)
  rcases hw with ⟨m, y, z, g0, g1, g2, rfl, rfl, rfl, rfl, rfl⟩ | ⟨g0, rfl, rfl⟩
  · skip
    refine ⟨rfl, (LW ay ad ae o oD (mU Z m (stN (Z.2.2 (2 * m)) (Z.1 m) (nI y) (Z.1 (12 + m))) (stF (Z.2.2 (2 * m)) (Z.1 m) (nI y) (Z.1 (12 + m))) 0 (Z.2.1 (2 + 5 * m)) (Z.2.1 (3 + 5 * m)) (upd (Z.2.2 (2 * m + 1)) y (if fx (Z.2.2 (2 * m)) (nI y) (Z.1 m) < (Z.1 m) then (Z.2.2 (2 * m + 1)) y else (nI z))) (Z.1 (12 + m)) (if usN (Z.2.2 (2 * m)) (Z.1 m) (nI y) ≤ (Z.1 (12 + m)) then (Z.2.1 (4 + 5 * m)) else (Z.2.1 (4 + 5 * m)) + 1) (if usN (Z.2.2 (2 * m)) (Z.1 m) (nI y) ≤ (Z.1 (12 + m)) then (Z.2.1 (5 + 5 * m)) else usF (Z.2.2 (2 * m)) (Z.1 m) (nI y) 0)) vi ga (vp_updL fo 0 ((if fx (Z.2.2 (2 * m)) (nI y) (Z.1 m) < (Z.1 m) then (Z.2.2 (2 * m + 1)) y else -1 : Int32)).toInt64) fd), rfl, ?_⟩
    refine j_istore F 6 [(6, .int 0), (5, .int (nI (6 * t))), (0, .ref bS), (1, .ref (ad 0)), (2, .ref (ae 0)), (3, .ref o), (4, .ref oD)] dL_law_355 (by decide) rfl ?_
    refine j_aload_n F 4 dL_law_357 rfl ?_
    refine j_aload_n F 2 dL_law_358 rfl ?_
    refine j_iload F 1 dL_law_359 rfl ?_
    refine j_iconst F (v := 1) dL_law_361 (by decide) ?_
    refine j_iadd F dL_law_362 ?_
    refine j_top (nI (6 * t + 1)) (nI_add _ _) ?_
    refine j_sld F hXb hbl hbA hL (6 * t + 1) (by omega) dL_law_363 ?_
    refine j_top (nI m) hx1.symm ?_
    refine j_aload_n F 2 dL_law_364 rfl ?_
    refine j_iload F 1 dL_law_365 rfl ?_
    refine j_iconst F (v := 2) dL_law_367 (by decide) ?_
    refine j_iadd F dL_law_368 ?_
    refine j_top (nI (6 * t + 2)) (nI_add _ _) ?_
    refine j_sld F hXb hbl hbA hL (6 * t + 2) (by omega) dL_law_369 ?_
    refine j_top (nI y) hx2.symm ?_
    refine j_aload_n F 2 dL_law_370 rfl ?_
    refine j_iload F 1 dL_law_371 rfl ?_
    refine j_iconst F (v := 3) dL_law_373 (by decide) ?_
    refine j_iadd F dL_law_374 ?_
    refine j_top (nI (6 * t + 3)) (nI_add _ _) ?_
    refine j_sld F hXb hbl hbA hL (6 * t + 3) (by omega) dL_law_375 ?_
    refine j_top (nI z) hx3.symm ?_
    refine j_scallV F kL_145 (As := [.int (nI m), .int (nI y), .int (nI z)]) (rest := []) (c_X10_putIfAbsent_ok l D ay ae vi ga Z m y z hG (by first | assumption | exact ⟨‹_›, ‹_›⟩ | omega) (by first | assumption | exact ⟨‹_›, ‹_›⟩ | omega) (by first | assumption | exact ⟨‹_›, ‹_›⟩ | omega)) 57 57 20 rfl rfl rfl rfl rfl rfl ⟨hk.1, hk.2⟩ dL_law_376 (fun v w hw => ?_)
    obtain ⟨vi1, ga1, hG1, hc1, rfl, rfl⟩ := hw
    refine ⟨rfl, (LW ay ad ae o oD (mU Z m (stN (Z.2.2 (2 * m)) (Z.1 m) (nI y) (Z.1 (12 + m))) (stF (Z.2.2 (2 * m)) (Z.1 m) (nI y) (Z.1 (12 + m))) 0 (Z.2.1 (2 + 5 * m)) (Z.2.1 (3 + 5 * m)) (upd (Z.2.2 (2 * m + 1)) y (if fx (Z.2.2 (2 * m)) (nI y) (Z.1 m) < (Z.1 m) then (Z.2.2 (2 * m + 1)) y else (nI z))) (Z.1 (12 + m)) (if usN (Z.2.2 (2 * m)) (Z.1 m) (nI y) ≤ (Z.1 (12 + m)) then (Z.2.1 (4 + 5 * m)) else (Z.2.1 (4 + 5 * m)) + 1) (if usN (Z.2.2 (2 * m)) (Z.1 m) (nI y) ≤ (Z.1 (12 + m)) then (Z.2.1 (5 + 5 * m)) else usF (Z.2.2 (2 * m)) (Z.1 m) (nI y) 0)) vi1 ga1 (vp_updL fo 0 ((if fx (Z.2.2 (2 * m)) (nI y) (Z.1 m) < (Z.1 m) then (Z.2.2 (2 * m + 1)) y else -1 : Int32)).toInt64) fd), rfl, ?_⟩
    refine j_top (if fx (Z.2.2 (2 * m)) (nI y) (Z.1 m) < (Z.1 m) then (Z.2.2 (2 * m + 1)) y else -1) rfl ?_
    refine j_istore F 7 [(7, .int (if fx (Z.2.2 (2 * m)) (nI y) (Z.1 m) < (Z.1 m) then (Z.2.2 (2 * m + 1)) y else -1)), (6, .int 0), (5, .int (nI (6 * t))), (0, .ref bS), (1, .ref (ad 0)), (2, .ref (ae 0)), (3, .ref o), (4, .ref oD)] dL_law_379 (by decide) rfl ?_
    refine j_aload_n F 5 dL_law_381 rfl ?_
    refine j_scallV F kL_140 (As := []) (rest := []) (c_X10_thrown l D ay ae vi1 ga1) 57 57 20 rfl rfl rfl rfl rfl rfl ⟨hk.1, hk.2⟩ dL_law_382 (fun v w hw => ?_)
    obtain ⟨rfl, rfl⟩ := hw
    refine ⟨rfl, (LW ay ad ae o oD (mU Z m (stN (Z.2.2 (2 * m)) (Z.1 m) (nI y) (Z.1 (12 + m))) (stF (Z.2.2 (2 * m)) (Z.1 m) (nI y) (Z.1 (12 + m))) 0 (Z.2.1 (2 + 5 * m)) (Z.2.1 (3 + 5 * m)) (upd (Z.2.2 (2 * m + 1)) y (if fx (Z.2.2 (2 * m)) (nI y) (Z.1 m) < (Z.1 m) then (Z.2.2 (2 * m + 1)) y else (nI z))) (Z.1 (12 + m)) (if usN (Z.2.2 (2 * m)) (Z.1 m) (nI y) ≤ (Z.1 (12 + m)) then (Z.2.1 (4 + 5 * m)) else (Z.2.1 (4 + 5 * m)) + 1) (if usN (Z.2.2 (2 * m)) (Z.1 m) (nI y) ≤ (Z.1 (12 + m)) then (Z.2.1 (5 + 5 * m)) else usF (Z.2.2 (2 * m)) (Z.1 m) (nI y) 0)) vi1 ga1 (vp_updL fo 0 ((if fx (Z.2.2 (2 * m)) (nI y) (Z.1 m) < (Z.1 m) then (Z.2.2 (2 * m + 1)) y else -1 : Int32)).toInt64) fd), rfl, ?_⟩
    refine j_top 0 hc1 ?_
    refine j_iload F 1 dL_law_385 rfl ?_
    refine j_icmp_eq F 392 dL_law_387 (by decide) (fun c_387 => ?_) (fun c_387 => absurd (by decide) c_387)
    refine j_iload F 1 dL_law_392 rfl ?_
    refine j_if_ne F 409 dL_law_394 (by decide) (fun c_394 => absurd (by decide) c_394) (fun c_394 => ?_)
    refine j_aload_n F 6 dL_law_397 rfl ?_
    refine j_iconst F (v := 0) dL_law_398 (by decide) ?_
    refine j_lald F 56 0 (f := vp_updL fo 0 ((if fx (Z.2.2 (2 * m)) (nI y) (Z.1 m) < (Z.1 m) then (Z.2.2 (2 * m + 1)) y else -1 : Int32)).toInt64) rfl rfl (by decide) (Nat.le_of_ble_eq_true rfl) dL_law_399 ?_
    refine j_iload F 0 dL_law_400 rfl ?_
    refine j_i2l F dL_law_402 ?_
    refine j_lcmp F dL_law_403 ?_
    refine j_top 0 (lg_self _) ?_
    refine j_if_eq F 409 dL_law_404 (by decide) (fun c_404 => ?_) (fun c_404 => absurd (by decide) c_404)
    refine j_goto F 2682 dL_law_409 (by decide) ?_
    refine j_sub [2, 3, 4, 5, 6, 7] [(5, .int (nI (6 * t))), (0, .ref bS), (1, .ref (ad 0)), (2, .ref (ae 0)), (3, .ref o), (4, .ref oD)] rfl ?_
    exact kk (mU Z m (stN (Z.2.2 (2 * m)) (Z.1 m) (nI y) (Z.1 (12 + m))) (stF (Z.2.2 (2 * m)) (Z.1 m) (nI y) (Z.1 (12 + m))) 0 (Z.2.1 (2 + 5 * m)) (Z.2.1 (3 + 5 * m)) (upd (Z.2.2 (2 * m + 1)) y (if fx (Z.2.2 (2 * m)) (nI y) (Z.1 m) < (Z.1 m) then (Z.2.2 (2 * m + 1)) y else (nI z))) (Z.1 (12 + m)) (if usN (Z.2.2 (2 * m)) (Z.1 m) (nI y) ≤ (Z.1 (12 + m)) then (Z.2.1 (4 + 5 * m)) else (Z.2.1 (4 + 5 * m)) + 1) (if usN (Z.2.2 (2 * m)) (Z.1 m) (nI y) ≤ (Z.1 (12 + m)) then (Z.2.1 (5 + 5 * m)) else usF (Z.2.2 (2 * m)) (Z.1 m) (nI y) 0)) vi1 ga1 (vp_updL fo 0 ((if fx (Z.2.2 (2 * m)) (nI y) (Z.1 m) < (Z.1 m) then (Z.2.2 (2 * m + 1)) y else -1 : Int32)).toInt64) fd hG1
  · skip
    refine ⟨rfl, (LW ay ad ae o oD Z vi ga fo fd), rfl, ?_⟩
    refine j_istore F 6 [(6, .int 1), (5, .int (nI (6 * t))), (0, .ref bS), (1, .ref (ad 0)), (2, .ref (ae 0)), (3, .ref o), (4, .ref oD)] dL_law_355 (by decide) rfl ?_
    refine j_aload_n F 4 dL_law_357 rfl ?_
    refine j_aload_n F 2 dL_law_358 rfl ?_
    refine j_iload F 1 dL_law_359 rfl ?_
    refine j_iconst F (v := 1) dL_law_361 (by decide) ?_
    refine j_iadd F dL_law_362 ?_
    refine j_top (nI (6 * t + 1)) (nI_add _ _) ?_
    refine j_sld F hXb hbl hbA hL (6 * t + 1) (by omega) dL_law_363 ?_
    refine j_top x1 hx1.symm ?_
    refine j_aload_n F 2 dL_law_364 rfl ?_
    refine j_iload F 1 dL_law_365 rfl ?_
    refine j_iconst F (v := 2) dL_law_367 (by decide) ?_
    refine j_iadd F dL_law_368 ?_
    refine j_top (nI (6 * t + 2)) (nI_add _ _) ?_
    refine j_sld F hXb hbl hbA hL (6 * t + 2) (by omega) dL_law_369 ?_
    refine j_top x2 hx2.symm ?_
    refine j_aload_n F 2 dL_law_370 rfl ?_
    refine j_iload F 1 dL_law_371 rfl ?_
    refine j_iconst F (v := 3) dL_law_373 (by decide) ?_
    refine j_iadd F dL_law_374 ?_
    refine j_top (nI (6 * t + 3)) (nI_add _ _) ?_
    refine j_sld F hXb hbl hbA hL (6 * t + 3) (by omega) dL_law_375 ?_
    refine j_top x3 hx3.symm ?_
    refine j_scallV F kL_145 (As := [.int x1, .int x2, .int x3]) (rest := []) (c_X10_putIfAbsent_no l D ay ae vi ga Z x1 x2 x3 hG (by first | assumption | exact ⟨‹_›, ‹_›⟩ | omega)) 57 57 20 rfl rfl rfl rfl rfl rfl ⟨hk.1, hk.2⟩ dL_law_376 (fun v w hw => ?_)
    obtain ⟨vi1, ga1, hG1, hc1, rfl, rfl⟩ := hw
    refine ⟨rfl, (LW ay ad ae o oD Z vi1 ga1 fo fd), rfl, ?_⟩
    refine j_top 0 rfl ?_
    refine j_istore F 7 [(7, .int 0), (6, .int 1), (5, .int (nI (6 * t))), (0, .ref bS), (1, .ref (ad 0)), (2, .ref (ae 0)), (3, .ref o), (4, .ref oD)] dL_law_379 (by decide) rfl ?_
    refine j_aload_n F 5 dL_law_381 rfl ?_
    refine j_scallV F kL_140 (As := []) (rest := []) (c_X10_thrown l D ay ae vi1 ga1) 57 57 20 rfl rfl rfl rfl rfl rfl ⟨hk.1, hk.2⟩ dL_law_382 (fun v w hw => ?_)
    obtain ⟨rfl, rfl⟩ := hw
    refine ⟨rfl, (LW ay ad ae o oD Z vi1 ga1 fo fd), rfl, ?_⟩
    refine j_top 1 hc1 ?_
    refine j_iload F 1 dL_law_385 rfl ?_
    refine j_icmp_eq F 392 dL_law_387 (by decide) (fun c_387 => ?_) (fun c_387 => absurd (by decide) c_387)
    refine j_iload F 1 dL_law_392 rfl ?_
    refine j_if_ne F 409 dL_law_394 (by decide) (fun c_394 => ?_) (fun c_394 => absurd c_394 (by decide))
    refine j_goto F 2682 dL_law_409 (by decide) ?_
    refine j_sub [2, 3, 4, 5, 6, 7] [(5, .int (nI (6 * t))), (0, .ref bS), (1, .ref (ad 0)), (2, .ref (ae 0)), (3, .ref o), (4, .ref oD)] rfl ?_
    exact kk Z vi1 ga1 fo fd hG1

set_option maxHeartbeats 4000000 in
set_option maxRecDepth 100000 in
theorem case_2 (l : Launch) (hfl : l.stackTraces = false) (D : va_G) (ay : Nat → ClassId) (sa : Nat → Nat) (ad ae : Nat → Nat) (o oD bS L : Nat) (xs : Nat → Int32) {p9 : Program} {e9 : Env} {s9 : State} {m9 : MethodId} {a9 : Array Value} {b9 : List Frame} {me9 : Method} {c9 : Code} {A9 : Nat → Prop} {Q9 : State → Prop} (F : jF p9 s9 m9 a9 me9 c9 cL_law 10 RL (some .boolean) D ay A9) (hX : jX sa A9 s9 s9.heap) (hN : jN s9) (hXb : va_X bS L xs s9 s9.heap) (hbl : bS < s9.heap.size) (hbA : ¬ A9 bS) (k n : Nat) (hk : k + 3 ≤ room_1.cells ∧ n + 18 ≤ room_1.slots) (t : Nat) (ht : 6 * t + 6 ≤ L) (hL : L ≤ 3072) (Z : DS) (vi : Nat → Int32) (ga : Nat → Nat → Int32) (fo : Nat → Int64) (fd : Nat → UInt64) (hG : GI Z vi ga) (kk : ∀ (Z' : DS) (vi' : Nat → Int32) (ga' : Nat → Nat → Int32) (fo' : Nat → Int64) (fd' : Nat → UInt64), GI Z' vi' ga' → jJ p9 l e9 room_1 s9 m9 a9 b9 me9 c9 Q9 D A9 10 (k + 3) (n + 18) (LW ay ad ae o oD Z' vi' ga' fo' fd') 2682 [(5, .int (nI (6 * t))), (0, .ref bS), (1, .ref (ad 0)), (2, .ref (ae 0)), (3, .ref o), (4, .ref oD)] []) : jJ p9 l e9 room_1 s9 m9 a9 b9 me9 c9 Q9 D A9 10 k n (LW ay ad ae o oD Z vi ga fo fd) 412 [(5, .int (nI (6 * t))), (0, .ref bS), (1, .ref (ad 0)), (2, .ref (ae 0)), (3, .ref o), (4, .ref oD)] [] := by
  obtain ⟨x1, hx1⟩ : ∃ y, y = xs (6 * t + 1) := ⟨_, rfl⟩
  obtain ⟨x2, hx2⟩ : ∃ y, y = xs (6 * t + 2) := ⟨_, rfl⟩
  refine j_aload_n F 2 dL_law_412 rfl ?_
  refine j_aload_n F 1 dL_law_413 rfl ?_
  refine j_iload F 0 dL_law_414 rfl ?_
  refine j_iconst F (v := 1) dL_law_416 (by decide) ?_
  refine j_iadd F dL_law_417 ?_
  refine j_top (nI (6 * t + 1)) (nI_add _ _) ?_
  refine j_sld F hXb hbl hbA hL (6 * t + 1) (by omega) dL_law_418 ?_
  refine j_top x1 hx1.symm ?_
  refine j_aload_n F 1 dL_law_419 rfl ?_
  refine j_iload F 0 dL_law_420 rfl ?_
  refine j_iconst F (v := 2) dL_law_422 (by decide) ?_
  refine j_iadd F dL_law_423 ?_
  refine j_top (nI (6 * t + 2)) (nI_add _ _) ?_
  refine j_sld F hXb hbl hbA hL (6 * t + 2) (by omega) dL_law_424 ?_
  refine j_top x2 hx2.symm ?_
  refine j_aload_n F 4 dL_law_425 rfl ?_
  refine j_hcallS F hX hN kL_146 (As := [.ref (ad 0), .int x1, .int x2, .ref o]) (rest := []) (h_get l hfl D ay sa ad Z x1 x2 o fo (fun m hm => (hG.1 m hm).1)) 1 56 rfl rfl rfl rfl rfl ⟨hk.1, hk.2⟩ dL_law_426 (fun v w hw => ?_)
  rcases hw with ⟨m, y, g0, g1, rfl, rfl, rfl, rfl⟩ | ⟨g0, rfl, rfl⟩
  · skip
    refine ⟨rfl, (LW ay ad ae o oD (mU Z m (Z.1 m) (if fx (Z.2.2 (2 * m)) (nI y) (Z.1 m) < (Z.1 m) then usF (Z.2.2 (2 * m)) (Z.1 m) (nI y) else (Z.2.2 (2 * m))) 0 (Z.2.1 (2 + 5 * m)) (Z.2.1 (3 + 5 * m)) (Z.2.2 (2 * m + 1)) (Z.1 (12 + m)) (Z.2.1 (4 + 5 * m)) (Z.2.1 (5 + 5 * m))) vi ga (vp_updL fo 0 ((if fx (Z.2.2 (2 * m)) (nI y) (Z.1 m) < (Z.1 m) then (Z.2.2 (2 * m + 1)) y else -1 : Int32)).toInt64) fd), rfl, ?_⟩
    refine j_istore F 6 [(6, .int 0), (5, .int (nI (6 * t))), (0, .ref bS), (1, .ref (ad 0)), (2, .ref (ae 0)), (3, .ref o), (4, .ref oD)] dL_law_429 (by decide) rfl ?_
    refine j_aload_n F 4 dL_law_431 rfl ?_
    refine j_aload_n F 2 dL_law_432 rfl ?_
    refine j_iload F 1 dL_law_433 rfl ?_
    refine j_iconst F (v := 1) dL_law_435 (by decide) ?_
    refine j_iadd F dL_law_436 ?_
    refine j_top (nI (6 * t + 1)) (nI_add _ _) ?_
    refine j_sld F hXb hbl hbA hL (6 * t + 1) (by omega) dL_law_437 ?_
    refine j_top (nI m) hx1.symm ?_
    refine j_aload_n F 2 dL_law_438 rfl ?_
    refine j_iload F 1 dL_law_439 rfl ?_
    refine j_iconst F (v := 2) dL_law_441 (by decide) ?_
    refine j_iadd F dL_law_442 ?_
    refine j_top (nI (6 * t + 2)) (nI_add _ _) ?_
    refine j_sld F hXb hbl hbA hL (6 * t + 2) (by omega) dL_law_443 ?_
    refine j_top (nI y) hx2.symm ?_
    refine j_scallV F kL_149 (As := [.int (nI m), .int (nI y)]) (rest := []) (c_X10_get_ok l D ay ae vi ga Z m y hG (by first | assumption | exact ⟨‹_›, ‹_›⟩ | omega) (by first | assumption | exact ⟨‹_›, ‹_›⟩ | omega)) 57 57 20 rfl rfl rfl rfl rfl rfl ⟨hk.1, hk.2⟩ dL_law_444 (fun v w hw => ?_)
    obtain ⟨vi1, ga1, hG1, hc1, rfl, rfl⟩ := hw
    refine ⟨rfl, (LW ay ad ae o oD (mU Z m (Z.1 m) (if fx (Z.2.2 (2 * m)) (nI y) (Z.1 m) < (Z.1 m) then usF (Z.2.2 (2 * m)) (Z.1 m) (nI y) else (Z.2.2 (2 * m))) 0 (Z.2.1 (2 + 5 * m)) (Z.2.1 (3 + 5 * m)) (Z.2.2 (2 * m + 1)) (Z.1 (12 + m)) (Z.2.1 (4 + 5 * m)) (Z.2.1 (5 + 5 * m))) vi1 ga1 (vp_updL fo 0 ((if fx (Z.2.2 (2 * m)) (nI y) (Z.1 m) < (Z.1 m) then (Z.2.2 (2 * m + 1)) y else -1 : Int32)).toInt64) fd), rfl, ?_⟩
    refine j_top (if fx (Z.2.2 (2 * m)) (nI y) (Z.1 m) < (Z.1 m) then (Z.2.2 (2 * m + 1)) y else -1) rfl ?_
    refine j_istore F 7 [(7, .int (if fx (Z.2.2 (2 * m)) (nI y) (Z.1 m) < (Z.1 m) then (Z.2.2 (2 * m + 1)) y else -1)), (6, .int 0), (5, .int (nI (6 * t))), (0, .ref bS), (1, .ref (ad 0)), (2, .ref (ae 0)), (3, .ref o), (4, .ref oD)] dL_law_447 (by decide) rfl ?_
    refine j_aload_n F 5 dL_law_449 rfl ?_
    refine j_scallV F kL_140 (As := []) (rest := []) (c_X10_thrown l D ay ae vi1 ga1) 57 57 20 rfl rfl rfl rfl rfl rfl ⟨hk.1, hk.2⟩ dL_law_450 (fun v w hw => ?_)
    obtain ⟨rfl, rfl⟩ := hw
    refine ⟨rfl, (LW ay ad ae o oD (mU Z m (Z.1 m) (if fx (Z.2.2 (2 * m)) (nI y) (Z.1 m) < (Z.1 m) then usF (Z.2.2 (2 * m)) (Z.1 m) (nI y) else (Z.2.2 (2 * m))) 0 (Z.2.1 (2 + 5 * m)) (Z.2.1 (3 + 5 * m)) (Z.2.2 (2 * m + 1)) (Z.1 (12 + m)) (Z.2.1 (4 + 5 * m)) (Z.2.1 (5 + 5 * m))) vi1 ga1 (vp_updL fo 0 ((if fx (Z.2.2 (2 * m)) (nI y) (Z.1 m) < (Z.1 m) then (Z.2.2 (2 * m + 1)) y else -1 : Int32)).toInt64) fd), rfl, ?_⟩
    refine j_top 0 hc1 ?_
    refine j_iload F 1 dL_law_453 rfl ?_
    refine j_icmp_eq F 460 dL_law_455 (by decide) (fun c_455 => ?_) (fun c_455 => absurd (by decide) c_455)
    refine j_iload F 1 dL_law_460 rfl ?_
    refine j_if_ne F 477 dL_law_462 (by decide) (fun c_462 => absurd (by decide) c_462) (fun c_462 => ?_)
    refine j_aload_n F 6 dL_law_465 rfl ?_
    refine j_iconst F (v := 0) dL_law_466 (by decide) ?_
    refine j_lald F 56 0 (f := vp_updL fo 0 ((if fx (Z.2.2 (2 * m)) (nI y) (Z.1 m) < (Z.1 m) then (Z.2.2 (2 * m + 1)) y else -1 : Int32)).toInt64) rfl rfl (by decide) (Nat.le_of_ble_eq_true rfl) dL_law_467 ?_
    refine j_iload F 0 dL_law_468 rfl ?_
    refine j_i2l F dL_law_470 ?_
    refine j_lcmp F dL_law_471 ?_
    refine j_top 0 (lg_self _) ?_
    refine j_if_eq F 477 dL_law_472 (by decide) (fun c_472 => ?_) (fun c_472 => absurd (by decide) c_472)
    refine j_goto F 2682 dL_law_477 (by decide) ?_
    refine j_sub [2, 3, 4, 5, 6, 7] [(5, .int (nI (6 * t))), (0, .ref bS), (1, .ref (ad 0)), (2, .ref (ae 0)), (3, .ref o), (4, .ref oD)] rfl ?_
    exact kk (mU Z m (Z.1 m) (if fx (Z.2.2 (2 * m)) (nI y) (Z.1 m) < (Z.1 m) then usF (Z.2.2 (2 * m)) (Z.1 m) (nI y) else (Z.2.2 (2 * m))) 0 (Z.2.1 (2 + 5 * m)) (Z.2.1 (3 + 5 * m)) (Z.2.2 (2 * m + 1)) (Z.1 (12 + m)) (Z.2.1 (4 + 5 * m)) (Z.2.1 (5 + 5 * m))) vi1 ga1 (vp_updL fo 0 ((if fx (Z.2.2 (2 * m)) (nI y) (Z.1 m) < (Z.1 m) then (Z.2.2 (2 * m + 1)) y else -1 : Int32)).toInt64) fd hG1
  · skip
    refine ⟨rfl, (LW ay ad ae o oD Z vi ga fo fd), rfl, ?_⟩
    refine j_istore F 6 [(6, .int 1), (5, .int (nI (6 * t))), (0, .ref bS), (1, .ref (ad 0)), (2, .ref (ae 0)), (3, .ref o), (4, .ref oD)] dL_law_429 (by decide) rfl ?_
    refine j_aload_n F 4 dL_law_431 rfl ?_
    refine j_aload_n F 2 dL_law_432 rfl ?_
    refine j_iload F 1 dL_law_433 rfl ?_
    refine j_iconst F (v := 1) dL_law_435 (by decide) ?_
    refine j_iadd F dL_law_436 ?_
    refine j_top (nI (6 * t + 1)) (nI_add _ _) ?_
    refine j_sld F hXb hbl hbA hL (6 * t + 1) (by omega) dL_law_437 ?_
    refine j_top x1 hx1.symm ?_
    refine j_aload_n F 2 dL_law_438 rfl ?_
    refine j_iload F 1 dL_law_439 rfl ?_
    refine j_iconst F (v := 2) dL_law_441 (by decide) ?_
    refine j_iadd F dL_law_442 ?_
    refine j_top (nI (6 * t + 2)) (nI_add _ _) ?_
    refine j_sld F hXb hbl hbA hL (6 * t + 2) (by omega) dL_law_443 ?_
    refine j_top x2 hx2.symm ?_
    refine j_scallV F kL_149 (As := [.int x1, .int x2]) (rest := []) (c_X10_get_no l D ay ae vi ga Z x1 x2 hG (by first | assumption | exact ⟨‹_›, ‹_›⟩ | omega)) 57 57 20 rfl rfl rfl rfl rfl rfl ⟨hk.1, hk.2⟩ dL_law_444 (fun v w hw => ?_)
    obtain ⟨vi1, ga1, hG1, hc1, rfl, rfl⟩ := hw
    refine ⟨rfl, (LW ay ad ae o oD Z vi1 ga1 fo fd), rfl, ?_⟩
    refine j_top 0 rfl ?_
    refine j_istore F 7 [(7, .int 0), (6, .int 1), (5, .int (nI (6 * t))), (0, .ref bS), (1, .ref (ad 0)), (2, .ref (ae 0)), (3, .ref o), (4, .ref oD)] dL_law_447 (by decide) rfl ?_
    refine j_aload_n F 5 dL_law_449 rfl ?_
    refine j_scallV F kL_140 (As := []) (rest := []) (c_X10_thrown l D ay ae vi1 ga1) 57 57 20 rfl rfl rfl rfl rfl rfl ⟨hk.1, hk.2⟩ dL_law_450 (fun v w hw => ?_)
    obtain ⟨rfl, rfl⟩ := hw
    refine ⟨rfl, (LW ay ad ae o oD Z vi1 ga1 fo fd), rfl, ?_⟩
    refine j_top 1 hc1 ?_
    refine j_iload F 1 dL_law_453 rfl ?_
    refine j_icmp_eq F 460 dL_law_455 (by decide) (fun c_455 => ?_) (fun c_455 => absurd (by decide) c_455)
    refine j_iload F 1 dL_law_460 rfl ?_
    refine j_if_ne F 477 dL_law_462 (by decide) (fun c_462 => ?_) (fun c_462 => absurd c_462 (by decide))
    refine j_goto F 2682 dL_law_477 (by decide) ?_
    refine j_sub [2, 3, 4, 5, 6, 7] [(5, .int (nI (6 * t))), (0, .ref bS), (1, .ref (ad 0)), (2, .ref (ae 0)), (3, .ref o), (4, .ref oD)] rfl ?_
    exact kk Z vi1 ga1 fo fd hG1

set_option maxHeartbeats 4000000 in
set_option maxRecDepth 100000 in
theorem case_3 (l : Launch) (hfl : l.stackTraces = false) (D : va_G) (ay : Nat → ClassId) (sa : Nat → Nat) (ad ae : Nat → Nat) (o oD bS L : Nat) (xs : Nat → Int32) {p9 : Program} {e9 : Env} {s9 : State} {m9 : MethodId} {a9 : Array Value} {b9 : List Frame} {me9 : Method} {c9 : Code} {A9 : Nat → Prop} {Q9 : State → Prop} (F : jF p9 s9 m9 a9 me9 c9 cL_law 10 RL (some .boolean) D ay A9) (hX : jX sa A9 s9 s9.heap) (hN : jN s9) (hXb : va_X bS L xs s9 s9.heap) (hbl : bS < s9.heap.size) (hbA : ¬ A9 bS) (k n : Nat) (hk : k + 3 ≤ room_1.cells ∧ n + 18 ≤ room_1.slots) (t : Nat) (ht : 6 * t + 6 ≤ L) (hL : L ≤ 3072) (Z : DS) (vi : Nat → Int32) (ga : Nat → Nat → Int32) (fo : Nat → Int64) (fd : Nat → UInt64) (hG : GI Z vi ga) (kk : ∀ (Z' : DS) (vi' : Nat → Int32) (ga' : Nat → Nat → Int32) (fo' : Nat → Int64) (fd' : Nat → UInt64), GI Z' vi' ga' → jJ p9 l e9 room_1 s9 m9 a9 b9 me9 c9 Q9 D A9 10 (k + 3) (n + 18) (LW ay ad ae o oD Z' vi' ga' fo' fd') 2682 [(5, .int (nI (6 * t))), (0, .ref bS), (1, .ref (ad 0)), (2, .ref (ae 0)), (3, .ref o), (4, .ref oD)] []) : jJ p9 l e9 room_1 s9 m9 a9 b9 me9 c9 Q9 D A9 10 k n (LW ay ad ae o oD Z vi ga fo fd) 480 [(5, .int (nI (6 * t))), (0, .ref bS), (1, .ref (ad 0)), (2, .ref (ae 0)), (3, .ref o), (4, .ref oD)] [] := by
  obtain ⟨x1, hx1⟩ : ∃ y, y = xs (6 * t + 1) := ⟨_, rfl⟩
  obtain ⟨x2, hx2⟩ : ∃ y, y = xs (6 * t + 2) := ⟨_, rfl⟩
  obtain ⟨x3, hx3⟩ : ∃ y, y = xs (6 * t + 3) := ⟨_, rfl⟩
  refine j_aload_n F 2 dL_law_480 rfl ?_
  refine j_aload_n F 1 dL_law_481 rfl ?_
  refine j_iload F 0 dL_law_482 rfl ?_
  refine j_iconst F (v := 1) dL_law_484 (by decide) ?_
  refine j_iadd F dL_law_485 ?_
  refine j_top (nI (6 * t + 1)) (nI_add _ _) ?_
  refine j_sld F hXb hbl hbA hL (6 * t + 1) (by omega) dL_law_486 ?_
  refine j_top x1 hx1.symm ?_
  refine j_aload_n F 1 dL_law_487 rfl ?_
  refine j_iload F 0 dL_law_488 rfl ?_
  refine j_iconst F (v := 2) dL_law_490 (by decide) ?_
  refine j_iadd F dL_law_491 ?_
  refine j_top (nI (6 * t + 2)) (nI_add _ _) ?_
  refine j_sld F hXb hbl hbA hL (6 * t + 2) (by omega) dL_law_492 ?_
  refine j_top x2 hx2.symm ?_
  refine j_aload_n F 1 dL_law_493 rfl ?_
  refine j_iload F 0 dL_law_494 rfl ?_
  refine j_iconst F (v := 3) dL_law_496 (by decide) ?_
  refine j_iadd F dL_law_497 ?_
  refine j_top (nI (6 * t + 3)) (nI_add _ _) ?_
  refine j_sld F hXb hbl hbA hL (6 * t + 3) (by omega) dL_law_498 ?_
  refine j_top x3 hx3.symm ?_
  refine j_aload_n F 4 dL_law_499 rfl ?_
  refine j_hcallS F hX hN kL_150 (As := [.ref (ad 0), .int x1, .int x2, .int x3, .ref o]) (rest := []) (h_getOrDefault l hfl D ay sa ad Z x1 x2 x3 o fo (fun m hm => (hG.1 m hm).1)) 1 56 rfl rfl rfl rfl rfl ⟨hk.1, hk.2⟩ dL_law_500 (fun v w hw => ?_)
  rcases hw with ⟨m, y, g0, g1, rfl, rfl, rfl, rfl⟩ | ⟨g0, rfl, rfl⟩
  · skip
    refine ⟨rfl, (LW ay ad ae o oD (mU Z m (Z.1 m) (if fx (Z.2.2 (2 * m)) (nI y) (Z.1 m) < (Z.1 m) then usF (Z.2.2 (2 * m)) (Z.1 m) (nI y) else (Z.2.2 (2 * m))) 0 (Z.2.1 (2 + 5 * m)) (Z.2.1 (3 + 5 * m)) (Z.2.2 (2 * m + 1)) (Z.1 (12 + m)) (Z.2.1 (4 + 5 * m)) (Z.2.1 (5 + 5 * m))) vi ga (vp_updL fo 0 ((if fx (Z.2.2 (2 * m)) (nI y) (Z.1 m) < Z.1 m then Z.2.2 (2 * m + 1) y else x3 : Int32)).toInt64) fd), rfl, ?_⟩
    refine j_istore F 6 [(6, .int 0), (5, .int (nI (6 * t))), (0, .ref bS), (1, .ref (ad 0)), (2, .ref (ae 0)), (3, .ref o), (4, .ref oD)] dL_law_503 (by decide) rfl ?_
    refine j_aload_n F 4 dL_law_505 rfl ?_
    refine j_aload_n F 2 dL_law_506 rfl ?_
    refine j_iload F 1 dL_law_507 rfl ?_
    refine j_iconst F (v := 1) dL_law_509 (by decide) ?_
    refine j_iadd F dL_law_510 ?_
    refine j_top (nI (6 * t + 1)) (nI_add _ _) ?_
    refine j_sld F hXb hbl hbA hL (6 * t + 1) (by omega) dL_law_511 ?_
    refine j_top (nI m) hx1.symm ?_
    refine j_aload_n F 2 dL_law_512 rfl ?_
    refine j_iload F 1 dL_law_513 rfl ?_
    refine j_iconst F (v := 2) dL_law_515 (by decide) ?_
    refine j_iadd F dL_law_516 ?_
    refine j_top (nI (6 * t + 2)) (nI_add _ _) ?_
    refine j_sld F hXb hbl hbA hL (6 * t + 2) (by omega) dL_law_517 ?_
    refine j_top (nI y) hx2.symm ?_
    refine j_aload_n F 2 dL_law_518 rfl ?_
    refine j_iload F 1 dL_law_519 rfl ?_
    refine j_iconst F (v := 3) dL_law_521 (by decide) ?_
    refine j_iadd F dL_law_522 ?_
    refine j_top (nI (6 * t + 3)) (nI_add _ _) ?_
    refine j_sld F hXb hbl hbA hL (6 * t + 3) (by omega) dL_law_523 ?_
    refine j_top x3 hx3.symm ?_
    refine j_scallV F kL_152 (As := [.int (nI m), .int (nI y), .int x3]) (rest := []) (c_X10_getOrDefault_ok l D ay ae vi ga Z m y x3 hG (by first | assumption | exact ⟨‹_›, ‹_›⟩ | omega) (by first | assumption | exact ⟨‹_›, ‹_›⟩ | omega)) 57 57 20 rfl rfl rfl rfl rfl rfl ⟨hk.1, hk.2⟩ dL_law_524 (fun v w hw => ?_)
    obtain ⟨vi1, ga1, hG1, hc1, rfl, rfl⟩ := hw
    refine ⟨rfl, (LW ay ad ae o oD (mU Z m (Z.1 m) (if fx (Z.2.2 (2 * m)) (nI y) (Z.1 m) < (Z.1 m) then usF (Z.2.2 (2 * m)) (Z.1 m) (nI y) else (Z.2.2 (2 * m))) 0 (Z.2.1 (2 + 5 * m)) (Z.2.1 (3 + 5 * m)) (Z.2.2 (2 * m + 1)) (Z.1 (12 + m)) (Z.2.1 (4 + 5 * m)) (Z.2.1 (5 + 5 * m))) vi1 ga1 (vp_updL fo 0 ((if fx (Z.2.2 (2 * m)) (nI y) (Z.1 m) < Z.1 m then Z.2.2 (2 * m + 1) y else x3 : Int32)).toInt64) fd), rfl, ?_⟩
    refine j_top (if fx (Z.2.2 (2 * m)) (nI y) (Z.1 m) < Z.1 m then Z.2.2 (2 * m + 1) y else x3) rfl ?_
    refine j_istore F 7 [(7, .int (if fx (Z.2.2 (2 * m)) (nI y) (Z.1 m) < Z.1 m then Z.2.2 (2 * m + 1) y else x3)), (6, .int 0), (5, .int (nI (6 * t))), (0, .ref bS), (1, .ref (ad 0)), (2, .ref (ae 0)), (3, .ref o), (4, .ref oD)] dL_law_527 (by decide) rfl ?_
    refine j_aload_n F 5 dL_law_529 rfl ?_
    refine j_scallV F kL_140 (As := []) (rest := []) (c_X10_thrown l D ay ae vi1 ga1) 57 57 20 rfl rfl rfl rfl rfl rfl ⟨hk.1, hk.2⟩ dL_law_530 (fun v w hw => ?_)
    obtain ⟨rfl, rfl⟩ := hw
    refine ⟨rfl, (LW ay ad ae o oD (mU Z m (Z.1 m) (if fx (Z.2.2 (2 * m)) (nI y) (Z.1 m) < (Z.1 m) then usF (Z.2.2 (2 * m)) (Z.1 m) (nI y) else (Z.2.2 (2 * m))) 0 (Z.2.1 (2 + 5 * m)) (Z.2.1 (3 + 5 * m)) (Z.2.2 (2 * m + 1)) (Z.1 (12 + m)) (Z.2.1 (4 + 5 * m)) (Z.2.1 (5 + 5 * m))) vi1 ga1 (vp_updL fo 0 ((if fx (Z.2.2 (2 * m)) (nI y) (Z.1 m) < Z.1 m then Z.2.2 (2 * m + 1) y else x3 : Int32)).toInt64) fd), rfl, ?_⟩
    refine j_top 0 hc1 ?_
    refine j_iload F 1 dL_law_533 rfl ?_
    refine j_icmp_eq F 540 dL_law_535 (by decide) (fun c_535 => ?_) (fun c_535 => absurd (by decide) c_535)
    refine j_iload F 1 dL_law_540 rfl ?_
    refine j_if_ne F 557 dL_law_542 (by decide) (fun c_542 => absurd (by decide) c_542) (fun c_542 => ?_)
    refine j_aload_n F 6 dL_law_545 rfl ?_
    refine j_iconst F (v := 0) dL_law_546 (by decide) ?_
    refine j_lald F 56 0 (f := vp_updL fo 0 ((if fx (Z.2.2 (2 * m)) (nI y) (Z.1 m) < Z.1 m then Z.2.2 (2 * m + 1) y else x3 : Int32)).toInt64) rfl rfl (by decide) (Nat.le_of_ble_eq_true rfl) dL_law_547 ?_
    refine j_iload F 0 dL_law_548 rfl ?_
    refine j_i2l F dL_law_550 ?_
    refine j_lcmp F dL_law_551 ?_
    refine j_top 0 (lg_self _) ?_
    refine j_if_eq F 557 dL_law_552 (by decide) (fun c_552 => ?_) (fun c_552 => absurd (by decide) c_552)
    refine j_goto F 2682 dL_law_557 (by decide) ?_
    refine j_sub [2, 3, 4, 5, 6, 7] [(5, .int (nI (6 * t))), (0, .ref bS), (1, .ref (ad 0)), (2, .ref (ae 0)), (3, .ref o), (4, .ref oD)] rfl ?_
    exact kk (mU Z m (Z.1 m) (if fx (Z.2.2 (2 * m)) (nI y) (Z.1 m) < (Z.1 m) then usF (Z.2.2 (2 * m)) (Z.1 m) (nI y) else (Z.2.2 (2 * m))) 0 (Z.2.1 (2 + 5 * m)) (Z.2.1 (3 + 5 * m)) (Z.2.2 (2 * m + 1)) (Z.1 (12 + m)) (Z.2.1 (4 + 5 * m)) (Z.2.1 (5 + 5 * m))) vi1 ga1 (vp_updL fo 0 ((if fx (Z.2.2 (2 * m)) (nI y) (Z.1 m) < Z.1 m then Z.2.2 (2 * m + 1) y else x3 : Int32)).toInt64) fd hG1
  · skip
    refine ⟨rfl, (LW ay ad ae o oD Z vi ga fo fd), rfl, ?_⟩
    refine j_istore F 6 [(6, .int 1), (5, .int (nI (6 * t))), (0, .ref bS), (1, .ref (ad 0)), (2, .ref (ae 0)), (3, .ref o), (4, .ref oD)] dL_law_503 (by decide) rfl ?_
    refine j_aload_n F 4 dL_law_505 rfl ?_
    refine j_aload_n F 2 dL_law_506 rfl ?_
    refine j_iload F 1 dL_law_507 rfl ?_
    refine j_iconst F (v := 1) dL_law_509 (by decide) ?_
    refine j_iadd F dL_law_510 ?_
    refine j_top (nI (6 * t + 1)) (nI_add _ _) ?_
    refine j_sld F hXb hbl hbA hL (6 * t + 1) (by omega) dL_law_511 ?_
    refine j_top x1 hx1.symm ?_
    refine j_aload_n F 2 dL_law_512 rfl ?_
    refine j_iload F 1 dL_law_513 rfl ?_
    refine j_iconst F (v := 2) dL_law_515 (by decide) ?_
    refine j_iadd F dL_law_516 ?_
    refine j_top (nI (6 * t + 2)) (nI_add _ _) ?_
    refine j_sld F hXb hbl hbA hL (6 * t + 2) (by omega) dL_law_517 ?_
    refine j_top x2 hx2.symm ?_
    refine j_aload_n F 2 dL_law_518 rfl ?_
    refine j_iload F 1 dL_law_519 rfl ?_
    refine j_iconst F (v := 3) dL_law_521 (by decide) ?_
    refine j_iadd F dL_law_522 ?_
    refine j_top (nI (6 * t + 3)) (nI_add _ _) ?_
    refine j_sld F hXb hbl hbA hL (6 * t + 3) (by omega) dL_law_523 ?_
    refine j_top x3 hx3.symm ?_
    refine j_scallV F kL_152 (As := [.int x1, .int x2, .int x3]) (rest := []) (c_X10_getOrDefault_no l D ay ae vi ga Z x1 x2 x3 hG (by first | assumption | exact ⟨‹_›, ‹_›⟩ | omega)) 57 57 20 rfl rfl rfl rfl rfl rfl ⟨hk.1, hk.2⟩ dL_law_524 (fun v w hw => ?_)
    obtain ⟨vi1, ga1, hG1, hc1, rfl, rfl⟩ := hw
    refine ⟨rfl, (LW ay ad ae o oD Z vi1 ga1 fo fd), rfl, ?_⟩
    refine j_top 0 rfl ?_
    refine j_istore F 7 [(7, .int 0), (6, .int 1), (5, .int (nI (6 * t))), (0, .ref bS), (1, .ref (ad 0)), (2, .ref (ae 0)), (3, .ref o), (4, .ref oD)] dL_law_527 (by decide) rfl ?_
    refine j_aload_n F 5 dL_law_529 rfl ?_
    refine j_scallV F kL_140 (As := []) (rest := []) (c_X10_thrown l D ay ae vi1 ga1) 57 57 20 rfl rfl rfl rfl rfl rfl ⟨hk.1, hk.2⟩ dL_law_530 (fun v w hw => ?_)
    obtain ⟨rfl, rfl⟩ := hw
    refine ⟨rfl, (LW ay ad ae o oD Z vi1 ga1 fo fd), rfl, ?_⟩
    refine j_top 1 hc1 ?_
    refine j_iload F 1 dL_law_533 rfl ?_
    refine j_icmp_eq F 540 dL_law_535 (by decide) (fun c_535 => ?_) (fun c_535 => absurd (by decide) c_535)
    refine j_iload F 1 dL_law_540 rfl ?_
    refine j_if_ne F 557 dL_law_542 (by decide) (fun c_542 => ?_) (fun c_542 => absurd c_542 (by decide))
    refine j_goto F 2682 dL_law_557 (by decide) ?_
    refine j_sub [2, 3, 4, 5, 6, 7] [(5, .int (nI (6 * t))), (0, .ref bS), (1, .ref (ad 0)), (2, .ref (ae 0)), (3, .ref o), (4, .ref oD)] rfl ?_
    exact kk Z vi1 ga1 fo fd hG1

set_option maxHeartbeats 4000000 in
set_option maxRecDepth 100000 in
theorem case_4 (l : Launch) (hfl : l.stackTraces = false) (D : va_G) (ay : Nat → ClassId) (sa : Nat → Nat) (ad ae : Nat → Nat) (o oD bS L : Nat) (xs : Nat → Int32) {p9 : Program} {e9 : Env} {s9 : State} {m9 : MethodId} {a9 : Array Value} {b9 : List Frame} {me9 : Method} {c9 : Code} {A9 : Nat → Prop} {Q9 : State → Prop} (F : jF p9 s9 m9 a9 me9 c9 cL_law 10 RL (some .boolean) D ay A9) (hX : jX sa A9 s9 s9.heap) (hN : jN s9) (hXb : va_X bS L xs s9 s9.heap) (hbl : bS < s9.heap.size) (hbA : ¬ A9 bS) (k n : Nat) (hk : k + 3 ≤ room_1.cells ∧ n + 18 ≤ room_1.slots) (t : Nat) (ht : 6 * t + 6 ≤ L) (hL : L ≤ 3072) (Z : DS) (vi : Nat → Int32) (ga : Nat → Nat → Int32) (fo : Nat → Int64) (fd : Nat → UInt64) (hG : GI Z vi ga) (kk : ∀ (Z' : DS) (vi' : Nat → Int32) (ga' : Nat → Nat → Int32) (fo' : Nat → Int64) (fd' : Nat → UInt64), GI Z' vi' ga' → jJ p9 l e9 room_1 s9 m9 a9 b9 me9 c9 Q9 D A9 10 (k + 3) (n + 18) (LW ay ad ae o oD Z' vi' ga' fo' fd') 2682 [(5, .int (nI (6 * t))), (0, .ref bS), (1, .ref (ad 0)), (2, .ref (ae 0)), (3, .ref o), (4, .ref oD)] []) : jJ p9 l e9 room_1 s9 m9 a9 b9 me9 c9 Q9 D A9 10 k n (LW ay ad ae o oD Z vi ga fo fd) 560 [(5, .int (nI (6 * t))), (0, .ref bS), (1, .ref (ad 0)), (2, .ref (ae 0)), (3, .ref o), (4, .ref oD)] [] := by
  obtain ⟨x1, hx1⟩ : ∃ y, y = xs (6 * t + 1) := ⟨_, rfl⟩
  obtain ⟨x2, hx2⟩ : ∃ y, y = xs (6 * t + 2) := ⟨_, rfl⟩
  refine j_aload_n F 2 dL_law_560 rfl ?_
  refine j_aload_n F 1 dL_law_561 rfl ?_
  refine j_iload F 0 dL_law_562 rfl ?_
  refine j_iconst F (v := 1) dL_law_564 (by decide) ?_
  refine j_iadd F dL_law_565 ?_
  refine j_top (nI (6 * t + 1)) (nI_add _ _) ?_
  refine j_sld F hXb hbl hbA hL (6 * t + 1) (by omega) dL_law_566 ?_
  refine j_top x1 hx1.symm ?_
  refine j_aload_n F 1 dL_law_567 rfl ?_
  refine j_iload F 0 dL_law_568 rfl ?_
  refine j_iconst F (v := 2) dL_law_570 (by decide) ?_
  refine j_iadd F dL_law_571 ?_
  refine j_top (nI (6 * t + 2)) (nI_add _ _) ?_
  refine j_sld F hXb hbl hbA hL (6 * t + 2) (by omega) dL_law_572 ?_
  refine j_top x2 hx2.symm ?_
  refine j_aload_n F 4 dL_law_573 rfl ?_
  refine j_hcallS F hX hN kL_153 (As := [.ref (ad 0), .int x1, .int x2, .ref o]) (rest := []) (h_remove l hfl D ay sa ad Z x1 x2 o fo (fun m hm => (hG.1 m hm).1)) 1 56 rfl rfl rfl rfl rfl ⟨hk.1, hk.2⟩ dL_law_574 (fun v w hw => ?_)
  rcases hw with ⟨m, y, g0, g1, rfl, rfl, rfl, rfl⟩ | ⟨g0, rfl, rfl⟩
  · skip
    refine ⟨rfl, (LW ay ad ae o oD (mU Z m (if fx (Z.2.2 (2 * m)) (nI y) (Z.1 m) < (Z.1 m) then (Z.1 m) - 1 else (Z.1 m)) (if fx (Z.2.2 (2 * m)) (nI y) (Z.1 m) < (Z.1 m) then shf (Z.2.2 (2 * m)) (fx (Z.2.2 (2 * m)) (nI y) (Z.1 m)) (Z.1 m) else (Z.2.2 (2 * m))) 0 (Z.2.1 (2 + 5 * m)) (Z.2.1 (3 + 5 * m)) (Z.2.2 (2 * m + 1)) (Z.1 (12 + m)) (Z.2.1 (4 + 5 * m)) (Z.2.1 (5 + 5 * m))) vi ga (vp_updL fo 0 ((if fx (Z.2.2 (2 * m)) (nI y) (Z.1 m) < (Z.1 m) then (Z.2.2 (2 * m + 1)) y else -1 : Int32)).toInt64) fd), rfl, ?_⟩
    refine j_istore F 6 [(6, .int 0), (5, .int (nI (6 * t))), (0, .ref bS), (1, .ref (ad 0)), (2, .ref (ae 0)), (3, .ref o), (4, .ref oD)] dL_law_577 (by decide) rfl ?_
    refine j_aload_n F 4 dL_law_579 rfl ?_
    refine j_aload_n F 2 dL_law_580 rfl ?_
    refine j_iload F 1 dL_law_581 rfl ?_
    refine j_iconst F (v := 1) dL_law_583 (by decide) ?_
    refine j_iadd F dL_law_584 ?_
    refine j_top (nI (6 * t + 1)) (nI_add _ _) ?_
    refine j_sld F hXb hbl hbA hL (6 * t + 1) (by omega) dL_law_585 ?_
    refine j_top (nI m) hx1.symm ?_
    refine j_aload_n F 2 dL_law_586 rfl ?_
    refine j_iload F 1 dL_law_587 rfl ?_
    refine j_iconst F (v := 2) dL_law_589 (by decide) ?_
    refine j_iadd F dL_law_590 ?_
    refine j_top (nI (6 * t + 2)) (nI_add _ _) ?_
    refine j_sld F hXb hbl hbA hL (6 * t + 2) (by omega) dL_law_591 ?_
    refine j_top (nI y) hx2.symm ?_
    refine j_scallV F kL_155 (As := [.int (nI m), .int (nI y)]) (rest := []) (c_X10_remove_ok l D ay ae vi ga Z m y hG (by first | assumption | exact ⟨‹_›, ‹_›⟩ | omega) (by first | assumption | exact ⟨‹_›, ‹_›⟩ | omega)) 57 57 20 rfl rfl rfl rfl rfl rfl ⟨hk.1, hk.2⟩ dL_law_592 (fun v w hw => ?_)
    obtain ⟨vi1, ga1, hG1, hc1, rfl, rfl⟩ := hw
    refine ⟨rfl, (LW ay ad ae o oD (mU Z m (if fx (Z.2.2 (2 * m)) (nI y) (Z.1 m) < (Z.1 m) then (Z.1 m) - 1 else (Z.1 m)) (if fx (Z.2.2 (2 * m)) (nI y) (Z.1 m) < (Z.1 m) then shf (Z.2.2 (2 * m)) (fx (Z.2.2 (2 * m)) (nI y) (Z.1 m)) (Z.1 m) else (Z.2.2 (2 * m))) 0 (Z.2.1 (2 + 5 * m)) (Z.2.1 (3 + 5 * m)) (Z.2.2 (2 * m + 1)) (Z.1 (12 + m)) (Z.2.1 (4 + 5 * m)) (Z.2.1 (5 + 5 * m))) vi1 ga1 (vp_updL fo 0 ((if fx (Z.2.2 (2 * m)) (nI y) (Z.1 m) < (Z.1 m) then (Z.2.2 (2 * m + 1)) y else -1 : Int32)).toInt64) fd), rfl, ?_⟩
    refine j_top (if fx (Z.2.2 (2 * m)) (nI y) (Z.1 m) < (Z.1 m) then (Z.2.2 (2 * m + 1)) y else -1) rfl ?_
    refine j_istore F 7 [(7, .int (if fx (Z.2.2 (2 * m)) (nI y) (Z.1 m) < (Z.1 m) then (Z.2.2 (2 * m + 1)) y else -1)), (6, .int 0), (5, .int (nI (6 * t))), (0, .ref bS), (1, .ref (ad 0)), (2, .ref (ae 0)), (3, .ref o), (4, .ref oD)] dL_law_595 (by decide) rfl ?_
    refine j_aload_n F 5 dL_law_597 rfl ?_
    refine j_scallV F kL_140 (As := []) (rest := []) (c_X10_thrown l D ay ae vi1 ga1) 57 57 20 rfl rfl rfl rfl rfl rfl ⟨hk.1, hk.2⟩ dL_law_598 (fun v w hw => ?_)
    obtain ⟨rfl, rfl⟩ := hw
    refine ⟨rfl, (LW ay ad ae o oD (mU Z m (if fx (Z.2.2 (2 * m)) (nI y) (Z.1 m) < (Z.1 m) then (Z.1 m) - 1 else (Z.1 m)) (if fx (Z.2.2 (2 * m)) (nI y) (Z.1 m) < (Z.1 m) then shf (Z.2.2 (2 * m)) (fx (Z.2.2 (2 * m)) (nI y) (Z.1 m)) (Z.1 m) else (Z.2.2 (2 * m))) 0 (Z.2.1 (2 + 5 * m)) (Z.2.1 (3 + 5 * m)) (Z.2.2 (2 * m + 1)) (Z.1 (12 + m)) (Z.2.1 (4 + 5 * m)) (Z.2.1 (5 + 5 * m))) vi1 ga1 (vp_updL fo 0 ((if fx (Z.2.2 (2 * m)) (nI y) (Z.1 m) < (Z.1 m) then (Z.2.2 (2 * m + 1)) y else -1 : Int32)).toInt64) fd), rfl, ?_⟩
    refine j_top 0 hc1 ?_
    refine j_iload F 1 dL_law_601 rfl ?_
    refine j_icmp_eq F 608 dL_law_603 (by decide) (fun c_603 => ?_) (fun c_603 => absurd (by decide) c_603)
    refine j_iload F 1 dL_law_608 rfl ?_
    refine j_if_ne F 625 dL_law_610 (by decide) (fun c_610 => absurd (by decide) c_610) (fun c_610 => ?_)
    refine j_aload_n F 6 dL_law_613 rfl ?_
    refine j_iconst F (v := 0) dL_law_614 (by decide) ?_
    refine j_lald F 56 0 (f := vp_updL fo 0 ((if fx (Z.2.2 (2 * m)) (nI y) (Z.1 m) < (Z.1 m) then (Z.2.2 (2 * m + 1)) y else -1 : Int32)).toInt64) rfl rfl (by decide) (Nat.le_of_ble_eq_true rfl) dL_law_615 ?_
    refine j_iload F 0 dL_law_616 rfl ?_
    refine j_i2l F dL_law_618 ?_
    refine j_lcmp F dL_law_619 ?_
    refine j_top 0 (lg_self _) ?_
    refine j_if_eq F 625 dL_law_620 (by decide) (fun c_620 => ?_) (fun c_620 => absurd (by decide) c_620)
    refine j_goto F 2682 dL_law_625 (by decide) ?_
    refine j_sub [2, 3, 4, 5, 6, 7] [(5, .int (nI (6 * t))), (0, .ref bS), (1, .ref (ad 0)), (2, .ref (ae 0)), (3, .ref o), (4, .ref oD)] rfl ?_
    exact kk (mU Z m (if fx (Z.2.2 (2 * m)) (nI y) (Z.1 m) < (Z.1 m) then (Z.1 m) - 1 else (Z.1 m)) (if fx (Z.2.2 (2 * m)) (nI y) (Z.1 m) < (Z.1 m) then shf (Z.2.2 (2 * m)) (fx (Z.2.2 (2 * m)) (nI y) (Z.1 m)) (Z.1 m) else (Z.2.2 (2 * m))) 0 (Z.2.1 (2 + 5 * m)) (Z.2.1 (3 + 5 * m)) (Z.2.2 (2 * m + 1)) (Z.1 (12 + m)) (Z.2.1 (4 + 5 * m)) (Z.2.1 (5 + 5 * m))) vi1 ga1 (vp_updL fo 0 ((if fx (Z.2.2 (2 * m)) (nI y) (Z.1 m) < (Z.1 m) then (Z.2.2 (2 * m + 1)) y else -1 : Int32)).toInt64) fd hG1
  · skip
    refine ⟨rfl, (LW ay ad ae o oD Z vi ga fo fd), rfl, ?_⟩
    refine j_istore F 6 [(6, .int 1), (5, .int (nI (6 * t))), (0, .ref bS), (1, .ref (ad 0)), (2, .ref (ae 0)), (3, .ref o), (4, .ref oD)] dL_law_577 (by decide) rfl ?_
    refine j_aload_n F 4 dL_law_579 rfl ?_
    refine j_aload_n F 2 dL_law_580 rfl ?_
    refine j_iload F 1 dL_law_581 rfl ?_
    refine j_iconst F (v := 1) dL_law_583 (by decide) ?_
    refine j_iadd F dL_law_584 ?_
    refine j_top (nI (6 * t + 1)) (nI_add _ _) ?_
    refine j_sld F hXb hbl hbA hL (6 * t + 1) (by omega) dL_law_585 ?_
    refine j_top x1 hx1.symm ?_
    refine j_aload_n F 2 dL_law_586 rfl ?_
    refine j_iload F 1 dL_law_587 rfl ?_
    refine j_iconst F (v := 2) dL_law_589 (by decide) ?_
    refine j_iadd F dL_law_590 ?_
    refine j_top (nI (6 * t + 2)) (nI_add _ _) ?_
    refine j_sld F hXb hbl hbA hL (6 * t + 2) (by omega) dL_law_591 ?_
    refine j_top x2 hx2.symm ?_
    refine j_scallV F kL_155 (As := [.int x1, .int x2]) (rest := []) (c_X10_remove_no l D ay ae vi ga Z x1 x2 hG (by first | assumption | exact ⟨‹_›, ‹_›⟩ | omega)) 57 57 20 rfl rfl rfl rfl rfl rfl ⟨hk.1, hk.2⟩ dL_law_592 (fun v w hw => ?_)
    obtain ⟨vi1, ga1, hG1, hc1, rfl, rfl⟩ := hw
    refine ⟨rfl, (LW ay ad ae o oD Z vi1 ga1 fo fd), rfl, ?_⟩
    refine j_top 0 rfl ?_
    refine j_istore F 7 [(7, .int 0), (6, .int 1), (5, .int (nI (6 * t))), (0, .ref bS), (1, .ref (ad 0)), (2, .ref (ae 0)), (3, .ref o), (4, .ref oD)] dL_law_595 (by decide) rfl ?_
    refine j_aload_n F 5 dL_law_597 rfl ?_
    refine j_scallV F kL_140 (As := []) (rest := []) (c_X10_thrown l D ay ae vi1 ga1) 57 57 20 rfl rfl rfl rfl rfl rfl ⟨hk.1, hk.2⟩ dL_law_598 (fun v w hw => ?_)
    obtain ⟨rfl, rfl⟩ := hw
    refine ⟨rfl, (LW ay ad ae o oD Z vi1 ga1 fo fd), rfl, ?_⟩
    refine j_top 1 hc1 ?_
    refine j_iload F 1 dL_law_601 rfl ?_
    refine j_icmp_eq F 608 dL_law_603 (by decide) (fun c_603 => ?_) (fun c_603 => absurd (by decide) c_603)
    refine j_iload F 1 dL_law_608 rfl ?_
    refine j_if_ne F 625 dL_law_610 (by decide) (fun c_610 => ?_) (fun c_610 => absurd c_610 (by decide))
    refine j_goto F 2682 dL_law_625 (by decide) ?_
    refine j_sub [2, 3, 4, 5, 6, 7] [(5, .int (nI (6 * t))), (0, .ref bS), (1, .ref (ad 0)), (2, .ref (ae 0)), (3, .ref o), (4, .ref oD)] rfl ?_
    exact kk Z vi1 ga1 fo fd hG1

set_option maxHeartbeats 4000000 in
set_option maxRecDepth 100000 in
theorem case_5 (l : Launch) (hfl : l.stackTraces = false) (D : va_G) (ay : Nat → ClassId) (sa : Nat → Nat) (ad ae : Nat → Nat) (o oD bS L : Nat) (xs : Nat → Int32) {p9 : Program} {e9 : Env} {s9 : State} {m9 : MethodId} {a9 : Array Value} {b9 : List Frame} {me9 : Method} {c9 : Code} {A9 : Nat → Prop} {Q9 : State → Prop} (F : jF p9 s9 m9 a9 me9 c9 cL_law 10 RL (some .boolean) D ay A9) (hX : jX sa A9 s9 s9.heap) (hN : jN s9) (hXb : va_X bS L xs s9 s9.heap) (hbl : bS < s9.heap.size) (hbA : ¬ A9 bS) (k n : Nat) (hk : k + 3 ≤ room_1.cells ∧ n + 18 ≤ room_1.slots) (t : Nat) (ht : 6 * t + 6 ≤ L) (hL : L ≤ 3072) (Z : DS) (vi : Nat → Int32) (ga : Nat → Nat → Int32) (fo : Nat → Int64) (fd : Nat → UInt64) (hG : GI Z vi ga) (kk : ∀ (Z' : DS) (vi' : Nat → Int32) (ga' : Nat → Nat → Int32) (fo' : Nat → Int64) (fd' : Nat → UInt64), GI Z' vi' ga' → jJ p9 l e9 room_1 s9 m9 a9 b9 me9 c9 Q9 D A9 10 (k + 3) (n + 18) (LW ay ad ae o oD Z' vi' ga' fo' fd') 2682 [(5, .int (nI (6 * t))), (0, .ref bS), (1, .ref (ad 0)), (2, .ref (ae 0)), (3, .ref o), (4, .ref oD)] []) : jJ p9 l e9 room_1 s9 m9 a9 b9 me9 c9 Q9 D A9 10 k n (LW ay ad ae o oD Z vi ga fo fd) 628 [(5, .int (nI (6 * t))), (0, .ref bS), (1, .ref (ad 0)), (2, .ref (ae 0)), (3, .ref o), (4, .ref oD)] [] := by
  obtain ⟨x1, hx1⟩ : ∃ y, y = xs (6 * t + 1) := ⟨_, rfl⟩
  refine j_aload_n F 2 dL_law_628 rfl ?_
  refine j_aload_n F 1 dL_law_629 rfl ?_
  refine j_iload F 0 dL_law_630 rfl ?_
  refine j_iconst F (v := 1) dL_law_632 (by decide) ?_
  refine j_iadd F dL_law_633 ?_
  refine j_top (nI (6 * t + 1)) (nI_add _ _) ?_
  refine j_sld F hXb hbl hbA hL (6 * t + 1) (by omega) dL_law_634 ?_
  refine j_top x1 hx1.symm ?_
  refine j_aload_n F 4 dL_law_635 rfl ?_
  refine j_hcallS F hX hN kL_156 (As := [.ref (ad 0), .int x1, .ref o]) (rest := []) (h_clear l hfl D ay sa ad Z x1 o fo) 1 56 rfl rfl rfl rfl rfl ⟨hk.1, hk.2⟩ dL_law_636 (fun v w hw => ?_)
  rcases hw with ⟨m, g0, rfl, rfl, rfl⟩ | ⟨g0, rfl, rfl⟩
  · skip
    refine ⟨rfl, (LW ay ad ae o oD (mU Z m 0 (Z.2.2 (2 * m)) 0 (Z.2.1 (2 + 5 * m)) (Z.2.1 (3 + 5 * m)) (Z.2.2 (2 * m + 1)) (Z.1 (12 + m)) (Z.2.1 (4 + 5 * m)) (Z.2.1 (5 + 5 * m))) vi ga (vp_updL fo 0 ((nI (Z.1 m) : Int32)).toInt64) fd), rfl, ?_⟩
    refine j_istore F 6 [(6, .int 0), (5, .int (nI (6 * t))), (0, .ref bS), (1, .ref (ad 0)), (2, .ref (ae 0)), (3, .ref o), (4, .ref oD)] dL_law_639 (by decide) rfl ?_
    refine j_aload_n F 4 dL_law_641 rfl ?_
    refine j_aload_n F 2 dL_law_642 rfl ?_
    refine j_iload F 1 dL_law_643 rfl ?_
    refine j_iconst F (v := 1) dL_law_645 (by decide) ?_
    refine j_iadd F dL_law_646 ?_
    refine j_top (nI (6 * t + 1)) (nI_add _ _) ?_
    refine j_sld F hXb hbl hbA hL (6 * t + 1) (by omega) dL_law_647 ?_
    refine j_top (nI m) hx1.symm ?_
    refine j_scallV F kL_159 (As := [.int (nI m)]) (rest := []) (c_X10_clear_ok l D ay ae vi ga Z m hG (by first | assumption | exact ⟨‹_›, ‹_›⟩ | omega)) 57 57 20 rfl rfl rfl rfl rfl rfl ⟨hk.1, hk.2⟩ dL_law_648 (fun v w hw => ?_)
    obtain ⟨vi1, ga1, hG1, hc1, rfl, rfl⟩ := hw
    refine ⟨rfl, (LW ay ad ae o oD (mU Z m 0 (Z.2.2 (2 * m)) 0 (Z.2.1 (2 + 5 * m)) (Z.2.1 (3 + 5 * m)) (Z.2.2 (2 * m + 1)) (Z.1 (12 + m)) (Z.2.1 (4 + 5 * m)) (Z.2.1 (5 + 5 * m))) vi1 ga1 (vp_updL fo 0 ((nI (Z.1 m) : Int32)).toInt64) fd), rfl, ?_⟩
    refine j_top (nI (Z.1 m)) rfl ?_
    refine j_istore F 7 [(7, .int (nI (Z.1 m))), (6, .int 0), (5, .int (nI (6 * t))), (0, .ref bS), (1, .ref (ad 0)), (2, .ref (ae 0)), (3, .ref o), (4, .ref oD)] dL_law_651 (by decide) rfl ?_
    refine j_aload_n F 5 dL_law_653 rfl ?_
    refine j_scallV F kL_140 (As := []) (rest := []) (c_X10_thrown l D ay ae vi1 ga1) 57 57 20 rfl rfl rfl rfl rfl rfl ⟨hk.1, hk.2⟩ dL_law_654 (fun v w hw => ?_)
    obtain ⟨rfl, rfl⟩ := hw
    refine ⟨rfl, (LW ay ad ae o oD (mU Z m 0 (Z.2.2 (2 * m)) 0 (Z.2.1 (2 + 5 * m)) (Z.2.1 (3 + 5 * m)) (Z.2.2 (2 * m + 1)) (Z.1 (12 + m)) (Z.2.1 (4 + 5 * m)) (Z.2.1 (5 + 5 * m))) vi1 ga1 (vp_updL fo 0 ((nI (Z.1 m) : Int32)).toInt64) fd), rfl, ?_⟩
    refine j_top 0 hc1 ?_
    refine j_iload F 1 dL_law_657 rfl ?_
    refine j_icmp_eq F 664 dL_law_659 (by decide) (fun c_659 => ?_) (fun c_659 => absurd (by decide) c_659)
    refine j_iload F 1 dL_law_664 rfl ?_
    refine j_if_ne F 681 dL_law_666 (by decide) (fun c_666 => absurd (by decide) c_666) (fun c_666 => ?_)
    refine j_aload_n F 6 dL_law_669 rfl ?_
    refine j_iconst F (v := 0) dL_law_670 (by decide) ?_
    refine j_lald F 56 0 (f := vp_updL fo 0 ((nI (Z.1 m) : Int32)).toInt64) rfl rfl (by decide) (Nat.le_of_ble_eq_true rfl) dL_law_671 ?_
    refine j_iload F 0 dL_law_672 rfl ?_
    refine j_i2l F dL_law_674 ?_
    refine j_lcmp F dL_law_675 ?_
    refine j_top 0 (lg_self _) ?_
    refine j_if_eq F 681 dL_law_676 (by decide) (fun c_676 => ?_) (fun c_676 => absurd (by decide) c_676)
    refine j_goto F 2682 dL_law_681 (by decide) ?_
    refine j_sub [2, 3, 4, 5, 6, 7] [(5, .int (nI (6 * t))), (0, .ref bS), (1, .ref (ad 0)), (2, .ref (ae 0)), (3, .ref o), (4, .ref oD)] rfl ?_
    exact kk (mU Z m 0 (Z.2.2 (2 * m)) 0 (Z.2.1 (2 + 5 * m)) (Z.2.1 (3 + 5 * m)) (Z.2.2 (2 * m + 1)) (Z.1 (12 + m)) (Z.2.1 (4 + 5 * m)) (Z.2.1 (5 + 5 * m))) vi1 ga1 (vp_updL fo 0 ((nI (Z.1 m) : Int32)).toInt64) fd hG1
  · skip
    refine ⟨rfl, (LW ay ad ae o oD Z vi ga fo fd), rfl, ?_⟩
    refine j_istore F 6 [(6, .int 1), (5, .int (nI (6 * t))), (0, .ref bS), (1, .ref (ad 0)), (2, .ref (ae 0)), (3, .ref o), (4, .ref oD)] dL_law_639 (by decide) rfl ?_
    refine j_aload_n F 4 dL_law_641 rfl ?_
    refine j_aload_n F 2 dL_law_642 rfl ?_
    refine j_iload F 1 dL_law_643 rfl ?_
    refine j_iconst F (v := 1) dL_law_645 (by decide) ?_
    refine j_iadd F dL_law_646 ?_
    refine j_top (nI (6 * t + 1)) (nI_add _ _) ?_
    refine j_sld F hXb hbl hbA hL (6 * t + 1) (by omega) dL_law_647 ?_
    refine j_top x1 hx1.symm ?_
    refine j_scallV F kL_159 (As := [.int x1]) (rest := []) (c_X10_clear_no l D ay ae vi ga Z x1 hG (by first | assumption | exact ⟨‹_›, ‹_›⟩ | omega)) 57 57 20 rfl rfl rfl rfl rfl rfl ⟨hk.1, hk.2⟩ dL_law_648 (fun v w hw => ?_)
    obtain ⟨vi1, ga1, hG1, hc1, rfl, rfl⟩ := hw
    refine ⟨rfl, (LW ay ad ae o oD Z vi1 ga1 fo fd), rfl, ?_⟩
    refine j_top 0 rfl ?_
    refine j_istore F 7 [(7, .int 0), (6, .int 1), (5, .int (nI (6 * t))), (0, .ref bS), (1, .ref (ad 0)), (2, .ref (ae 0)), (3, .ref o), (4, .ref oD)] dL_law_651 (by decide) rfl ?_
    refine j_aload_n F 5 dL_law_653 rfl ?_
    refine j_scallV F kL_140 (As := []) (rest := []) (c_X10_thrown l D ay ae vi1 ga1) 57 57 20 rfl rfl rfl rfl rfl rfl ⟨hk.1, hk.2⟩ dL_law_654 (fun v w hw => ?_)
    obtain ⟨rfl, rfl⟩ := hw
    refine ⟨rfl, (LW ay ad ae o oD Z vi1 ga1 fo fd), rfl, ?_⟩
    refine j_top 1 hc1 ?_
    refine j_iload F 1 dL_law_657 rfl ?_
    refine j_icmp_eq F 664 dL_law_659 (by decide) (fun c_659 => ?_) (fun c_659 => absurd (by decide) c_659)
    refine j_iload F 1 dL_law_664 rfl ?_
    refine j_if_ne F 681 dL_law_666 (by decide) (fun c_666 => ?_) (fun c_666 => absurd c_666 (by decide))
    refine j_goto F 2682 dL_law_681 (by decide) ?_
    refine j_sub [2, 3, 4, 5, 6, 7] [(5, .int (nI (6 * t))), (0, .ref bS), (1, .ref (ad 0)), (2, .ref (ae 0)), (3, .ref o), (4, .ref oD)] rfl ?_
    exact kk Z vi1 ga1 fo fd hG1

set_option maxHeartbeats 4000000 in
set_option maxRecDepth 100000 in
theorem case_6 (l : Launch) (hfl : l.stackTraces = false) (D : va_G) (ay : Nat → ClassId) (sa : Nat → Nat) (ad ae : Nat → Nat) (o oD bS L : Nat) (xs : Nat → Int32) {p9 : Program} {e9 : Env} {s9 : State} {m9 : MethodId} {a9 : Array Value} {b9 : List Frame} {me9 : Method} {c9 : Code} {A9 : Nat → Prop} {Q9 : State → Prop} (F : jF p9 s9 m9 a9 me9 c9 cL_law 10 RL (some .boolean) D ay A9) (hX : jX sa A9 s9 s9.heap) (hN : jN s9) (hXb : va_X bS L xs s9 s9.heap) (hbl : bS < s9.heap.size) (hbA : ¬ A9 bS) (k n : Nat) (hk : k + 3 ≤ room_1.cells ∧ n + 18 ≤ room_1.slots) (t : Nat) (ht : 6 * t + 6 ≤ L) (hL : L ≤ 3072) (Z : DS) (vi : Nat → Int32) (ga : Nat → Nat → Int32) (fo : Nat → Int64) (fd : Nat → UInt64) (hG : GI Z vi ga) (kk : ∀ (Z' : DS) (vi' : Nat → Int32) (ga' : Nat → Nat → Int32) (fo' : Nat → Int64) (fd' : Nat → UInt64), GI Z' vi' ga' → jJ p9 l e9 room_1 s9 m9 a9 b9 me9 c9 Q9 D A9 10 (k + 3) (n + 18) (LW ay ad ae o oD Z' vi' ga' fo' fd') 2682 [(5, .int (nI (6 * t))), (0, .ref bS), (1, .ref (ad 0)), (2, .ref (ae 0)), (3, .ref o), (4, .ref oD)] []) : jJ p9 l e9 room_1 s9 m9 a9 b9 me9 c9 Q9 D A9 10 k n (LW ay ad ae o oD Z vi ga fo fd) 684 [(5, .int (nI (6 * t))), (0, .ref bS), (1, .ref (ad 0)), (2, .ref (ae 0)), (3, .ref o), (4, .ref oD)] [] := by
  obtain ⟨x1, hx1⟩ : ∃ y, y = xs (6 * t + 1) := ⟨_, rfl⟩
  refine j_aload_n F 2 dL_law_684 rfl ?_
  refine j_aload_n F 1 dL_law_685 rfl ?_
  refine j_iload F 0 dL_law_686 rfl ?_
  refine j_iconst F (v := 1) dL_law_688 (by decide) ?_
  refine j_iadd F dL_law_689 ?_
  refine j_top (nI (6 * t + 1)) (nI_add _ _) ?_
  refine j_sld F hXb hbl hbA hL (6 * t + 1) (by omega) dL_law_690 ?_
  refine j_top x1 hx1.symm ?_
  refine j_aload_n F 4 dL_law_691 rfl ?_
  refine j_hcallS F hX hN kL_160 (As := [.ref (ad 0), .int x1, .ref o]) (rest := []) (h_setBound l hfl D ay sa ad Z x1 o fo) 1 56 rfl rfl rfl rfl rfl ⟨hk.1, hk.2⟩ dL_law_692 (fun v w hw => ?_)
  rcases hw with ⟨b, g0, g1, rfl, rfl, rfl⟩ | ⟨g0, rfl, rfl⟩
  · skip
    refine ⟨rfl, (LW ay ad ae o oD (mU Z 1 0 (Z.2.2 2) 0 (Z.2.1 7) (Z.2.1 8) (Z.2.2 3) b (Z.2.1 9) (Z.2.1 10)) vi ga (vp_updL fo 0 ((nI (Z.1 13) : Int32)).toInt64) fd), rfl, ?_⟩
    refine j_istore F 6 [(6, .int 0), (5, .int (nI (6 * t))), (0, .ref bS), (1, .ref (ad 0)), (2, .ref (ae 0)), (3, .ref o), (4, .ref oD)] dL_law_695 (by decide) rfl ?_
    refine j_aload_n F 4 dL_law_697 rfl ?_
    refine j_aload_n F 2 dL_law_698 rfl ?_
    refine j_iload F 1 dL_law_699 rfl ?_
    refine j_iconst F (v := 1) dL_law_701 (by decide) ?_
    refine j_iadd F dL_law_702 ?_
    refine j_top (nI (6 * t + 1)) (nI_add _ _) ?_
    refine j_sld F hXb hbl hbA hL (6 * t + 1) (by omega) dL_law_703 ?_
    refine j_top (nI b) hx1.symm ?_
    refine j_scallV F kL_162 (As := [.int (nI b)]) (rest := []) (c_X10_setBound_ok l D ay ae vi ga Z b hG (by first | assumption | exact ⟨‹_›, ‹_›⟩ | omega)) 57 57 20 rfl rfl rfl rfl rfl rfl ⟨hk.1, hk.2⟩ dL_law_704 (fun v w hw => ?_)
    obtain ⟨vi1, ga1, hG1, hc1, rfl, rfl⟩ := hw
    refine ⟨rfl, (LW ay ad ae o oD (mU Z 1 0 (Z.2.2 2) 0 (Z.2.1 7) (Z.2.1 8) (Z.2.2 3) b (Z.2.1 9) (Z.2.1 10)) vi1 ga1 (vp_updL fo 0 ((nI (Z.1 13) : Int32)).toInt64) fd), rfl, ?_⟩
    refine j_top (nI (Z.1 13)) rfl ?_
    refine j_istore F 7 [(7, .int (nI (Z.1 13))), (6, .int 0), (5, .int (nI (6 * t))), (0, .ref bS), (1, .ref (ad 0)), (2, .ref (ae 0)), (3, .ref o), (4, .ref oD)] dL_law_707 (by decide) rfl ?_
    refine j_aload_n F 5 dL_law_709 rfl ?_
    refine j_scallV F kL_140 (As := []) (rest := []) (c_X10_thrown l D ay ae vi1 ga1) 57 57 20 rfl rfl rfl rfl rfl rfl ⟨hk.1, hk.2⟩ dL_law_710 (fun v w hw => ?_)
    obtain ⟨rfl, rfl⟩ := hw
    refine ⟨rfl, (LW ay ad ae o oD (mU Z 1 0 (Z.2.2 2) 0 (Z.2.1 7) (Z.2.1 8) (Z.2.2 3) b (Z.2.1 9) (Z.2.1 10)) vi1 ga1 (vp_updL fo 0 ((nI (Z.1 13) : Int32)).toInt64) fd), rfl, ?_⟩
    refine j_top 0 hc1 ?_
    refine j_iload F 1 dL_law_713 rfl ?_
    refine j_icmp_eq F 720 dL_law_715 (by decide) (fun c_715 => ?_) (fun c_715 => absurd (by decide) c_715)
    refine j_iload F 1 dL_law_720 rfl ?_
    refine j_if_ne F 737 dL_law_722 (by decide) (fun c_722 => absurd (by decide) c_722) (fun c_722 => ?_)
    refine j_aload_n F 6 dL_law_725 rfl ?_
    refine j_iconst F (v := 0) dL_law_726 (by decide) ?_
    refine j_lald F 56 0 (f := vp_updL fo 0 ((nI (Z.1 13) : Int32)).toInt64) rfl rfl (by decide) (Nat.le_of_ble_eq_true rfl) dL_law_727 ?_
    refine j_iload F 0 dL_law_728 rfl ?_
    refine j_i2l F dL_law_730 ?_
    refine j_lcmp F dL_law_731 ?_
    refine j_top 0 (lg_self _) ?_
    refine j_if_eq F 737 dL_law_732 (by decide) (fun c_732 => ?_) (fun c_732 => absurd (by decide) c_732)
    refine j_goto F 2682 dL_law_737 (by decide) ?_
    refine j_sub [2, 3, 4, 5, 6, 7] [(5, .int (nI (6 * t))), (0, .ref bS), (1, .ref (ad 0)), (2, .ref (ae 0)), (3, .ref o), (4, .ref oD)] rfl ?_
    exact kk (mU Z 1 0 (Z.2.2 2) 0 (Z.2.1 7) (Z.2.1 8) (Z.2.2 3) b (Z.2.1 9) (Z.2.1 10)) vi1 ga1 (vp_updL fo 0 ((nI (Z.1 13) : Int32)).toInt64) fd hG1
  · skip
    refine ⟨rfl, (LW ay ad ae o oD Z vi ga fo fd), rfl, ?_⟩
    refine j_istore F 6 [(6, .int 1), (5, .int (nI (6 * t))), (0, .ref bS), (1, .ref (ad 0)), (2, .ref (ae 0)), (3, .ref o), (4, .ref oD)] dL_law_695 (by decide) rfl ?_
    refine j_aload_n F 4 dL_law_697 rfl ?_
    refine j_aload_n F 2 dL_law_698 rfl ?_
    refine j_iload F 1 dL_law_699 rfl ?_
    refine j_iconst F (v := 1) dL_law_701 (by decide) ?_
    refine j_iadd F dL_law_702 ?_
    refine j_top (nI (6 * t + 1)) (nI_add _ _) ?_
    refine j_sld F hXb hbl hbA hL (6 * t + 1) (by omega) dL_law_703 ?_
    refine j_top x1 hx1.symm ?_
    refine j_scallV F kL_162 (As := [.int x1]) (rest := []) (c_X10_setBound_no l D ay ae vi ga Z x1 hG (by first | assumption | exact ⟨‹_›, ‹_›⟩ | omega)) 57 57 20 rfl rfl rfl rfl rfl rfl ⟨hk.1, hk.2⟩ dL_law_704 (fun v w hw => ?_)
    obtain ⟨vi1, ga1, hG1, hc1, rfl, rfl⟩ := hw
    refine ⟨rfl, (LW ay ad ae o oD Z vi1 ga1 fo fd), rfl, ?_⟩
    refine j_top 0 rfl ?_
    refine j_istore F 7 [(7, .int 0), (6, .int 1), (5, .int (nI (6 * t))), (0, .ref bS), (1, .ref (ad 0)), (2, .ref (ae 0)), (3, .ref o), (4, .ref oD)] dL_law_707 (by decide) rfl ?_
    refine j_aload_n F 5 dL_law_709 rfl ?_
    refine j_scallV F kL_140 (As := []) (rest := []) (c_X10_thrown l D ay ae vi1 ga1) 57 57 20 rfl rfl rfl rfl rfl rfl ⟨hk.1, hk.2⟩ dL_law_710 (fun v w hw => ?_)
    obtain ⟨rfl, rfl⟩ := hw
    refine ⟨rfl, (LW ay ad ae o oD Z vi1 ga1 fo fd), rfl, ?_⟩
    refine j_top 1 hc1 ?_
    refine j_iload F 1 dL_law_713 rfl ?_
    refine j_icmp_eq F 720 dL_law_715 (by decide) (fun c_715 => ?_) (fun c_715 => absurd (by decide) c_715)
    refine j_iload F 1 dL_law_720 rfl ?_
    refine j_if_ne F 737 dL_law_722 (by decide) (fun c_722 => ?_) (fun c_722 => absurd c_722 (by decide))
    refine j_goto F 2682 dL_law_737 (by decide) ?_
    refine j_sub [2, 3, 4, 5, 6, 7] [(5, .int (nI (6 * t))), (0, .ref bS), (1, .ref (ad 0)), (2, .ref (ae 0)), (3, .ref o), (4, .ref oD)] rfl ?_
    exact kk Z vi1 ga1 fo fd hG1

set_option maxHeartbeats 4000000 in
set_option maxRecDepth 100000 in
theorem case_7 (l : Launch) (hfl : l.stackTraces = false) (D : va_G) (ay : Nat → ClassId) (sa : Nat → Nat) (ad ae : Nat → Nat) (o oD bS L : Nat) (xs : Nat → Int32) {p9 : Program} {e9 : Env} {s9 : State} {m9 : MethodId} {a9 : Array Value} {b9 : List Frame} {me9 : Method} {c9 : Code} {A9 : Nat → Prop} {Q9 : State → Prop} (F : jF p9 s9 m9 a9 me9 c9 cL_law 10 RL (some .boolean) D ay A9) (hX : jX sa A9 s9 s9.heap) (hN : jN s9) (hXb : va_X bS L xs s9 s9.heap) (hbl : bS < s9.heap.size) (hbA : ¬ A9 bS) (k n : Nat) (hk : k + 3 ≤ room_1.cells ∧ n + 18 ≤ room_1.slots) (t : Nat) (ht : 6 * t + 6 ≤ L) (hL : L ≤ 3072) (Z : DS) (vi : Nat → Int32) (ga : Nat → Nat → Int32) (fo : Nat → Int64) (fd : Nat → UInt64) (hG : GI Z vi ga) (kk : ∀ (Z' : DS) (vi' : Nat → Int32) (ga' : Nat → Nat → Int32) (fo' : Nat → Int64) (fd' : Nat → UInt64), GI Z' vi' ga' → jJ p9 l e9 room_1 s9 m9 a9 b9 me9 c9 Q9 D A9 10 (k + 3) (n + 18) (LW ay ad ae o oD Z' vi' ga' fo' fd') 2682 [(5, .int (nI (6 * t))), (0, .ref bS), (1, .ref (ad 0)), (2, .ref (ae 0)), (3, .ref o), (4, .ref oD)] []) : jJ p9 l e9 room_1 s9 m9 a9 b9 me9 c9 Q9 D A9 10 k n (LW ay ad ae o oD Z vi ga fo fd) 740 [(5, .int (nI (6 * t))), (0, .ref bS), (1, .ref (ad 0)), (2, .ref (ae 0)), (3, .ref o), (4, .ref oD)] [] := by
  obtain ⟨x1, hx1⟩ : ∃ y, y = xs (6 * t + 1) := ⟨_, rfl⟩
  obtain ⟨x2, hx2⟩ : ∃ y, y = xs (6 * t + 2) := ⟨_, rfl⟩
  refine j_aload_n F 2 dL_law_740 rfl ?_
  refine j_aload_n F 1 dL_law_741 rfl ?_
  refine j_iload F 0 dL_law_742 rfl ?_
  refine j_iconst F (v := 1) dL_law_744 (by decide) ?_
  refine j_iadd F dL_law_745 ?_
  refine j_top (nI (6 * t + 1)) (nI_add _ _) ?_
  refine j_sld F hXb hbl hbA hL (6 * t + 1) (by omega) dL_law_746 ?_
  refine j_top x1 hx1.symm ?_
  refine j_aload_n F 1 dL_law_747 rfl ?_
  refine j_iload F 0 dL_law_748 rfl ?_
  refine j_iconst F (v := 2) dL_law_750 (by decide) ?_
  refine j_iadd F dL_law_751 ?_
  refine j_top (nI (6 * t + 2)) (nI_add _ _) ?_
  refine j_sld F hXb hbl hbA hL (6 * t + 2) (by omega) dL_law_752 ?_
  refine j_top x2 hx2.symm ?_
  refine j_aload_n F 4 dL_law_753 rfl ?_
  refine j_hcallS F hX hN kL_163 (As := [.ref (ad 0), .int x1, .int x2, .ref o]) (rest := []) (h_hasKey l hfl D ay sa ad Z x1 x2 o fo (fun m hm => (hG.1 m hm).1)) 1 56 rfl rfl rfl rfl rfl ⟨hk.1, hk.2⟩ dL_law_754 (fun v w hw => ?_)
  rcases hw with ⟨m, y, g0, g1, rfl, rfl, rfl, rfl⟩ | ⟨g0, rfl, rfl⟩
  · skip
    refine ⟨rfl, (LW ay ad ae o oD Z vi ga (vp_updL fo 0 (if (if fx (Z.2.2 (2 * m)) (nI y) (Z.1 m) < Z.1 m then 1 else 0 : Int32) = 0 then 0 else 1)) fd), rfl, ?_⟩
    refine j_istore F 6 [(6, .int 0), (5, .int (nI (6 * t))), (0, .ref bS), (1, .ref (ad 0)), (2, .ref (ae 0)), (3, .ref o), (4, .ref oD)] dL_law_757 (by decide) rfl ?_
    refine j_aload_n F 4 dL_law_759 rfl ?_
    refine j_aload_n F 2 dL_law_760 rfl ?_
    refine j_iload F 1 dL_law_761 rfl ?_
    refine j_iconst F (v := 1) dL_law_763 (by decide) ?_
    refine j_iadd F dL_law_764 ?_
    refine j_top (nI (6 * t + 1)) (nI_add _ _) ?_
    refine j_sld F hXb hbl hbA hL (6 * t + 1) (by omega) dL_law_765 ?_
    refine j_top (nI m) hx1.symm ?_
    refine j_aload_n F 2 dL_law_766 rfl ?_
    refine j_iload F 1 dL_law_767 rfl ?_
    refine j_iconst F (v := 2) dL_law_769 (by decide) ?_
    refine j_iadd F dL_law_770 ?_
    refine j_top (nI (6 * t + 2)) (nI_add _ _) ?_
    refine j_sld F hXb hbl hbA hL (6 * t + 2) (by omega) dL_law_771 ?_
    refine j_top (nI y) hx2.symm ?_
    refine j_scallV F kL_165 (As := [.int (nI m), .int (nI y)]) (rest := []) (c_X10_hasKey_ok l D ay ae vi ga Z m y hG (by first | assumption | exact ⟨‹_›, ‹_›⟩ | omega) (by first | assumption | exact ⟨‹_›, ‹_›⟩ | omega)) 57 57 20 rfl rfl rfl rfl rfl rfl ⟨hk.1, hk.2⟩ dL_law_772 (fun v w hw => ?_)
    obtain ⟨vi1, ga1, hG1, hc1, rfl, rfl⟩ := hw
    refine ⟨rfl, (LW ay ad ae o oD Z vi1 ga1 (vp_updL fo 0 (if (if fx (Z.2.2 (2 * m)) (nI y) (Z.1 m) < Z.1 m then 1 else 0 : Int32) = 0 then 0 else 1)) fd), rfl, ?_⟩
    refine j_top (if fx (Z.2.2 (2 * m)) (nI y) (Z.1 m) < Z.1 m then 1 else 0) rfl ?_
    refine j_istore F 7 [(7, .int (if fx (Z.2.2 (2 * m)) (nI y) (Z.1 m) < Z.1 m then 1 else 0)), (6, .int 0), (5, .int (nI (6 * t))), (0, .ref bS), (1, .ref (ad 0)), (2, .ref (ae 0)), (3, .ref o), (4, .ref oD)] dL_law_775 (by decide) rfl ?_
    refine j_aload_n F 5 dL_law_777 rfl ?_
    refine j_scallV F kL_140 (As := []) (rest := []) (c_X10_thrown l D ay ae vi1 ga1) 57 57 20 rfl rfl rfl rfl rfl rfl ⟨hk.1, hk.2⟩ dL_law_778 (fun v w hw => ?_)
    obtain ⟨rfl, rfl⟩ := hw
    refine ⟨rfl, (LW ay ad ae o oD Z vi1 ga1 (vp_updL fo 0 (if (if fx (Z.2.2 (2 * m)) (nI y) (Z.1 m) < Z.1 m then 1 else 0 : Int32) = 0 then 0 else 1)) fd), rfl, ?_⟩
    refine j_top 0 hc1 ?_
    refine j_iload F 1 dL_law_781 rfl ?_
    refine j_icmp_eq F 788 dL_law_783 (by decide) (fun c_783 => ?_) (fun c_783 => absurd (by decide) c_783)
    refine j_iload F 1 dL_law_788 rfl ?_
    refine j_if_ne F 812 dL_law_790 (by decide) (fun c_790 => absurd (by decide) c_790) (fun c_790 => ?_)
    refine j_aload_n F 6 dL_law_793 rfl ?_
    refine j_iconst F (v := 0) dL_law_794 (by decide) ?_
    refine j_lald F 56 0 (f := vp_updL fo 0 (if (if fx (Z.2.2 (2 * m)) (nI y) (Z.1 m) < Z.1 m then 1 else 0 : Int32) = 0 then 0 else 1)) rfl rfl (by decide) (Nat.le_of_ble_eq_true rfl) dL_law_795 ?_
    refine j_iload F 0 dL_law_796 rfl ?_
    refine j_if_eq F 805 dL_law_798 (by decide) (fun c_798 => ?_) (fun c_798 => ?_)
    · skip
      refine j_lconst F (v := 0) dL_law_805 (by decide) ?_
      refine j_lcmp F dL_law_806 ?_
      refine j_top 0 ((congrArg (fun z => lg_cmp z 0) ((if_pos c_798 : (if (if fx (Z.2.2 (2 * m)) (nI y) (Z.1 m) < Z.1 m then 1 else 0 : Int32) = 0 then (0 : Int64) else 1) = 0))).trans (lg_self _)) ?_
      refine j_if_eq F 812 dL_law_807 (by decide) (fun c_807 => ?_) (fun c_807 => absurd (by decide) c_807)
      refine j_goto F 2682 dL_law_812 (by decide) ?_
      refine j_sub [2, 3, 4, 5, 6, 7] [(5, .int (nI (6 * t))), (0, .ref bS), (1, .ref (ad 0)), (2, .ref (ae 0)), (3, .ref o), (4, .ref oD)] rfl ?_
      exact kk Z vi1 ga1 (vp_updL fo 0 (if (if fx (Z.2.2 (2 * m)) (nI y) (Z.1 m) < Z.1 m then 1 else 0 : Int32) = 0 then 0 else 1)) fd hG1
    · skip
      refine j_lconst F (v := 1) dL_law_801 (by decide) ?_
      refine j_goto F 806 dL_law_802 (by decide) ?_
      refine j_lcmp F dL_law_806 ?_
      refine j_top 0 ((congrArg (fun z => lg_cmp z 1) ((if_neg c_798 : (if (if fx (Z.2.2 (2 * m)) (nI y) (Z.1 m) < Z.1 m then 1 else 0 : Int32) = 0 then (0 : Int64) else 1) = 1))).trans (lg_self _)) ?_
      refine j_if_eq F 812 dL_law_807 (by decide) (fun c_807 => ?_) (fun c_807 => absurd (by decide) c_807)
      refine j_goto F 2682 dL_law_812 (by decide) ?_
      refine j_sub [2, 3, 4, 5, 6, 7] [(5, .int (nI (6 * t))), (0, .ref bS), (1, .ref (ad 0)), (2, .ref (ae 0)), (3, .ref o), (4, .ref oD)] rfl ?_
      exact kk Z vi1 ga1 (vp_updL fo 0 (if (if fx (Z.2.2 (2 * m)) (nI y) (Z.1 m) < Z.1 m then 1 else 0 : Int32) = 0 then 0 else 1)) fd hG1
  · skip
    refine ⟨rfl, (LW ay ad ae o oD Z vi ga fo fd), rfl, ?_⟩
    refine j_istore F 6 [(6, .int 1), (5, .int (nI (6 * t))), (0, .ref bS), (1, .ref (ad 0)), (2, .ref (ae 0)), (3, .ref o), (4, .ref oD)] dL_law_757 (by decide) rfl ?_
    refine j_aload_n F 4 dL_law_759 rfl ?_
    refine j_aload_n F 2 dL_law_760 rfl ?_
    refine j_iload F 1 dL_law_761 rfl ?_
    refine j_iconst F (v := 1) dL_law_763 (by decide) ?_
    refine j_iadd F dL_law_764 ?_
    refine j_top (nI (6 * t + 1)) (nI_add _ _) ?_
    refine j_sld F hXb hbl hbA hL (6 * t + 1) (by omega) dL_law_765 ?_
    refine j_top x1 hx1.symm ?_
    refine j_aload_n F 2 dL_law_766 rfl ?_
    refine j_iload F 1 dL_law_767 rfl ?_
    refine j_iconst F (v := 2) dL_law_769 (by decide) ?_
    refine j_iadd F dL_law_770 ?_
    refine j_top (nI (6 * t + 2)) (nI_add _ _) ?_
    refine j_sld F hXb hbl hbA hL (6 * t + 2) (by omega) dL_law_771 ?_
    refine j_top x2 hx2.symm ?_
    refine j_scallV F kL_165 (As := [.int x1, .int x2]) (rest := []) (c_X10_hasKey_no l D ay ae vi ga Z x1 x2 hG (by first | assumption | exact ⟨‹_›, ‹_›⟩ | omega)) 57 57 20 rfl rfl rfl rfl rfl rfl ⟨hk.1, hk.2⟩ dL_law_772 (fun v w hw => ?_)
    obtain ⟨vi1, ga1, hG1, hc1, rfl, rfl⟩ := hw
    refine ⟨rfl, (LW ay ad ae o oD Z vi1 ga1 fo fd), rfl, ?_⟩
    refine j_top 0 rfl ?_
    refine j_istore F 7 [(7, .int 0), (6, .int 1), (5, .int (nI (6 * t))), (0, .ref bS), (1, .ref (ad 0)), (2, .ref (ae 0)), (3, .ref o), (4, .ref oD)] dL_law_775 (by decide) rfl ?_
    refine j_aload_n F 5 dL_law_777 rfl ?_
    refine j_scallV F kL_140 (As := []) (rest := []) (c_X10_thrown l D ay ae vi1 ga1) 57 57 20 rfl rfl rfl rfl rfl rfl ⟨hk.1, hk.2⟩ dL_law_778 (fun v w hw => ?_)
    obtain ⟨rfl, rfl⟩ := hw
    refine ⟨rfl, (LW ay ad ae o oD Z vi1 ga1 fo fd), rfl, ?_⟩
    refine j_top 1 hc1 ?_
    refine j_iload F 1 dL_law_781 rfl ?_
    refine j_icmp_eq F 788 dL_law_783 (by decide) (fun c_783 => ?_) (fun c_783 => absurd (by decide) c_783)
    refine j_iload F 1 dL_law_788 rfl ?_
    refine j_if_ne F 812 dL_law_790 (by decide) (fun c_790 => ?_) (fun c_790 => absurd c_790 (by decide))
    refine j_goto F 2682 dL_law_812 (by decide) ?_
    refine j_sub [2, 3, 4, 5, 6, 7] [(5, .int (nI (6 * t))), (0, .ref bS), (1, .ref (ad 0)), (2, .ref (ae 0)), (3, .ref o), (4, .ref oD)] rfl ?_
    exact kk Z vi1 ga1 fo fd hG1

set_option maxHeartbeats 4000000 in
set_option maxRecDepth 100000 in
theorem case_8 (l : Launch) (hfl : l.stackTraces = false) (D : va_G) (ay : Nat → ClassId) (sa : Nat → Nat) (ad ae : Nat → Nat) (o oD bS L : Nat) (xs : Nat → Int32) {p9 : Program} {e9 : Env} {s9 : State} {m9 : MethodId} {a9 : Array Value} {b9 : List Frame} {me9 : Method} {c9 : Code} {A9 : Nat → Prop} {Q9 : State → Prop} (F : jF p9 s9 m9 a9 me9 c9 cL_law 10 RL (some .boolean) D ay A9) (hX : jX sa A9 s9 s9.heap) (hN : jN s9) (hXb : va_X bS L xs s9 s9.heap) (hbl : bS < s9.heap.size) (hbA : ¬ A9 bS) (k n : Nat) (hk : k + 3 ≤ room_1.cells ∧ n + 18 ≤ room_1.slots) (t : Nat) (ht : 6 * t + 6 ≤ L) (hL : L ≤ 3072) (Z : DS) (vi : Nat → Int32) (ga : Nat → Nat → Int32) (fo : Nat → Int64) (fd : Nat → UInt64) (hG : GI Z vi ga) (kk : ∀ (Z' : DS) (vi' : Nat → Int32) (ga' : Nat → Nat → Int32) (fo' : Nat → Int64) (fd' : Nat → UInt64), GI Z' vi' ga' → jJ p9 l e9 room_1 s9 m9 a9 b9 me9 c9 Q9 D A9 10 (k + 3) (n + 18) (LW ay ad ae o oD Z' vi' ga' fo' fd') 2682 [(5, .int (nI (6 * t))), (0, .ref bS), (1, .ref (ad 0)), (2, .ref (ae 0)), (3, .ref o), (4, .ref oD)] []) : jJ p9 l e9 room_1 s9 m9 a9 b9 me9 c9 Q9 D A9 10 k n (LW ay ad ae o oD Z vi ga fo fd) 815 [(5, .int (nI (6 * t))), (0, .ref bS), (1, .ref (ad 0)), (2, .ref (ae 0)), (3, .ref o), (4, .ref oD)] [] := by
  obtain ⟨x1, hx1⟩ : ∃ y, y = xs (6 * t + 1) := ⟨_, rfl⟩
  obtain ⟨x2, hx2⟩ : ∃ y, y = xs (6 * t + 2) := ⟨_, rfl⟩
  refine j_aload_n F 2 dL_law_815 rfl ?_
  refine j_aload_n F 1 dL_law_816 rfl ?_
  refine j_iload F 0 dL_law_817 rfl ?_
  refine j_iconst F (v := 1) dL_law_819 (by decide) ?_
  refine j_iadd F dL_law_820 ?_
  refine j_top (nI (6 * t + 1)) (nI_add _ _) ?_
  refine j_sld F hXb hbl hbA hL (6 * t + 1) (by omega) dL_law_821 ?_
  refine j_top x1 hx1.symm ?_
  refine j_aload_n F 1 dL_law_822 rfl ?_
  refine j_iload F 0 dL_law_823 rfl ?_
  refine j_iconst F (v := 2) dL_law_825 (by decide) ?_
  refine j_iadd F dL_law_826 ?_
  refine j_top (nI (6 * t + 2)) (nI_add _ _) ?_
  refine j_sld F hXb hbl hbA hL (6 * t + 2) (by omega) dL_law_827 ?_
  refine j_top x2 hx2.symm ?_
  refine j_aload_n F 4 dL_law_828 rfl ?_
  refine j_hcallS F hX hN kL_166 (As := [.ref (ad 0), .int x1, .int x2, .ref o]) (rest := []) (h_hasValue l hfl D ay sa ad Z x1 x2 o fo (fun m hm => (hG.1 m hm).1)) 1 56 rfl rfl rfl rfl rfl ⟨hk.1, hk.2⟩ dL_law_829 (fun v w hw => ?_)
  rcases hw with ⟨m, z, g0, g1, rfl, rfl, rfl, rfl⟩ | ⟨g0, rfl, rfl⟩
  · skip
    refine ⟨rfl, (LW ay ad ae o oD Z vi ga (vp_updL fo 0 (if (if fx (fun j => Z.2.2 (2 * m + 1) (kN (Z.2.2 (2 * m)) j)) (nI z) (Z.1 m) < Z.1 m then 1 else 0 : Int32) = 0 then 0 else 1)) fd), rfl, ?_⟩
    refine j_istore F 6 [(6, .int 0), (5, .int (nI (6 * t))), (0, .ref bS), (1, .ref (ad 0)), (2, .ref (ae 0)), (3, .ref o), (4, .ref oD)] dL_law_832 (by decide) rfl ?_
    refine j_aload_n F 4 dL_law_834 rfl ?_
    refine j_aload_n F 2 dL_law_835 rfl ?_
    refine j_iload F 1 dL_law_836 rfl ?_
    refine j_iconst F (v := 1) dL_law_838 (by decide) ?_
    refine j_iadd F dL_law_839 ?_
    refine j_top (nI (6 * t + 1)) (nI_add _ _) ?_
    refine j_sld F hXb hbl hbA hL (6 * t + 1) (by omega) dL_law_840 ?_
    refine j_top (nI m) hx1.symm ?_
    refine j_aload_n F 2 dL_law_841 rfl ?_
    refine j_iload F 1 dL_law_842 rfl ?_
    refine j_iconst F (v := 2) dL_law_844 (by decide) ?_
    refine j_iadd F dL_law_845 ?_
    refine j_top (nI (6 * t + 2)) (nI_add _ _) ?_
    refine j_sld F hXb hbl hbA hL (6 * t + 2) (by omega) dL_law_846 ?_
    refine j_top (nI z) hx2.symm ?_
    refine j_scallV F kL_168 (As := [.int (nI m), .int (nI z)]) (rest := []) (c_X10_hasValue_ok l D ay ae vi ga Z m z hG (by first | assumption | exact ⟨‹_›, ‹_›⟩ | omega) (by first | assumption | exact ⟨‹_›, ‹_›⟩ | omega)) 57 57 20 rfl rfl rfl rfl rfl rfl ⟨hk.1, hk.2⟩ dL_law_847 (fun v w hw => ?_)
    obtain ⟨vi1, ga1, hG1, hc1, rfl, rfl⟩ := hw
    refine ⟨rfl, (LW ay ad ae o oD Z vi1 ga1 (vp_updL fo 0 (if (if fx (fun j => Z.2.2 (2 * m + 1) (kN (Z.2.2 (2 * m)) j)) (nI z) (Z.1 m) < Z.1 m then 1 else 0 : Int32) = 0 then 0 else 1)) fd), rfl, ?_⟩
    refine j_top (if fx (fun j => Z.2.2 (2 * m + 1) (kN (Z.2.2 (2 * m)) j)) (nI z) (Z.1 m) < Z.1 m then 1 else 0) rfl ?_
    refine j_istore F 7 [(7, .int (if fx (fun j => Z.2.2 (2 * m + 1) (kN (Z.2.2 (2 * m)) j)) (nI z) (Z.1 m) < Z.1 m then 1 else 0)), (6, .int 0), (5, .int (nI (6 * t))), (0, .ref bS), (1, .ref (ad 0)), (2, .ref (ae 0)), (3, .ref o), (4, .ref oD)] dL_law_850 (by decide) rfl ?_
    refine j_aload_n F 5 dL_law_852 rfl ?_
    refine j_scallV F kL_140 (As := []) (rest := []) (c_X10_thrown l D ay ae vi1 ga1) 57 57 20 rfl rfl rfl rfl rfl rfl ⟨hk.1, hk.2⟩ dL_law_853 (fun v w hw => ?_)
    obtain ⟨rfl, rfl⟩ := hw
    refine ⟨rfl, (LW ay ad ae o oD Z vi1 ga1 (vp_updL fo 0 (if (if fx (fun j => Z.2.2 (2 * m + 1) (kN (Z.2.2 (2 * m)) j)) (nI z) (Z.1 m) < Z.1 m then 1 else 0 : Int32) = 0 then 0 else 1)) fd), rfl, ?_⟩
    refine j_top 0 hc1 ?_
    refine j_iload F 1 dL_law_856 rfl ?_
    refine j_icmp_eq F 863 dL_law_858 (by decide) (fun c_858 => ?_) (fun c_858 => absurd (by decide) c_858)
    refine j_iload F 1 dL_law_863 rfl ?_
    refine j_if_ne F 887 dL_law_865 (by decide) (fun c_865 => absurd (by decide) c_865) (fun c_865 => ?_)
    refine j_aload_n F 6 dL_law_868 rfl ?_
    refine j_iconst F (v := 0) dL_law_869 (by decide) ?_
    refine j_lald F 56 0 (f := vp_updL fo 0 (if (if fx (fun j => Z.2.2 (2 * m + 1) (kN (Z.2.2 (2 * m)) j)) (nI z) (Z.1 m) < Z.1 m then 1 else 0 : Int32) = 0 then 0 else 1)) rfl rfl (by decide) (Nat.le_of_ble_eq_true rfl) dL_law_870 ?_
    refine j_iload F 0 dL_law_871 rfl ?_
    refine j_if_eq F 880 dL_law_873 (by decide) (fun c_873 => ?_) (fun c_873 => ?_)
    · skip
      refine j_lconst F (v := 0) dL_law_880 (by decide) ?_
      refine j_lcmp F dL_law_881 ?_
      refine j_top 0 ((congrArg (fun z => lg_cmp z 0) ((if_pos c_873 : (if (if fx (fun j => Z.2.2 (2 * m + 1) (kN (Z.2.2 (2 * m)) j)) (nI z) (Z.1 m) < Z.1 m then 1 else 0 : Int32) = 0 then (0 : Int64) else 1) = 0))).trans (lg_self _)) ?_
      refine j_if_eq F 887 dL_law_882 (by decide) (fun c_882 => ?_) (fun c_882 => absurd (by decide) c_882)
      refine j_goto F 2682 dL_law_887 (by decide) ?_
      refine j_sub [2, 3, 4, 5, 6, 7] [(5, .int (nI (6 * t))), (0, .ref bS), (1, .ref (ad 0)), (2, .ref (ae 0)), (3, .ref o), (4, .ref oD)] rfl ?_
      exact kk Z vi1 ga1 (vp_updL fo 0 (if (if fx (fun j => Z.2.2 (2 * m + 1) (kN (Z.2.2 (2 * m)) j)) (nI z) (Z.1 m) < Z.1 m then 1 else 0 : Int32) = 0 then 0 else 1)) fd hG1
    · skip
      refine j_lconst F (v := 1) dL_law_876 (by decide) ?_
      refine j_goto F 881 dL_law_877 (by decide) ?_
      refine j_lcmp F dL_law_881 ?_
      refine j_top 0 ((congrArg (fun z => lg_cmp z 1) ((if_neg c_873 : (if (if fx (fun j => Z.2.2 (2 * m + 1) (kN (Z.2.2 (2 * m)) j)) (nI z) (Z.1 m) < Z.1 m then 1 else 0 : Int32) = 0 then (0 : Int64) else 1) = 1))).trans (lg_self _)) ?_
      refine j_if_eq F 887 dL_law_882 (by decide) (fun c_882 => ?_) (fun c_882 => absurd (by decide) c_882)
      refine j_goto F 2682 dL_law_887 (by decide) ?_
      refine j_sub [2, 3, 4, 5, 6, 7] [(5, .int (nI (6 * t))), (0, .ref bS), (1, .ref (ad 0)), (2, .ref (ae 0)), (3, .ref o), (4, .ref oD)] rfl ?_
      exact kk Z vi1 ga1 (vp_updL fo 0 (if (if fx (fun j => Z.2.2 (2 * m + 1) (kN (Z.2.2 (2 * m)) j)) (nI z) (Z.1 m) < Z.1 m then 1 else 0 : Int32) = 0 then 0 else 1)) fd hG1
  · skip
    refine ⟨rfl, (LW ay ad ae o oD Z vi ga fo fd), rfl, ?_⟩
    refine j_istore F 6 [(6, .int 1), (5, .int (nI (6 * t))), (0, .ref bS), (1, .ref (ad 0)), (2, .ref (ae 0)), (3, .ref o), (4, .ref oD)] dL_law_832 (by decide) rfl ?_
    refine j_aload_n F 4 dL_law_834 rfl ?_
    refine j_aload_n F 2 dL_law_835 rfl ?_
    refine j_iload F 1 dL_law_836 rfl ?_
    refine j_iconst F (v := 1) dL_law_838 (by decide) ?_
    refine j_iadd F dL_law_839 ?_
    refine j_top (nI (6 * t + 1)) (nI_add _ _) ?_
    refine j_sld F hXb hbl hbA hL (6 * t + 1) (by omega) dL_law_840 ?_
    refine j_top x1 hx1.symm ?_
    refine j_aload_n F 2 dL_law_841 rfl ?_
    refine j_iload F 1 dL_law_842 rfl ?_
    refine j_iconst F (v := 2) dL_law_844 (by decide) ?_
    refine j_iadd F dL_law_845 ?_
    refine j_top (nI (6 * t + 2)) (nI_add _ _) ?_
    refine j_sld F hXb hbl hbA hL (6 * t + 2) (by omega) dL_law_846 ?_
    refine j_top x2 hx2.symm ?_
    refine j_scallV F kL_168 (As := [.int x1, .int x2]) (rest := []) (c_X10_hasValue_no l D ay ae vi ga Z x1 x2 hG (by first | assumption | exact ⟨‹_›, ‹_›⟩ | omega)) 57 57 20 rfl rfl rfl rfl rfl rfl ⟨hk.1, hk.2⟩ dL_law_847 (fun v w hw => ?_)
    obtain ⟨vi1, ga1, hG1, hc1, rfl, rfl⟩ := hw
    refine ⟨rfl, (LW ay ad ae o oD Z vi1 ga1 fo fd), rfl, ?_⟩
    refine j_top 0 rfl ?_
    refine j_istore F 7 [(7, .int 0), (6, .int 1), (5, .int (nI (6 * t))), (0, .ref bS), (1, .ref (ad 0)), (2, .ref (ae 0)), (3, .ref o), (4, .ref oD)] dL_law_850 (by decide) rfl ?_
    refine j_aload_n F 5 dL_law_852 rfl ?_
    refine j_scallV F kL_140 (As := []) (rest := []) (c_X10_thrown l D ay ae vi1 ga1) 57 57 20 rfl rfl rfl rfl rfl rfl ⟨hk.1, hk.2⟩ dL_law_853 (fun v w hw => ?_)
    obtain ⟨rfl, rfl⟩ := hw
    refine ⟨rfl, (LW ay ad ae o oD Z vi1 ga1 fo fd), rfl, ?_⟩
    refine j_top 1 hc1 ?_
    refine j_iload F 1 dL_law_856 rfl ?_
    refine j_icmp_eq F 863 dL_law_858 (by decide) (fun c_858 => ?_) (fun c_858 => absurd (by decide) c_858)
    refine j_iload F 1 dL_law_863 rfl ?_
    refine j_if_ne F 887 dL_law_865 (by decide) (fun c_865 => ?_) (fun c_865 => absurd c_865 (by decide))
    refine j_goto F 2682 dL_law_887 (by decide) ?_
    refine j_sub [2, 3, 4, 5, 6, 7] [(5, .int (nI (6 * t))), (0, .ref bS), (1, .ref (ad 0)), (2, .ref (ae 0)), (3, .ref o), (4, .ref oD)] rfl ?_
    exact kk Z vi1 ga1 fo fd hG1

set_option maxHeartbeats 4000000 in
set_option maxRecDepth 100000 in
theorem case_9 (l : Launch) (hfl : l.stackTraces = false) (D : va_G) (ay : Nat → ClassId) (sa : Nat → Nat) (ad ae : Nat → Nat) (o oD bS L : Nat) (xs : Nat → Int32) {p9 : Program} {e9 : Env} {s9 : State} {m9 : MethodId} {a9 : Array Value} {b9 : List Frame} {me9 : Method} {c9 : Code} {A9 : Nat → Prop} {Q9 : State → Prop} (F : jF p9 s9 m9 a9 me9 c9 cL_law 10 RL (some .boolean) D ay A9) (hX : jX sa A9 s9 s9.heap) (hN : jN s9) (hXb : va_X bS L xs s9 s9.heap) (hbl : bS < s9.heap.size) (hbA : ¬ A9 bS) (k n : Nat) (hk : k + 3 ≤ room_1.cells ∧ n + 18 ≤ room_1.slots) (t : Nat) (ht : 6 * t + 6 ≤ L) (hL : L ≤ 3072) (Z : DS) (vi : Nat → Int32) (ga : Nat → Nat → Int32) (fo : Nat → Int64) (fd : Nat → UInt64) (hG : GI Z vi ga) (kk : ∀ (Z' : DS) (vi' : Nat → Int32) (ga' : Nat → Nat → Int32) (fo' : Nat → Int64) (fd' : Nat → UInt64), GI Z' vi' ga' → jJ p9 l e9 room_1 s9 m9 a9 b9 me9 c9 Q9 D A9 10 (k + 3) (n + 18) (LW ay ad ae o oD Z' vi' ga' fo' fd') 2682 [(5, .int (nI (6 * t))), (0, .ref bS), (1, .ref (ad 0)), (2, .ref (ae 0)), (3, .ref o), (4, .ref oD)] []) : jJ p9 l e9 room_1 s9 m9 a9 b9 me9 c9 Q9 D A9 10 k n (LW ay ad ae o oD Z vi ga fo fd) 890 [(5, .int (nI (6 * t))), (0, .ref bS), (1, .ref (ad 0)), (2, .ref (ae 0)), (3, .ref o), (4, .ref oD)] [] := by
  obtain ⟨x1, hx1⟩ : ∃ y, y = xs (6 * t + 1) := ⟨_, rfl⟩
  refine j_aload_n F 2 dL_law_890 rfl ?_
  refine j_aload_n F 1 dL_law_891 rfl ?_
  refine j_iload F 0 dL_law_892 rfl ?_
  refine j_iconst F (v := 1) dL_law_894 (by decide) ?_
  refine j_iadd F dL_law_895 ?_
  refine j_top (nI (6 * t + 1)) (nI_add _ _) ?_
  refine j_sld F hXb hbl hbA hL (6 * t + 1) (by omega) dL_law_896 ?_
  refine j_top x1 hx1.symm ?_
  refine j_aload_n F 4 dL_law_897 rfl ?_
  refine j_hcallS F hX hN kL_169 (As := [.ref (ad 0), .int x1, .ref o]) (rest := []) (h_size l hfl D ay sa ad Z x1 o fo) 1 56 rfl rfl rfl rfl rfl ⟨hk.1, hk.2⟩ dL_law_898 (fun v w hw => ?_)
  rcases hw with ⟨m, g0, rfl, rfl, rfl⟩ | ⟨g0, rfl, rfl⟩
  · skip
    refine ⟨rfl, (LW ay ad ae o oD Z vi ga (vp_updL fo 0 ((nI (Z.1 m) : Int32)).toInt64) fd), rfl, ?_⟩
    refine j_istore F 6 [(6, .int 0), (5, .int (nI (6 * t))), (0, .ref bS), (1, .ref (ad 0)), (2, .ref (ae 0)), (3, .ref o), (4, .ref oD)] dL_law_901 (by decide) rfl ?_
    refine j_aload_n F 4 dL_law_903 rfl ?_
    refine j_aload_n F 2 dL_law_904 rfl ?_
    refine j_iload F 1 dL_law_905 rfl ?_
    refine j_iconst F (v := 1) dL_law_907 (by decide) ?_
    refine j_iadd F dL_law_908 ?_
    refine j_top (nI (6 * t + 1)) (nI_add _ _) ?_
    refine j_sld F hXb hbl hbA hL (6 * t + 1) (by omega) dL_law_909 ?_
    refine j_top (nI m) hx1.symm ?_
    refine j_scallV F kL_171 (As := [.int (nI m)]) (rest := []) (c_X10_size_ok l D ay ae vi ga Z m hG (by first | assumption | exact ⟨‹_›, ‹_›⟩ | omega)) 57 57 20 rfl rfl rfl rfl rfl rfl ⟨hk.1, hk.2⟩ dL_law_910 (fun v w hw => ?_)
    obtain ⟨vi1, ga1, hG1, hc1, rfl, rfl⟩ := hw
    refine ⟨rfl, (LW ay ad ae o oD Z vi1 ga1 (vp_updL fo 0 ((nI (Z.1 m) : Int32)).toInt64) fd), rfl, ?_⟩
    refine j_top (nI (Z.1 m)) rfl ?_
    refine j_istore F 7 [(7, .int (nI (Z.1 m))), (6, .int 0), (5, .int (nI (6 * t))), (0, .ref bS), (1, .ref (ad 0)), (2, .ref (ae 0)), (3, .ref o), (4, .ref oD)] dL_law_913 (by decide) rfl ?_
    refine j_aload_n F 5 dL_law_915 rfl ?_
    refine j_scallV F kL_140 (As := []) (rest := []) (c_X10_thrown l D ay ae vi1 ga1) 57 57 20 rfl rfl rfl rfl rfl rfl ⟨hk.1, hk.2⟩ dL_law_916 (fun v w hw => ?_)
    obtain ⟨rfl, rfl⟩ := hw
    refine ⟨rfl, (LW ay ad ae o oD Z vi1 ga1 (vp_updL fo 0 ((nI (Z.1 m) : Int32)).toInt64) fd), rfl, ?_⟩
    refine j_top 0 hc1 ?_
    refine j_iload F 1 dL_law_919 rfl ?_
    refine j_icmp_eq F 926 dL_law_921 (by decide) (fun c_921 => ?_) (fun c_921 => absurd (by decide) c_921)
    refine j_iload F 1 dL_law_926 rfl ?_
    refine j_if_ne F 943 dL_law_928 (by decide) (fun c_928 => absurd (by decide) c_928) (fun c_928 => ?_)
    refine j_aload_n F 6 dL_law_931 rfl ?_
    refine j_iconst F (v := 0) dL_law_932 (by decide) ?_
    refine j_lald F 56 0 (f := vp_updL fo 0 ((nI (Z.1 m) : Int32)).toInt64) rfl rfl (by decide) (Nat.le_of_ble_eq_true rfl) dL_law_933 ?_
    refine j_iload F 0 dL_law_934 rfl ?_
    refine j_i2l F dL_law_936 ?_
    refine j_lcmp F dL_law_937 ?_
    refine j_top 0 (lg_self _) ?_
    refine j_if_eq F 943 dL_law_938 (by decide) (fun c_938 => ?_) (fun c_938 => absurd (by decide) c_938)
    refine j_goto F 2682 dL_law_943 (by decide) ?_
    refine j_sub [2, 3, 4, 5, 6, 7] [(5, .int (nI (6 * t))), (0, .ref bS), (1, .ref (ad 0)), (2, .ref (ae 0)), (3, .ref o), (4, .ref oD)] rfl ?_
    exact kk Z vi1 ga1 (vp_updL fo 0 ((nI (Z.1 m) : Int32)).toInt64) fd hG1
  · skip
    refine ⟨rfl, (LW ay ad ae o oD Z vi ga fo fd), rfl, ?_⟩
    refine j_istore F 6 [(6, .int 1), (5, .int (nI (6 * t))), (0, .ref bS), (1, .ref (ad 0)), (2, .ref (ae 0)), (3, .ref o), (4, .ref oD)] dL_law_901 (by decide) rfl ?_
    refine j_aload_n F 4 dL_law_903 rfl ?_
    refine j_aload_n F 2 dL_law_904 rfl ?_
    refine j_iload F 1 dL_law_905 rfl ?_
    refine j_iconst F (v := 1) dL_law_907 (by decide) ?_
    refine j_iadd F dL_law_908 ?_
    refine j_top (nI (6 * t + 1)) (nI_add _ _) ?_
    refine j_sld F hXb hbl hbA hL (6 * t + 1) (by omega) dL_law_909 ?_
    refine j_top x1 hx1.symm ?_
    refine j_scallV F kL_171 (As := [.int x1]) (rest := []) (c_X10_size_no l D ay ae vi ga Z x1 hG (by first | assumption | exact ⟨‹_›, ‹_›⟩ | omega)) 57 57 20 rfl rfl rfl rfl rfl rfl ⟨hk.1, hk.2⟩ dL_law_910 (fun v w hw => ?_)
    obtain ⟨vi1, ga1, hG1, hc1, rfl, rfl⟩ := hw
    refine ⟨rfl, (LW ay ad ae o oD Z vi1 ga1 fo fd), rfl, ?_⟩
    refine j_top 0 rfl ?_
    refine j_istore F 7 [(7, .int 0), (6, .int 1), (5, .int (nI (6 * t))), (0, .ref bS), (1, .ref (ad 0)), (2, .ref (ae 0)), (3, .ref o), (4, .ref oD)] dL_law_913 (by decide) rfl ?_
    refine j_aload_n F 5 dL_law_915 rfl ?_
    refine j_scallV F kL_140 (As := []) (rest := []) (c_X10_thrown l D ay ae vi1 ga1) 57 57 20 rfl rfl rfl rfl rfl rfl ⟨hk.1, hk.2⟩ dL_law_916 (fun v w hw => ?_)
    obtain ⟨rfl, rfl⟩ := hw
    refine ⟨rfl, (LW ay ad ae o oD Z vi1 ga1 fo fd), rfl, ?_⟩
    refine j_top 1 hc1 ?_
    refine j_iload F 1 dL_law_919 rfl ?_
    refine j_icmp_eq F 926 dL_law_921 (by decide) (fun c_921 => ?_) (fun c_921 => absurd (by decide) c_921)
    refine j_iload F 1 dL_law_926 rfl ?_
    refine j_if_ne F 943 dL_law_928 (by decide) (fun c_928 => ?_) (fun c_928 => absurd c_928 (by decide))
    refine j_goto F 2682 dL_law_943 (by decide) ?_
    refine j_sub [2, 3, 4, 5, 6, 7] [(5, .int (nI (6 * t))), (0, .ref bS), (1, .ref (ad 0)), (2, .ref (ae 0)), (3, .ref o), (4, .ref oD)] rfl ?_
    exact kk Z vi1 ga1 fo fd hG1

set_option maxHeartbeats 4000000 in
set_option maxRecDepth 100000 in
theorem case_10 (l : Launch) (hfl : l.stackTraces = false) (D : va_G) (ay : Nat → ClassId) (sa : Nat → Nat) (ad ae : Nat → Nat) (o oD bS L : Nat) (xs : Nat → Int32) {p9 : Program} {e9 : Env} {s9 : State} {m9 : MethodId} {a9 : Array Value} {b9 : List Frame} {me9 : Method} {c9 : Code} {A9 : Nat → Prop} {Q9 : State → Prop} (F : jF p9 s9 m9 a9 me9 c9 cL_law 10 RL (some .boolean) D ay A9) (hX : jX sa A9 s9 s9.heap) (hN : jN s9) (hXb : va_X bS L xs s9 s9.heap) (hbl : bS < s9.heap.size) (hbA : ¬ A9 bS) (k n : Nat) (hk : k + 3 ≤ room_1.cells ∧ n + 18 ≤ room_1.slots) (t : Nat) (ht : 6 * t + 6 ≤ L) (hL : L ≤ 3072) (Z : DS) (vi : Nat → Int32) (ga : Nat → Nat → Int32) (fo : Nat → Int64) (fd : Nat → UInt64) (hG : GI Z vi ga) (kk : ∀ (Z' : DS) (vi' : Nat → Int32) (ga' : Nat → Nat → Int32) (fo' : Nat → Int64) (fd' : Nat → UInt64), GI Z' vi' ga' → jJ p9 l e9 room_1 s9 m9 a9 b9 me9 c9 Q9 D A9 10 (k + 3) (n + 18) (LW ay ad ae o oD Z' vi' ga' fo' fd') 2682 [(5, .int (nI (6 * t))), (0, .ref bS), (1, .ref (ad 0)), (2, .ref (ae 0)), (3, .ref o), (4, .ref oD)] []) : jJ p9 l e9 room_1 s9 m9 a9 b9 me9 c9 Q9 D A9 10 k n (LW ay ad ae o oD Z vi ga fo fd) 946 [(5, .int (nI (6 * t))), (0, .ref bS), (1, .ref (ad 0)), (2, .ref (ae 0)), (3, .ref o), (4, .ref oD)] [] := by
  obtain ⟨x1, hx1⟩ : ∃ y, y = xs (6 * t + 1) := ⟨_, rfl⟩
  obtain ⟨x2, hx2⟩ : ∃ y, y = xs (6 * t + 2) := ⟨_, rfl⟩
  refine j_aload_n F 2 dL_law_946 rfl ?_
  refine j_aload_n F 1 dL_law_947 rfl ?_
  refine j_iload F 0 dL_law_948 rfl ?_
  refine j_iconst F (v := 1) dL_law_950 (by decide) ?_
  refine j_iadd F dL_law_951 ?_
  refine j_top (nI (6 * t + 1)) (nI_add _ _) ?_
  refine j_sld F hXb hbl hbA hL (6 * t + 1) (by omega) dL_law_952 ?_
  refine j_top x1 hx1.symm ?_
  refine j_aload_n F 1 dL_law_953 rfl ?_
  refine j_iload F 0 dL_law_954 rfl ?_
  refine j_iconst F (v := 2) dL_law_956 (by decide) ?_
  refine j_iadd F dL_law_957 ?_
  refine j_top (nI (6 * t + 2)) (nI_add _ _) ?_
  refine j_sld F hXb hbl hbA hL (6 * t + 2) (by omega) dL_law_958 ?_
  refine j_top x2 hx2.symm ?_
  refine j_aload_n F 4 dL_law_959 rfl ?_
  refine j_hcallS F hX hN kL_172 (As := [.ref (ad 0), .int x1, .int x2, .ref o]) (rest := []) (h_keyAt l hfl D ay sa ad Z x1 x2 o fo (fun m hm => (hG.1 m hm).1)) 1 56 rfl rfl rfl rfl rfl ⟨hk.1, hk.2⟩ dL_law_960 (fun v w hw => ?_)
  rcases hw with ⟨m, j, g0, g1, rfl, rfl, rfl, rfl⟩ | ⟨g0, rfl, rfl⟩ | ⟨⟨m, g0, rfl, g2⟩, rfl, rfl⟩
  · skip
    refine ⟨rfl, (LW ay ad ae o oD Z vi ga (vp_updL fo 0 ((Z.2.2 (2 * m) j : Int32)).toInt64) fd), rfl, ?_⟩
    refine j_istore F 6 [(6, .int 0), (5, .int (nI (6 * t))), (0, .ref bS), (1, .ref (ad 0)), (2, .ref (ae 0)), (3, .ref o), (4, .ref oD)] dL_law_963 (by decide) rfl ?_
    refine j_aload_n F 4 dL_law_965 rfl ?_
    refine j_aload_n F 2 dL_law_966 rfl ?_
    refine j_iload F 1 dL_law_967 rfl ?_
    refine j_iconst F (v := 1) dL_law_969 (by decide) ?_
    refine j_iadd F dL_law_970 ?_
    refine j_top (nI (6 * t + 1)) (nI_add _ _) ?_
    refine j_sld F hXb hbl hbA hL (6 * t + 1) (by omega) dL_law_971 ?_
    refine j_top (nI m) hx1.symm ?_
    refine j_aload_n F 2 dL_law_972 rfl ?_
    refine j_iload F 1 dL_law_973 rfl ?_
    refine j_iconst F (v := 2) dL_law_975 (by decide) ?_
    refine j_iadd F dL_law_976 ?_
    refine j_top (nI (6 * t + 2)) (nI_add _ _) ?_
    refine j_sld F hXb hbl hbA hL (6 * t + 2) (by omega) dL_law_977 ?_
    refine j_top (nI j) hx2.symm ?_
    refine j_scallV F kL_174 (As := [.int (nI m), .int (nI j)]) (rest := []) (c_X10_keyAt_ok l D ay ae vi ga Z m j hG (by first | assumption | exact ⟨‹_›, ‹_›⟩ | omega) (by first | assumption | exact ⟨‹_›, ‹_›⟩ | omega)) 57 57 20 rfl rfl rfl rfl rfl rfl ⟨hk.1, hk.2⟩ dL_law_978 (fun v w hw => ?_)
    obtain ⟨vi1, ga1, hG1, hc1, rfl, rfl⟩ := hw
    refine ⟨rfl, (LW ay ad ae o oD Z vi1 ga1 (vp_updL fo 0 ((Z.2.2 (2 * m) j : Int32)).toInt64) fd), rfl, ?_⟩
    refine j_top (Z.2.2 (2 * m) j) rfl ?_
    refine j_istore F 7 [(7, .int (Z.2.2 (2 * m) j)), (6, .int 0), (5, .int (nI (6 * t))), (0, .ref bS), (1, .ref (ad 0)), (2, .ref (ae 0)), (3, .ref o), (4, .ref oD)] dL_law_981 (by decide) rfl ?_
    refine j_aload_n F 5 dL_law_983 rfl ?_
    refine j_scallV F kL_140 (As := []) (rest := []) (c_X10_thrown l D ay ae vi1 ga1) 57 57 20 rfl rfl rfl rfl rfl rfl ⟨hk.1, hk.2⟩ dL_law_984 (fun v w hw => ?_)
    obtain ⟨rfl, rfl⟩ := hw
    refine ⟨rfl, (LW ay ad ae o oD Z vi1 ga1 (vp_updL fo 0 ((Z.2.2 (2 * m) j : Int32)).toInt64) fd), rfl, ?_⟩
    refine j_top 0 hc1 ?_
    refine j_iload F 1 dL_law_987 rfl ?_
    refine j_icmp_eq F 994 dL_law_989 (by decide) (fun c_989 => ?_) (fun c_989 => absurd (by decide) c_989)
    refine j_iload F 1 dL_law_994 rfl ?_
    refine j_if_ne F 1011 dL_law_996 (by decide) (fun c_996 => absurd (by decide) c_996) (fun c_996 => ?_)
    refine j_aload_n F 6 dL_law_999 rfl ?_
    refine j_iconst F (v := 0) dL_law_1000 (by decide) ?_
    refine j_lald F 56 0 (f := vp_updL fo 0 ((Z.2.2 (2 * m) j : Int32)).toInt64) rfl rfl (by decide) (Nat.le_of_ble_eq_true rfl) dL_law_1001 ?_
    refine j_iload F 0 dL_law_1002 rfl ?_
    refine j_i2l F dL_law_1004 ?_
    refine j_lcmp F dL_law_1005 ?_
    refine j_top 0 (lg_self _) ?_
    refine j_if_eq F 1011 dL_law_1006 (by decide) (fun c_1006 => ?_) (fun c_1006 => absurd (by decide) c_1006)
    refine j_goto F 2682 dL_law_1011 (by decide) ?_
    refine j_sub [2, 3, 4, 5, 6, 7] [(5, .int (nI (6 * t))), (0, .ref bS), (1, .ref (ad 0)), (2, .ref (ae 0)), (3, .ref o), (4, .ref oD)] rfl ?_
    exact kk Z vi1 ga1 (vp_updL fo 0 ((Z.2.2 (2 * m) j : Int32)).toInt64) fd hG1
  · skip
    refine ⟨rfl, (LW ay ad ae o oD Z vi ga fo fd), rfl, ?_⟩
    refine j_istore F 6 [(6, .int 1), (5, .int (nI (6 * t))), (0, .ref bS), (1, .ref (ad 0)), (2, .ref (ae 0)), (3, .ref o), (4, .ref oD)] dL_law_963 (by decide) rfl ?_
    refine j_aload_n F 4 dL_law_965 rfl ?_
    refine j_aload_n F 2 dL_law_966 rfl ?_
    refine j_iload F 1 dL_law_967 rfl ?_
    refine j_iconst F (v := 1) dL_law_969 (by decide) ?_
    refine j_iadd F dL_law_970 ?_
    refine j_top (nI (6 * t + 1)) (nI_add _ _) ?_
    refine j_sld F hXb hbl hbA hL (6 * t + 1) (by omega) dL_law_971 ?_
    refine j_top x1 hx1.symm ?_
    refine j_aload_n F 2 dL_law_972 rfl ?_
    refine j_iload F 1 dL_law_973 rfl ?_
    refine j_iconst F (v := 2) dL_law_975 (by decide) ?_
    refine j_iadd F dL_law_976 ?_
    refine j_top (nI (6 * t + 2)) (nI_add _ _) ?_
    refine j_sld F hXb hbl hbA hL (6 * t + 2) (by omega) dL_law_977 ?_
    refine j_top x2 hx2.symm ?_
    refine j_scallV F kL_174 (As := [.int x1, .int x2]) (rest := []) (c_X10_keyAt_no1 l D ay ae vi ga Z x1 x2 hG (by first | assumption | exact ⟨‹_›, ‹_›⟩ | omega)) 57 57 20 rfl rfl rfl rfl rfl rfl ⟨hk.1, hk.2⟩ dL_law_978 (fun v w hw => ?_)
    obtain ⟨vi1, ga1, hG1, hc1, rfl, rfl⟩ := hw
    refine ⟨rfl, (LW ay ad ae o oD Z vi1 ga1 fo fd), rfl, ?_⟩
    refine j_top 0 rfl ?_
    refine j_istore F 7 [(7, .int 0), (6, .int 1), (5, .int (nI (6 * t))), (0, .ref bS), (1, .ref (ad 0)), (2, .ref (ae 0)), (3, .ref o), (4, .ref oD)] dL_law_981 (by decide) rfl ?_
    refine j_aload_n F 5 dL_law_983 rfl ?_
    refine j_scallV F kL_140 (As := []) (rest := []) (c_X10_thrown l D ay ae vi1 ga1) 57 57 20 rfl rfl rfl rfl rfl rfl ⟨hk.1, hk.2⟩ dL_law_984 (fun v w hw => ?_)
    obtain ⟨rfl, rfl⟩ := hw
    refine ⟨rfl, (LW ay ad ae o oD Z vi1 ga1 fo fd), rfl, ?_⟩
    refine j_top 1 hc1 ?_
    refine j_iload F 1 dL_law_987 rfl ?_
    refine j_icmp_eq F 994 dL_law_989 (by decide) (fun c_989 => ?_) (fun c_989 => absurd (by decide) c_989)
    refine j_iload F 1 dL_law_994 rfl ?_
    refine j_if_ne F 1011 dL_law_996 (by decide) (fun c_996 => ?_) (fun c_996 => absurd c_996 (by decide))
    refine j_goto F 2682 dL_law_1011 (by decide) ?_
    refine j_sub [2, 3, 4, 5, 6, 7] [(5, .int (nI (6 * t))), (0, .ref bS), (1, .ref (ad 0)), (2, .ref (ae 0)), (3, .ref o), (4, .ref oD)] rfl ?_
    exact kk Z vi1 ga1 fo fd hG1
  · skip
    refine ⟨rfl, (LW ay ad ae o oD Z vi ga fo fd), rfl, ?_⟩
    refine j_istore F 6 [(6, .int 2), (5, .int (nI (6 * t))), (0, .ref bS), (1, .ref (ad 0)), (2, .ref (ae 0)), (3, .ref o), (4, .ref oD)] dL_law_963 (by decide) rfl ?_
    refine j_aload_n F 4 dL_law_965 rfl ?_
    refine j_aload_n F 2 dL_law_966 rfl ?_
    refine j_iload F 1 dL_law_967 rfl ?_
    refine j_iconst F (v := 1) dL_law_969 (by decide) ?_
    refine j_iadd F dL_law_970 ?_
    refine j_top (nI (6 * t + 1)) (nI_add _ _) ?_
    refine j_sld F hXb hbl hbA hL (6 * t + 1) (by omega) dL_law_971 ?_
    refine j_top (nI m) hx1.symm ?_
    refine j_aload_n F 2 dL_law_972 rfl ?_
    refine j_iload F 1 dL_law_973 rfl ?_
    refine j_iconst F (v := 2) dL_law_975 (by decide) ?_
    refine j_iadd F dL_law_976 ?_
    refine j_top (nI (6 * t + 2)) (nI_add _ _) ?_
    refine j_sld F hXb hbl hbA hL (6 * t + 2) (by omega) dL_law_977 ?_
    refine j_top x2 hx2.symm ?_
    refine j_scallV F kL_174 (As := [.int (nI m), .int x2]) (rest := []) (c_X10_keyAt_no2 l D ay ae vi ga Z m x2 hG (by first | assumption | exact ⟨‹_›, ‹_›⟩ | omega) (by first | assumption | exact ⟨‹_›, ‹_›⟩ | omega)) 57 57 20 rfl rfl rfl rfl rfl rfl ⟨hk.1, hk.2⟩ dL_law_978 (fun v w hw => ?_)
    obtain ⟨vi1, ga1, hG1, hc1, rfl, rfl⟩ := hw
    refine ⟨rfl, (LW ay ad ae o oD Z vi1 ga1 fo fd), rfl, ?_⟩
    refine j_top 0 rfl ?_
    refine j_istore F 7 [(7, .int 0), (6, .int 2), (5, .int (nI (6 * t))), (0, .ref bS), (1, .ref (ad 0)), (2, .ref (ae 0)), (3, .ref o), (4, .ref oD)] dL_law_981 (by decide) rfl ?_
    refine j_aload_n F 5 dL_law_983 rfl ?_
    refine j_scallV F kL_140 (As := []) (rest := []) (c_X10_thrown l D ay ae vi1 ga1) 57 57 20 rfl rfl rfl rfl rfl rfl ⟨hk.1, hk.2⟩ dL_law_984 (fun v w hw => ?_)
    obtain ⟨rfl, rfl⟩ := hw
    refine ⟨rfl, (LW ay ad ae o oD Z vi1 ga1 fo fd), rfl, ?_⟩
    refine j_top 2 hc1 ?_
    refine j_iload F 1 dL_law_987 rfl ?_
    refine j_icmp_eq F 994 dL_law_989 (by decide) (fun c_989 => ?_) (fun c_989 => absurd (by decide) c_989)
    refine j_iload F 1 dL_law_994 rfl ?_
    refine j_if_ne F 1011 dL_law_996 (by decide) (fun c_996 => ?_) (fun c_996 => absurd c_996 (by decide))
    refine j_goto F 2682 dL_law_1011 (by decide) ?_
    refine j_sub [2, 3, 4, 5, 6, 7] [(5, .int (nI (6 * t))), (0, .ref bS), (1, .ref (ad 0)), (2, .ref (ae 0)), (3, .ref o), (4, .ref oD)] rfl ?_
    exact kk Z vi1 ga1 fo fd hG1

set_option maxHeartbeats 4000000 in
set_option maxRecDepth 100000 in
theorem case_11 (l : Launch) (hfl : l.stackTraces = false) (D : va_G) (ay : Nat → ClassId) (sa : Nat → Nat) (ad ae : Nat → Nat) (o oD bS L : Nat) (xs : Nat → Int32) {p9 : Program} {e9 : Env} {s9 : State} {m9 : MethodId} {a9 : Array Value} {b9 : List Frame} {me9 : Method} {c9 : Code} {A9 : Nat → Prop} {Q9 : State → Prop} (F : jF p9 s9 m9 a9 me9 c9 cL_law 10 RL (some .boolean) D ay A9) (hX : jX sa A9 s9 s9.heap) (hN : jN s9) (hXb : va_X bS L xs s9 s9.heap) (hbl : bS < s9.heap.size) (hbA : ¬ A9 bS) (k n : Nat) (hk : k + 3 ≤ room_1.cells ∧ n + 18 ≤ room_1.slots) (t : Nat) (ht : 6 * t + 6 ≤ L) (hL : L ≤ 3072) (Z : DS) (vi : Nat → Int32) (ga : Nat → Nat → Int32) (fo : Nat → Int64) (fd : Nat → UInt64) (hG : GI Z vi ga) (kk : ∀ (Z' : DS) (vi' : Nat → Int32) (ga' : Nat → Nat → Int32) (fo' : Nat → Int64) (fd' : Nat → UInt64), GI Z' vi' ga' → jJ p9 l e9 room_1 s9 m9 a9 b9 me9 c9 Q9 D A9 10 (k + 3) (n + 18) (LW ay ad ae o oD Z' vi' ga' fo' fd') 2682 [(5, .int (nI (6 * t))), (0, .ref bS), (1, .ref (ad 0)), (2, .ref (ae 0)), (3, .ref o), (4, .ref oD)] []) : jJ p9 l e9 room_1 s9 m9 a9 b9 me9 c9 Q9 D A9 10 k n (LW ay ad ae o oD Z vi ga fo fd) 1014 [(5, .int (nI (6 * t))), (0, .ref bS), (1, .ref (ad 0)), (2, .ref (ae 0)), (3, .ref o), (4, .ref oD)] [] := by
  obtain ⟨x1, hx1⟩ : ∃ y, y = xs (6 * t + 1) := ⟨_, rfl⟩
  obtain ⟨x2, hx2⟩ : ∃ y, y = xs (6 * t + 2) := ⟨_, rfl⟩
  refine j_aload_n F 2 dL_law_1014 rfl ?_
  refine j_aload_n F 1 dL_law_1015 rfl ?_
  refine j_iload F 0 dL_law_1016 rfl ?_
  refine j_iconst F (v := 1) dL_law_1018 (by decide) ?_
  refine j_iadd F dL_law_1019 ?_
  refine j_top (nI (6 * t + 1)) (nI_add _ _) ?_
  refine j_sld F hXb hbl hbA hL (6 * t + 1) (by omega) dL_law_1020 ?_
  refine j_top x1 hx1.symm ?_
  refine j_aload_n F 1 dL_law_1021 rfl ?_
  refine j_iload F 0 dL_law_1022 rfl ?_
  refine j_iconst F (v := 2) dL_law_1024 (by decide) ?_
  refine j_iadd F dL_law_1025 ?_
  refine j_top (nI (6 * t + 2)) (nI_add _ _) ?_
  refine j_sld F hXb hbl hbA hL (6 * t + 2) (by omega) dL_law_1026 ?_
  refine j_top x2 hx2.symm ?_
  refine j_aload_n F 4 dL_law_1027 rfl ?_
  refine j_hcallS F hX hN kL_175 (As := [.ref (ad 0), .int x1, .int x2, .ref o]) (rest := []) (h_valueAt l hfl D ay sa ad Z x1 x2 o fo (fun m hm => (hG.1 m hm).1)) 1 56 rfl rfl rfl rfl rfl ⟨hk.1, hk.2⟩ dL_law_1028 (fun v w hw => ?_)
  rcases hw with ⟨m, j, g0, g1, rfl, rfl, rfl, rfl⟩ | ⟨g0, rfl, rfl⟩ | ⟨⟨m, g0, rfl, g2⟩, rfl, rfl⟩
  · skip
    refine ⟨rfl, (LW ay ad ae o oD Z vi ga (vp_updL fo 0 ((Z.2.2 (2 * m + 1) (kN (Z.2.2 (2 * m)) j) : Int32)).toInt64) fd), rfl, ?_⟩
    refine j_istore F 6 [(6, .int 0), (5, .int (nI (6 * t))), (0, .ref bS), (1, .ref (ad 0)), (2, .ref (ae 0)), (3, .ref o), (4, .ref oD)] dL_law_1031 (by decide) rfl ?_
    refine j_aload_n F 4 dL_law_1033 rfl ?_
    refine j_aload_n F 2 dL_law_1034 rfl ?_
    refine j_iload F 1 dL_law_1035 rfl ?_
    refine j_iconst F (v := 1) dL_law_1037 (by decide) ?_
    refine j_iadd F dL_law_1038 ?_
    refine j_top (nI (6 * t + 1)) (nI_add _ _) ?_
    refine j_sld F hXb hbl hbA hL (6 * t + 1) (by omega) dL_law_1039 ?_
    refine j_top (nI m) hx1.symm ?_
    refine j_aload_n F 2 dL_law_1040 rfl ?_
    refine j_iload F 1 dL_law_1041 rfl ?_
    refine j_iconst F (v := 2) dL_law_1043 (by decide) ?_
    refine j_iadd F dL_law_1044 ?_
    refine j_top (nI (6 * t + 2)) (nI_add _ _) ?_
    refine j_sld F hXb hbl hbA hL (6 * t + 2) (by omega) dL_law_1045 ?_
    refine j_top (nI j) hx2.symm ?_
    refine j_scallV F kL_177 (As := [.int (nI m), .int (nI j)]) (rest := []) (c_X10_valueAt_ok l D ay ae vi ga Z m j hG (by first | assumption | exact ⟨‹_›, ‹_›⟩ | omega) (by first | assumption | exact ⟨‹_›, ‹_›⟩ | omega)) 57 57 20 rfl rfl rfl rfl rfl rfl ⟨hk.1, hk.2⟩ dL_law_1046 (fun v w hw => ?_)
    obtain ⟨vi1, ga1, hG1, hc1, rfl, rfl⟩ := hw
    refine ⟨rfl, (LW ay ad ae o oD Z vi1 ga1 (vp_updL fo 0 ((Z.2.2 (2 * m + 1) (kN (Z.2.2 (2 * m)) j) : Int32)).toInt64) fd), rfl, ?_⟩
    refine j_top (Z.2.2 (2 * m + 1) (kN (Z.2.2 (2 * m)) j)) rfl ?_
    refine j_istore F 7 [(7, .int (Z.2.2 (2 * m + 1) (kN (Z.2.2 (2 * m)) j))), (6, .int 0), (5, .int (nI (6 * t))), (0, .ref bS), (1, .ref (ad 0)), (2, .ref (ae 0)), (3, .ref o), (4, .ref oD)] dL_law_1049 (by decide) rfl ?_
    refine j_aload_n F 5 dL_law_1051 rfl ?_
    refine j_scallV F kL_140 (As := []) (rest := []) (c_X10_thrown l D ay ae vi1 ga1) 57 57 20 rfl rfl rfl rfl rfl rfl ⟨hk.1, hk.2⟩ dL_law_1052 (fun v w hw => ?_)
    obtain ⟨rfl, rfl⟩ := hw
    refine ⟨rfl, (LW ay ad ae o oD Z vi1 ga1 (vp_updL fo 0 ((Z.2.2 (2 * m + 1) (kN (Z.2.2 (2 * m)) j) : Int32)).toInt64) fd), rfl, ?_⟩
    refine j_top 0 hc1 ?_
    refine j_iload F 1 dL_law_1055 rfl ?_
    refine j_icmp_eq F 1062 dL_law_1057 (by decide) (fun c_1057 => ?_) (fun c_1057 => absurd (by decide) c_1057)
    refine j_iload F 1 dL_law_1062 rfl ?_
    refine j_if_ne F 1079 dL_law_1064 (by decide) (fun c_1064 => absurd (by decide) c_1064) (fun c_1064 => ?_)
    refine j_aload_n F 6 dL_law_1067 rfl ?_
    refine j_iconst F (v := 0) dL_law_1068 (by decide) ?_
    refine j_lald F 56 0 (f := vp_updL fo 0 ((Z.2.2 (2 * m + 1) (kN (Z.2.2 (2 * m)) j) : Int32)).toInt64) rfl rfl (by decide) (Nat.le_of_ble_eq_true rfl) dL_law_1069 ?_
    refine j_iload F 0 dL_law_1070 rfl ?_
    refine j_i2l F dL_law_1072 ?_
    refine j_lcmp F dL_law_1073 ?_
    refine j_top 0 (lg_self _) ?_
    refine j_if_eq F 1079 dL_law_1074 (by decide) (fun c_1074 => ?_) (fun c_1074 => absurd (by decide) c_1074)
    refine j_goto F 2682 dL_law_1079 (by decide) ?_
    refine j_sub [2, 3, 4, 5, 6, 7] [(5, .int (nI (6 * t))), (0, .ref bS), (1, .ref (ad 0)), (2, .ref (ae 0)), (3, .ref o), (4, .ref oD)] rfl ?_
    exact kk Z vi1 ga1 (vp_updL fo 0 ((Z.2.2 (2 * m + 1) (kN (Z.2.2 (2 * m)) j) : Int32)).toInt64) fd hG1
  · skip
    refine ⟨rfl, (LW ay ad ae o oD Z vi ga fo fd), rfl, ?_⟩
    refine j_istore F 6 [(6, .int 1), (5, .int (nI (6 * t))), (0, .ref bS), (1, .ref (ad 0)), (2, .ref (ae 0)), (3, .ref o), (4, .ref oD)] dL_law_1031 (by decide) rfl ?_
    refine j_aload_n F 4 dL_law_1033 rfl ?_
    refine j_aload_n F 2 dL_law_1034 rfl ?_
    refine j_iload F 1 dL_law_1035 rfl ?_
    refine j_iconst F (v := 1) dL_law_1037 (by decide) ?_
    refine j_iadd F dL_law_1038 ?_
    refine j_top (nI (6 * t + 1)) (nI_add _ _) ?_
    refine j_sld F hXb hbl hbA hL (6 * t + 1) (by omega) dL_law_1039 ?_
    refine j_top x1 hx1.symm ?_
    refine j_aload_n F 2 dL_law_1040 rfl ?_
    refine j_iload F 1 dL_law_1041 rfl ?_
    refine j_iconst F (v := 2) dL_law_1043 (by decide) ?_
    refine j_iadd F dL_law_1044 ?_
    refine j_top (nI (6 * t + 2)) (nI_add _ _) ?_
    refine j_sld F hXb hbl hbA hL (6 * t + 2) (by omega) dL_law_1045 ?_
    refine j_top x2 hx2.symm ?_
    refine j_scallV F kL_177 (As := [.int x1, .int x2]) (rest := []) (c_X10_valueAt_no1 l D ay ae vi ga Z x1 x2 hG (by first | assumption | exact ⟨‹_›, ‹_›⟩ | omega)) 57 57 20 rfl rfl rfl rfl rfl rfl ⟨hk.1, hk.2⟩ dL_law_1046 (fun v w hw => ?_)
    obtain ⟨vi1, ga1, hG1, hc1, rfl, rfl⟩ := hw
    refine ⟨rfl, (LW ay ad ae o oD Z vi1 ga1 fo fd), rfl, ?_⟩
    refine j_top 0 rfl ?_
    refine j_istore F 7 [(7, .int 0), (6, .int 1), (5, .int (nI (6 * t))), (0, .ref bS), (1, .ref (ad 0)), (2, .ref (ae 0)), (3, .ref o), (4, .ref oD)] dL_law_1049 (by decide) rfl ?_
    refine j_aload_n F 5 dL_law_1051 rfl ?_
    refine j_scallV F kL_140 (As := []) (rest := []) (c_X10_thrown l D ay ae vi1 ga1) 57 57 20 rfl rfl rfl rfl rfl rfl ⟨hk.1, hk.2⟩ dL_law_1052 (fun v w hw => ?_)
    obtain ⟨rfl, rfl⟩ := hw
    refine ⟨rfl, (LW ay ad ae o oD Z vi1 ga1 fo fd), rfl, ?_⟩
    refine j_top 1 hc1 ?_
    refine j_iload F 1 dL_law_1055 rfl ?_
    refine j_icmp_eq F 1062 dL_law_1057 (by decide) (fun c_1057 => ?_) (fun c_1057 => absurd (by decide) c_1057)
    refine j_iload F 1 dL_law_1062 rfl ?_
    refine j_if_ne F 1079 dL_law_1064 (by decide) (fun c_1064 => ?_) (fun c_1064 => absurd c_1064 (by decide))
    refine j_goto F 2682 dL_law_1079 (by decide) ?_
    refine j_sub [2, 3, 4, 5, 6, 7] [(5, .int (nI (6 * t))), (0, .ref bS), (1, .ref (ad 0)), (2, .ref (ae 0)), (3, .ref o), (4, .ref oD)] rfl ?_
    exact kk Z vi1 ga1 fo fd hG1
  · skip
    refine ⟨rfl, (LW ay ad ae o oD Z vi ga fo fd), rfl, ?_⟩
    refine j_istore F 6 [(6, .int 2), (5, .int (nI (6 * t))), (0, .ref bS), (1, .ref (ad 0)), (2, .ref (ae 0)), (3, .ref o), (4, .ref oD)] dL_law_1031 (by decide) rfl ?_
    refine j_aload_n F 4 dL_law_1033 rfl ?_
    refine j_aload_n F 2 dL_law_1034 rfl ?_
    refine j_iload F 1 dL_law_1035 rfl ?_
    refine j_iconst F (v := 1) dL_law_1037 (by decide) ?_
    refine j_iadd F dL_law_1038 ?_
    refine j_top (nI (6 * t + 1)) (nI_add _ _) ?_
    refine j_sld F hXb hbl hbA hL (6 * t + 1) (by omega) dL_law_1039 ?_
    refine j_top (nI m) hx1.symm ?_
    refine j_aload_n F 2 dL_law_1040 rfl ?_
    refine j_iload F 1 dL_law_1041 rfl ?_
    refine j_iconst F (v := 2) dL_law_1043 (by decide) ?_
    refine j_iadd F dL_law_1044 ?_
    refine j_top (nI (6 * t + 2)) (nI_add _ _) ?_
    refine j_sld F hXb hbl hbA hL (6 * t + 2) (by omega) dL_law_1045 ?_
    refine j_top x2 hx2.symm ?_
    refine j_scallV F kL_177 (As := [.int (nI m), .int x2]) (rest := []) (c_X10_valueAt_no2 l D ay ae vi ga Z m x2 hG (by first | assumption | exact ⟨‹_›, ‹_›⟩ | omega) (by first | assumption | exact ⟨‹_›, ‹_›⟩ | omega)) 57 57 20 rfl rfl rfl rfl rfl rfl ⟨hk.1, hk.2⟩ dL_law_1046 (fun v w hw => ?_)
    obtain ⟨vi1, ga1, hG1, hc1, rfl, rfl⟩ := hw
    refine ⟨rfl, (LW ay ad ae o oD Z vi1 ga1 fo fd), rfl, ?_⟩
    refine j_top 0 rfl ?_
    refine j_istore F 7 [(7, .int 0), (6, .int 2), (5, .int (nI (6 * t))), (0, .ref bS), (1, .ref (ad 0)), (2, .ref (ae 0)), (3, .ref o), (4, .ref oD)] dL_law_1049 (by decide) rfl ?_
    refine j_aload_n F 5 dL_law_1051 rfl ?_
    refine j_scallV F kL_140 (As := []) (rest := []) (c_X10_thrown l D ay ae vi1 ga1) 57 57 20 rfl rfl rfl rfl rfl rfl ⟨hk.1, hk.2⟩ dL_law_1052 (fun v w hw => ?_)
    obtain ⟨rfl, rfl⟩ := hw
    refine ⟨rfl, (LW ay ad ae o oD Z vi1 ga1 fo fd), rfl, ?_⟩
    refine j_top 2 hc1 ?_
    refine j_iload F 1 dL_law_1055 rfl ?_
    refine j_icmp_eq F 1062 dL_law_1057 (by decide) (fun c_1057 => ?_) (fun c_1057 => absurd (by decide) c_1057)
    refine j_iload F 1 dL_law_1062 rfl ?_
    refine j_if_ne F 1079 dL_law_1064 (by decide) (fun c_1064 => ?_) (fun c_1064 => absurd c_1064 (by decide))
    refine j_goto F 2682 dL_law_1079 (by decide) ?_
    refine j_sub [2, 3, 4, 5, 6, 7] [(5, .int (nI (6 * t))), (0, .ref bS), (1, .ref (ad 0)), (2, .ref (ae 0)), (3, .ref o), (4, .ref oD)] rfl ?_
    exact kk Z vi1 ga1 fo fd hG1

