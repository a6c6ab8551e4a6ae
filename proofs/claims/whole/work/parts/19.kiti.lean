/-! ===== calls whose world goes back to its places ===== -/
section JI
variable {p : Program} {l : Launch} {e : Env} {R : Room} {s : State} {m : MethodId} {args : Array Value} {below : List Frame} {meth : Method} {c : Code} {Q : State → Prop} {D : va_G} {A : Nat → Prop} {nL k n : Nat} {ws : va_W} {pc : Nat} {lv : List (Nat × Value)} {st : List Value}
variable {cc : ByteArray} {own : String} {ret : Option FieldType} {ay : Nat → ClassId} {sa : Nat → Nat}
theorem va_D.addr {A : Nat → Prop} {ws ws' : va_W} (h : va_D A ws) (ha : ws'.map (fun q => q.1) = ws.map (fun q => q.1)) : va_D A ws' := by
  have key : ∀ (i : Nat) (q : Nat × va_E), ws'[i]? = some q → ∃ q0, ws[i]? = some q0 ∧ q0.1 = q.1 := by
    intro i q hq
    have h1 : (ws'.map (fun q => q.1))[i]? = some q.1 := by rw [List.getElem?_map, hq]; rfl
    rw [ha, List.getElem?_map] at h1
    cases hw : ws[i]? with
    | none => rw [hw] at h1; cases h1
    | some q0 => rw [hw] at h1; exact ⟨q0, rfl, Option.some.inj h1⟩
  refine ⟨fun i j x y hi hj hxy => ?_, fun i q hq => ?_⟩
  · obtain ⟨x0, a1, a2⟩ := key i x hi
    obtain ⟨y0, b1, b2⟩ := key j y hj
    exact h.1 i j x0 y0 a1 b1 (a2.trans (hxy.trans b2.symm))
  · obtain ⟨q0, a1, a2⟩ := key i q hq
    rw [← a2]
    exact h.2 i q0 a1
/-- the cells ws' stand where ws stood: those of isC are w's, the others are kept -/
def jin (ws ws' w : va_W) (isC isR : List Nat) : Prop := isC.map (fun i => ws'[i]?) = w.map some ∧ isR.map (fun i => ws'[i]?) = isR.map (fun i => ws[i]?) ∧ ws'.map (fun q => q.1) = ws.map (fun q => q.1)
def jcov (ws : va_W) (isC isR : List Nat) : Bool := (List.range ws.length).all (fun i => isC.contains i || isR.contains i) && isR.all (fun i => Nat.blt i ws.length)
theorem jcov_wr {isC isR : List Nat} (h : jcov ws isC isR = true) : isR.map (fun i => ws[i]?) = (isR.filterMap (fun i => ws[i]?)).map some := by
  simp only [jcov, Bool.and_eq_true] at h
  obtain ⟨-, h2⟩ := h
  induction isR with
  | nil => rfl
  | cons i r ih =>
    simp only [List.all_cons, Bool.and_eq_true] at h2
    have hi : i < ws.length := by
      have := h2.1
      exact Nat.le_of_ble_eq_true this
    have e : ws[i]? = some ws[i] := List.getElem?_eq_getElem hi
    rw [List.map_cons, List.filterMap_cons, e, List.map_cons, ih h2.2]
theorem jin_P {ws' w : va_W} {isC isR : List Nat} {H : Heap} (h : jin ws ws' w isC isR) (hcov : jcov ws isC isR = true) (hP : va_P D vwCl (isR.filterMap (fun i => ws[i]?) ++ w) H) : va_P D vwCl ws' H := by
  obtain ⟨h1, h2, h3⟩ := h
  have hwr := jcov_wr hcov
  simp only [jcov, Bool.and_eq_true] at hcov
  obtain ⟨hc, -⟩ := hcov
  intro i q hq
  have hlen : ws'.length = ws.length := by
    have := congrArg List.length h3
    simpa using this
  have hi : i < ws.length := by rw [← hlen]; exact (List.getElem?_eq_some_iff.mp hq).1
  have hc1 := List.all_eq_true.mp hc i (List.mem_range.mpr hi)
  have hin : q ∈ isR.filterMap (fun i => ws[i]?) ++ w := by
    simp only [Bool.or_eq_true, List.contains_iff_mem] at hc1
    rcases hc1 with g | g
    · have g2 : some q ∈ isC.map (fun i => ws'[i]?) := List.mem_map.mpr ⟨i, g, hq⟩
      rw [h1] at g2
      obtain ⟨q2, g3, g4⟩ := List.mem_map.mp g2
      cases g4
      exact List.mem_append_right _ g3
    · have g2 : some q ∈ isR.map (fun i => ws'[i]?) := List.mem_map.mpr ⟨i, g, hq⟩
      rw [h2, hwr] at g2
      obtain ⟨q2, g3, g4⟩ := List.mem_map.mp g2
      cases g4
      exact List.mem_append_left _ g3
  obtain ⟨j, hj⟩ := List.getElem?_of_mem hin
  exact hP j q hj
theorem jin_J {ws' w : va_W} {isC isR : List Nat} (h : jin ws ws' w isC isR) (hcov : jcov ws isC isR = true) (kk : jJ p l e R s m args below meth c Q D A nL k n ws' pc lv st) : (∀ (H : Heap), va_D A ws → True) → ∀ (H : Heap) (locs : List Loc) (ls : Array Slot), va_D A ws → va_P D vwCl (isR.filterMap (fun i => ws[i]?) ++ w) H → va_S A s.heap H locs → lv_has ls nL lv → W p l e R s m args below meth c H locs k n Q (F0 m pc ls st) :=
  fun _ H locs ls hD0 hP hS hl => kk H locs ls (jin_P h hcov hP) (hD0.addr h.2.2) hS hl
theorem j_goI (F : jF p s m args meth c cc nL own ret D ay A) {wc : va_W} {mc ms : Nat} {rest : List Value} {post : Option Value → va_W → Prop} {aa : Array Value} (isC isR : List Nat) (hC : isC.map (fun i => ws[i]?) = wc.map some) (hcov : jcov ws isC isR = true) (hn : va_nd isC = true) (hn2 : va_nd isR = true) (hdis : ∀ i ∈ isR, i ∉ isC)
    (run : ∀ (H : Heap) (locs : List Loc) (ls : Array Slot), va_P D vwCl wc H → va_D (fun _ => True) wc → va_P D vwCl ws H → va_S A s.heap H locs → (∀ q, va_A wc H.size q → A q) → lv_has ls nL lv → va_Run p l e R s m args below meth c H locs k n mc ms (F0 m pc ls st) rest (jQ post D ay (va_A wc H.size) aa) (va_A wc H.size))
    (kk : ∀ (v : Option Value) (w : va_W), post v w → ∃ ws' : va_W, jin ws ws' w isC isR ∧ jJ p l e R s m args below meth c Q D A nL (k + mc) (n + ms) ws' (pc + 3) lv (v.toList ++ rest)) : jJ p l e R s m args below meth c Q D A nL k n ws pc lv st := by
  intro H locs ls hP hD hS hl
  refine j_go F isC isR hC (jcov_wr hcov) hn hn2 hdis run (fun v w hp => ?_) H locs ls hP hD hS hl
  obtain ⟨ws', h1, h2⟩ := kk v w hp
  exact fun H1 locs1 ls1 hP1 _ hS1 hl1 => jin_J h1 hcov h2 (fun _ _ => trivial) H1 locs1 ls1 hD hP1 hS1 hl1
theorem j_icallV (F : jF p s m args meth c cc nL own ret D ay A) {idx ci fr lo mc ms mL n1 : Nat} {y : MethodName} {b : ByteArray} {ret1 : Option FieldType} (L : jLV own idx ci y b mL ret1 n1) {a : Nat} {As rest : List Value} {wc : va_W} {post : Option Value → va_W → Prop} (hM : jM l y (jws y b mL ret1) fr lo mc ms D ay (.ref a :: As) wc post) (q0 : Nat) {fs : List Value} (isC isR : List Nat) (he : ws[q0]? = some (a, .inr (ci, fs))) (hC : isC.map (fun i => ws[i]?) = wc.map some) (hcov : jcov ws isC isR = true) (hok : jok R fr mL lo isC isR = true) (hst : st = As.reverse ++ .ref a :: rest) (hlen : As.length = n1) (hcat : Nat.ble ((rest.map fun v => v.category).sum) 8 = true) (hf : k + mc ≤ R.cells ∧ n + ms ≤ R.slots) (hdg : decode cc pc = .ok (.invokevirtual idx, 3))
    (kk : ∀ (v : Option Value) (w : va_W), post v w → ∃ ws' : va_W, jin ws ws' w isC isR ∧ jJ p l e R s m args below meth c Q D A nL (k + mc) (n + ms) ws' (pc + 3) lv (v.toList ++ rest)) : jJ p l e R s m args below meth c Q D A nL k n ws pc lv st := by
  obtain ⟨k1, k2, k3, k4, k5⟩ := jok_spec hok
  obtain ⟨T0, N0, hcl⟩ := L.1
  refine j_goI F (aa := (Value.ref a :: As).toArray) isC isR hC hcov k3 k4 k5 (fun H locs ls hPc hDc hP hS hF hl => ?_) kk
  exact va_runV (Ts := gw) ⟨F.1, F.2.1, F.2.2.1, F.2.2.2.1, F.2.2.2.2.1⟩ (hM H.size) (jLV.cw F L ⟨k1, k2⟩) ⟨jPc_blind, va_recv F.2.2.2.2.2.1 hP hcl he, fun U hU hW => ⟨rfl, by rw [hU], by rw [hU]; exact hPc, va_K.moved hW.alike F.2.2.2.2.2.1, hDc, trivial⟩⟩ rfl hlen hl.1 hst (lv_room (Nat.le_of_ble_eq_true hcat)) hdg hf
theorem j_icallS (F : jF p s m args meth c cc nL own ret D ay A) {idx fr lo mc ms mL n1 : Nat} {y : MethodName} {b : ByteArray} {ret1 : Option FieldType} (L : jLS own idx y b mL ret1 n1) {As rest : List Value} {wc : va_W} {post : Option Value → va_W → Prop} (hM : jM l y (jws y b mL ret1) fr lo mc ms D ay As wc post) (isC isR : List Nat) (hC : isC.map (fun i => ws[i]?) = wc.map some) (hcov : jcov ws isC isR = true) (hok : jok R fr mL lo isC isR = true) (hst : st = As.reverse ++ rest) (hlen : As.length = n1) (hcat : Nat.ble ((rest.map fun v => v.category).sum) 8 = true) (hf : k + mc ≤ R.cells ∧ n + ms ≤ R.slots) (hdg : decode cc pc = .ok (.invokestatic idx, 3))
    (kk : ∀ (v : Option Value) (w : va_W), post v w → ∃ ws' : va_W, jin ws ws' w isC isR ∧ jJ p l e R s m args below meth c Q D A nL (k + mc) (n + ms) ws' (pc + 3) lv (v.toList ++ rest)) : jJ p l e R s m args below meth c Q D A nL k n ws pc lv st := by
  obtain ⟨k1, k2, k3, k4, k5⟩ := jok_spec hok
  refine j_goI F (aa := As.toArray) isC isR hC hcov k3 k4 k5 (fun H locs ls hPc hDc hP hS hF hl => ?_) kk
  exact va_runS (Ts := gw) ⟨F.1, F.2.1, F.2.2.1, F.2.2.2.1, F.2.2.2.2.1⟩ (hM H.size) (jLS.cw F L ⟨k1, k2⟩) ⟨jPc_blind, fun U hU hW => ⟨rfl, by rw [hU], by rw [hU]; exact hPc, va_K.moved hW.alike F.2.2.2.2.2.1, hDc, trivial⟩⟩ rfl hlen hl.1 hst (lv_room (Nat.le_of_ble_eq_true hcat)) hdg hf
theorem jcov_all {isC isR : List Nat} (h : jcov ws isC isR = true) : (List.range ws.length).all (fun i => isC.contains i || isR.contains i) = true := by
  simp only [jcov, Bool.and_eq_true] at h
  exact h.1
theorem j_ixcallV (F : jF p s m args meth c cc nL own ret D ay A) (hX : jX sa A s s.heap) (hT : ∀ x ∈ c.exceptionTable.toList, False) {idx ci fr lo mc ms mL n1 mc0 ms0 : Nat} {y : MethodName} {b : ByteArray} {ret1 : Option FieldType} (L : jLV own idx ci y b mL ret1 n1) {a : Nat} {As rest : List Value} {wc : va_W} {post post0 : Option Value → va_W → Prop} {postX postX0 : String → va_W → Prop} (hM : jMx l y (jws y b mL ret1) fr lo mc ms D ay sa (.ref a :: As) wc post postX) (q0 : Nat) {fs : List Value} (isC isR : List Nat) (he : ws[q0]? = some (a, .inr (ci, fs))) (hC : isC.map (fun i => ws[i]?) = wc.map some) (hcov : jcov ws isC isR = true) (hok : jok R fr mL lo isC isR = true) (hst : st = As.reverse ++ .ref a :: rest) (hlen : As.length = n1) (hcat : Nat.ble ((rest.map fun v => v.category).sum) 8 = true) (hf : k + mc ≤ R.cells ∧ n + ms ≤ R.slots) (hdg : decode cc pc = .ok (.invokevirtual idx, 3)) (hm : k + mc ≤ mc0 ∧ n + ms ≤ ms0)
    (kx : ∀ (E : String) (w : va_W), postX E w → w = wc ∧ postX0 E ws)
    (kk : ∀ (v : Option Value) (w : va_W), post v w → ∃ ws' : va_W, jin ws ws' w isC isR ∧ jJ p l e R s m args below meth c (vx_MQ below (jQ post0 D ay A) (jXQ postX0 D ay A) args s mc0 ms0 A) D A nL (k + mc) (n + ms) ws' (pc + 3) lv (v.toList ++ rest)) : jJ p l e R s m args below meth c (vx_MQ below (jQ post0 D ay A) (jXQ postX0 D ay A) args s mc0 ms0 A) D A nL k n ws pc lv st := by
  intro H locs ls hP hD hS hl
  refine j_xcallV F hX hT L hM q0 isC isR _ he hC (jcov_wr hcov) hok hst hlen hcat hf hdg (jcov_all hcov) hm kx (fun v w hp => ?_) H locs ls hP hD hS hl
  obtain ⟨ws', h1, h2⟩ := kk v w hp
  exact fun H1 locs1 ls1 hP1 _ hS1 hl1 => jin_J h1 hcov h2 (fun _ _ => trivial) H1 locs1 ls1 hD hP1 hS1 hl1
theorem j_ixcallS (F : jF p s m args meth c cc nL own ret D ay A) (hX : jX sa A s s.heap) (hT : ∀ x ∈ c.exceptionTable.toList, False) {idx fr lo mc ms mL n1 mc0 ms0 : Nat} {y : MethodName} {b : ByteArray} {ret1 : Option FieldType} (L : jLS own idx y b mL ret1 n1) {As rest : List Value} {wc : va_W} {post post0 : Option Value → va_W → Prop} {postX postX0 : String → va_W → Prop} (hM : jMx l y (jws y b mL ret1) fr lo mc ms D ay sa As wc post postX) (isC isR : List Nat) (hC : isC.map (fun i => ws[i]?) = wc.map some) (hcov : jcov ws isC isR = true) (hok : jok R fr mL lo isC isR = true) (hst : st = As.reverse ++ rest) (hlen : As.length = n1) (hcat : Nat.ble ((rest.map fun v => v.category).sum) 8 = true) (hf : k + mc ≤ R.cells ∧ n + ms ≤ R.slots) (hdg : decode cc pc = .ok (.invokestatic idx, 3)) (hm : k + mc ≤ mc0 ∧ n + ms ≤ ms0)
    (kx : ∀ (E : String) (w : va_W), postX E w → w = wc ∧ postX0 E ws)
    (kk : ∀ (v : Option Value) (w : va_W), post v w → ∃ ws' : va_W, jin ws ws' w isC isR ∧ jJ p l e R s m args below meth c (vx_MQ below (jQ post0 D ay A) (jXQ postX0 D ay A) args s mc0 ms0 A) D A nL (k + mc) (n + ms) ws' (pc + 3) lv (v.toList ++ rest)) : jJ p l e R s m args below meth c (vx_MQ below (jQ post0 D ay A) (jXQ postX0 D ay A) args s mc0 ms0 A) D A nL k n ws pc lv st := by
  intro H locs ls hP hD hS hl
  refine j_xcallS F hX hT L hM isC isR _ hC (jcov_wr hcov) hok hst hlen hcat hf hdg (jcov_all hcov) hm kx (fun v w hp => ?_) H locs ls hP hD hS hl
  obtain ⟨ws', h1, h2⟩ := kk v w hp
  exact fun H1 locs1 ls1 hP1 _ hS1 hl1 => jin_J h1 hcov h2 (fun _ _ => trivial) H1 locs1 ls1 hD hP1 hS1 hl1
end JI
