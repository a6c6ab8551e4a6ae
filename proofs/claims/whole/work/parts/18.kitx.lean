/-! ===== methods that may throw ===== -/
/-- the strings of the throws, by their places -/
def jStr (sa : Nat → Nat) (U : State) : Prop := vk_R RX9 144 "the map has no cursor" (sa 0) U ∧ vk_R RX9 151 "the cursor has no next pair" (sa 1) U ∧ vk_R RX9 160 "the cursor has no pair to take out" (sa 2) U ∧ vk_R RX9 169 "the record is full" (sa 3) U ∧ vk_R RX9 211 "the tape has no room" (sa 4) U ∧ vk_R RX9 219 "the record has no room for a run" (sa 5) U ∧ vk_R RX9 224 "the text has an error" (sa 6) U ∧ vk_R RX9 198 "a number is out of range" (sa 7) U ∧ vk_R RX9 280 "there is no such place" (sa 8) U
theorem jStr.warm {sa : Nat → Nat} {s U : State} (hW : s.WarmedH U.vm) (h : jStr sa s) : jStr sa U := by
  obtain ⟨h0, h1, h2, h3, h4, h5, h6, h7, h8⟩ := h
  exact ⟨h0.warm hW, h1.warm hW, h2.warm hW, h3.warm hW, h4.warm hW, h5.warm hW, h6.warm hW, h7.warm hW, h8.warm hW⟩
theorem jStr.same {sa : Nat → Nat} {u U : State} (hv : U.vm = u.vm) (h : jStr sa u) : jStr sa U := by
  obtain ⟨h0, h1, h2, h3, h4, h5, h6, h7, h8⟩ := h
  exact ⟨h0.same hv, h1.same hv, h2.same hv, h3.same hv, h4.same hv, h5.same hv, h6.same hv, h7.same hv, h8.same hv⟩
abbrev eIA : String := "java/lang/IllegalArgumentException"
abbrev eIS : String := "java/lang/IllegalStateException"
abbrev eIO : String := "java/lang/IndexOutOfBoundsException"
abbrev eNS : String := "java/util/NoSuchElementException"
/-- what the tables say of the exceptions' classes -/
def jB (U : State) : Prop := va_Nw (.declares (Bundle.initS "java/lang/RuntimeException")) U ∧ va_Nw (.declares (Bundle.initS "java/lang/Exception")) U ∧ va_Nw (.declares (Bundle.initS Bundle.tN)) U ∧ va_Nw (.castable eIA eIA) U ∧ va_Nw (.castable eIS eIS) U ∧ va_Nw (.castable eIO eIO) U ∧ va_Nw (.castable eNS eNS) U
theorem jB.warm {s U : State} (hW : s.WarmedH U.vm) (h : jB s) : jB U := by
  obtain ⟨h0, h1, h2, h3, h4, h5, h6⟩ := h
  exact ⟨h0.warmD hW, h1.warmD hW, h2.warmD hW, h3.warmC hW, h4.warmC hW, h5.warmC hW, h6.warmC hW⟩
theorem jB.same {u U : State} (hv : u.vm = U.vm) (h : jB u) : jB U := by
  obtain ⟨h0, h1, h2, h3, h4, h5, h6⟩ := h
  exact ⟨h0.same rfl hv, h1.same rfl hv, h2.same rfl hv, h3.same rfl hv, h4.same rfl hv, h5.same rfl hv, h6.same rfl hv⟩
/-- what a throw needs of the start -/
def jX (sa : Nat → Nat) (A : Nat → Prop) (U : State) (H : Heap) : Prop := vx_Zq Bundle.tN "UNASSIGNED_STACK" Bundle.steD A U H ∧ vx_Zq Bundle.tN "SUPPRESSED_SENTINEL" Bundle.listD A U H ∧ jStr sa U ∧ jB U
/-- a contract: the method returns or throws -/
def jMx (l : Launch) (y : MethodName) (ws : List Cond) (fr lo mc ms : Nat) (D : va_G) (ay : Nat → ClassId) (sa : Nat → Nat) (av : List Value) (wc : va_W) (post : Option Value → va_W → Prop) (postX : String → va_W → Prop) : Prop :=
  ∀ sz : Nat, vx_Met l y ws ({ frames := fr, cells := mc, slots := ms, locals := lo }) (jPc av wc sz D ay (fun U => jX sa (va_A wc sz) U U.heap)) (jQ post D ay (va_A wc sz)) (jXQ postX D ay (va_A wc sz)) mc ms (va_A wc sz)
theorem jPc_blindX {av : List Value} {wc : va_W} {sz : Nat} {D : va_G} {ay : Nat → ClassId} {sa : Nat → Nat} : FrameBlind (jPc av wc sz D ay (fun U => jX sa (va_A wc sz) U U.heap)) := fun a U g mk h => by
  obtain ⟨h0, h1, h2, h3, h4, h5, h6, h7, h8⟩ := h
  exact ⟨h0, h1, h2, va_K.moved (u := U) (U := U.calling g mk a) (Vm.Alike.refl U.vm) h3, h4, h5.moved (u := U) (U := U.calling g mk a) (Vm.Alike.refl U.vm), h6.moved (u := U) (U := U.calling g mk a) (Vm.Alike.refl U.vm), h7.same rfl, h8.same rfl⟩

theorem gx_in {L : List Cond} (h : ∀ w ∈ L.filter goodWord, w ∈ lw_tbl) : ∀ w ∈ L.filter goodWord, w ∈ gw := fun w hw => List.mem_filter.mpr ⟨h w hw, (List.mem_filter.mp hw).2⟩
set_option maxRecDepth 20000 in
theorem gx_IA : ∀ w ∈ (vx_atS RX9 200 "java/lang/IllegalArgumentException" ["java/lang/RuntimeException", "java/lang/Exception"]).filter goodWord, w ∈ lw_tbl := by decide +kernel
set_option maxRecDepth 20000 in
theorem gx_IO : ∀ w ∈ (vx_atS RX9 282 "java/lang/IndexOutOfBoundsException" ["java/lang/RuntimeException", "java/lang/Exception"]).filter goodWord, w ∈ lw_tbl := by decide +kernel
set_option maxRecDepth 20000 in
theorem gx_IS : ∀ w ∈ (vx_atS RX9 146 "java/lang/IllegalStateException" ["java/lang/RuntimeException", "java/lang/Exception"]).filter goodWord, w ∈ lw_tbl := by decide +kernel
def xB (X : String) : List Cond := [.castable X X, .declares (Bundle.initS "java/lang/RuntimeException"), .declares (Bundle.initS "java/lang/Exception"), .declares (Bundle.initS Bundle.tN)]
theorem gb_IA : ∀ w ∈ (vx_atS RX9 200 "java/lang/IllegalArgumentException" ["java/lang/RuntimeException", "java/lang/Exception"]).filter (fun w => !goodWord w), w ∈ xB eIA := by decide +kernel
theorem gb_IO : ∀ w ∈ (vx_atS RX9 282 "java/lang/IndexOutOfBoundsException" ["java/lang/RuntimeException", "java/lang/Exception"]).filter (fun w => !goodWord w), w ∈ xB eIO := by decide +kernel
theorem gb_IS : ∀ w ∈ (vx_atS RX9 146 "java/lang/IllegalStateException" ["java/lang/RuntimeException", "java/lang/Exception"]).filter (fun w => !goodWord w), w ∈ xB eIS := by decide +kernel
theorem xB_at {X : String} {args : Array Value} {s : State} (h : jB s) (hX : va_Nw (.castable X X) s) : ∀ w ∈ xB X, w.before args s = true := by
  obtain ⟨h0, h1, h2, -⟩ := h
  exact vx_c (va_Nw.use rfl hX) (vx_c (va_Nw.use rfl h0) (vx_c (va_Nw.use rfl h1) (vx_c (va_Nw.use rfl h2) vx_n)))
section JX
variable {p : Program} {l : Launch} {e : Env} {R : Room} {s : State} {m : MethodId} {args : Array Value} {below : List Frame} {meth : Method} {c : Code} {Q : State → Prop} {D : va_G} {A : Nat → Prop} {nL k n : Nat} {ws : va_W} {pc : Nat} {lv : List (Nat × Value)} {st : List Value}
variable {cc : ByteArray} {own : String} {ret : Option FieldType} {ay : Nat → ClassId} {sa : Nat → Nat}
theorem jX.kept {A0 A1 : Nat → Prop} {H H1 : Heap} {U : State} (h : jX sa A0 s H) (hW : s.WarmedH U.vm) (hA : ∀ q, A1 q → A0 q) (hq : ∀ q : Nat, q < H.size → ¬ A0 q → H1[q]? = H[q]?) : jX sa A1 U H1 := by
  obtain ⟨h0, h1, h2, h3⟩ := h
  exact ⟨((h0.kept hq).narrow hA).moved hW.alike, ((h1.kept hq).narrow hA).moved hW.alike, h2.warm hW, h3.warm hW⟩
/-- a call that may throw; what is thrown leaves the callee's world as it was, and this method too -/
theorem j_xgo (F : jF p s m args meth c cc nL own ret D ay A) (hT : ∀ x ∈ c.exceptionTable.toList, False) {wc wr : va_W} {mc ms mc0 ms0 : Nat} {rest : List Value} {post post0 : Option Value → va_W → Prop} {postX postX0 : String → va_W → Prop} {aa : Array Value} (isC isR : List Nat) (hC : isC.map (fun i => ws[i]?) = wc.map some) (hR : isR.map (fun i => ws[i]?) = wr.map some) (hn : va_nd isC = true) (hn2 : va_nd isR = true) (hdis : ∀ i ∈ isR, i ∉ isC) (hcov : (List.range ws.length).all (fun i => isC.contains i || isR.contains i) = true) (hm : k + mc ≤ mc0 ∧ n + ms ≤ ms0)
    (run : ∀ (H : Heap) (locs : List Loc) (ls : Array Slot), va_P D vwCl wc H → va_D (fun _ => True) wc → va_P D vwCl ws H → va_S A s.heap H locs → (∀ q, va_A wc H.size q → A q) → lv_has ls nL lv → vx_Run p l e R s m args below meth c H locs k n mc ms (F0 m pc ls st) rest (jQ post D ay (va_A wc H.size) aa) (jXQ postX D ay (va_A wc H.size)) (va_A wc H.size))
    (kx : ∀ (E : String) (w : va_W), postX E w → w = wc ∧ postX0 E ws)
    (kk : ∀ (v : Option Value) (w : va_W), post v w → jJ p l e R s m args below meth c (vx_MQ below (jQ post0 D ay A) (jXQ postX0 D ay A) args s mc0 ms0 A) D A nL (k + mc) (n + ms) (wr ++ w) (pc + 3) lv (v.toList ++ rest)) : jJ p l e R s m args below meth c (vx_MQ below (jQ post0 D ay A) (jXQ postX0 D ay A) args s mc0 ms0 A) D A nL k n ws pc lv st := by
  intro H locs ls hP hD hS hl T hTT X
  have hF := va_free (wc := wc) hD hS F.2.2.2.2.2.2.1 isC hC
  rcases run H locs ls (hP.sub isC (j_fm hC)) ((hD.sub isC hn hC).weaken (fun _ _ _ _ => trivial)) hP hS hF hl T hTT X with ⟨v, st₀, t, T', L, h0, X', hL, e1, e2, ⟨⟨v', w, hv, hp, hPw, hKw, hDw⟩, hz, hk⟩, stp⟩ | ⟨q9, st₀, t, T', L, E, ce, h0, X', hL, e1, e2, ⟨⟨w, hp, hPw, hKw, hDw⟩, hz, hk⟩, hce, hcv, hcl, stp⟩
  · cases hv
    rw [h0] at hz hk
    obtain ⟨hP2, hD2⟩ := va_join hP hD isC isR hC hR hn2 hdis (H1 := T'.heap) (fun q h1 h2 => by rw [e1]; exact hk q h1 h2) hF (by rw [e1]; exact hPw) hDw
    obtain ⟨t2, a1, b1⟩ := kk v w hp T'.heap (locs ++ L) ls hP2 hD2 ⟨Nat.le_trans hS.1 (by rw [e1]; exact hz), fun q h1 h2 => by rw [e1, hk q (Nat.lt_of_lt_of_le h1 hS.1) (fun z => h2 (hF q z))]; exact hS.2.1 q h1 h2, fun q hq => by
        rcases List.mem_append.mp hq with h | h
        · exact hS.2.2 q h
        · exact hF _ (hL q h)⟩ hl T' rfl X'
    exact ⟨t2, stp t2 a1, b1⟩
  · rw [h0] at hz hk
    obtain ⟨hwc, hpx⟩ := kx E w hp
    subst hwc
    obtain ⟨hP2, -⟩ := va_join hP hD isC isR hC hR hn2 hdis (H1 := T'.heap) (fun q h1 h2 => by rw [e1]; exact hk q h1 h2) hF (by rw [e1]; exact hPw) hDw
    have hPs : va_P D vwCl ws T'.heap := by
      intro i q hq
      have hi : i < ws.length := (List.getElem?_eq_some_iff.mp hq).1
      have hc1 := List.all_eq_true.mp hcov i (List.mem_range.mpr hi)
      have hin : q ∈ wr ++ w := by
        simp only [Bool.or_eq_true, List.contains_iff_mem] at hc1
        rcases hc1 with h | h
        · have h2 : some q ∈ isC.map (fun i => ws[i]?) := List.mem_map.mpr ⟨i, h, hq⟩
          rw [hC] at h2
          obtain ⟨q2, h3, h4⟩ := List.mem_map.mp h2
          cases h4
          exact List.mem_append_right _ h3
        · have h2 : some q ∈ isR.map (fun i => ws[i]?) := List.mem_map.mpr ⟨i, h, hq⟩
          rw [hR] at h2
          obtain ⟨q2, h3, h4⟩ := List.mem_map.mp h2
          cases h4
          exact List.mem_append_left _ h3
      obtain ⟨j, hj⟩ := List.getElem?_of_mem hin
      exact hP2 j q hj
    have hS2 : va_S A s.heap T'.heap (locs ++ L) := ⟨Nat.le_trans hS.1 (by rw [e1]; exact hz), fun q h1 h2 => by rw [e1, hk q (Nat.lt_of_lt_of_le h1 hS.1) (fun z => h2 (hF q z))]; exact hS.2.1 q h1 h2, fun q hq => by
        rcases List.mem_append.mp hq with h | h
        · exact hS.2.2 q h
        · exact hF _ (hL q h)⟩
    obtain ⟨t2, a1, b1⟩ := vx_out (Qc := jQ post0 D ay A) (XC := jXQ postX0 D ay A) (mc := mc0) (ms := ms0) (free := A) (pc := pc) (ls := ls) (rest := rest) (H := T'.heap) (fun x hx => (hT x hx).elim) F.2.2.2.2.2.2.2.1 (by rw [e1]; exact hce) hcv hcl (fun t9 ht9 ha9 => ⟨⟨ws, hpx, by rw [ht9]; exact hPs, va_K.moved ha9 F.2.2.2.2.2.1, hD⟩, hS2.F ht9⟩) hS2.2.2 hm.1 hm.2 T' rfl X'
    exact ⟨t2, stp.trans a1, b1⟩
theorem j_xcallV (F : jF p s m args meth c cc nL own ret D ay A) (hX : jX sa A s s.heap) (hT : ∀ x ∈ c.exceptionTable.toList, False) {idx ci fr lo mc ms mL n1 mc0 ms0 : Nat} {y : MethodName} {b : ByteArray} {ret1 : Option FieldType} (L : jLV own idx ci y b mL ret1 n1) {a : Nat} {As rest : List Value} {wc : va_W} {post post0 : Option Value → va_W → Prop} {postX postX0 : String → va_W → Prop} (hM : jMx l y (jws y b mL ret1) fr lo mc ms D ay sa (.ref a :: As) wc post postX) (q0 : Nat) {fs : List Value} (isC isR : List Nat) (wr : va_W) (he : ws[q0]? = some (a, .inr (ci, fs))) (hC : isC.map (fun i => ws[i]?) = wc.map some) (hR : isR.map (fun i => ws[i]?) = wr.map some) (hok : jok R fr mL lo isC isR = true) (hst : st = As.reverse ++ .ref a :: rest) (hlen : As.length = n1) (hcat : Nat.ble ((rest.map fun v => v.category).sum) 8 = true) (hf : k + mc ≤ R.cells ∧ n + ms ≤ R.slots) (hdg : decode cc pc = .ok (.invokevirtual idx, 3)) (hcov : (List.range ws.length).all (fun i => isC.contains i || isR.contains i) = true) (hm : k + mc ≤ mc0 ∧ n + ms ≤ ms0)
    (kx : ∀ (E : String) (w : va_W), postX E w → w = wc ∧ postX0 E ws)
    (kk : ∀ (v : Option Value) (w : va_W), post v w → jJ p l e R s m args below meth c (vx_MQ below (jQ post0 D ay A) (jXQ postX0 D ay A) args s mc0 ms0 A) D A nL (k + mc) (n + ms) (wr ++ w) (pc + 3) lv (v.toList ++ rest)) : jJ p l e R s m args below meth c (vx_MQ below (jQ post0 D ay A) (jXQ postX0 D ay A) args s mc0 ms0 A) D A nL k n ws pc lv st := by
  obtain ⟨k1, k2, k3, k4, k5⟩ := jok_spec hok
  obtain ⟨T0, N0, hcl⟩ := L.1
  refine j_xgo F hT (aa := (Value.ref a :: As).toArray) isC isR hC hR k3 k4 k5 hcov hm (fun H locs ls hPc hDc hP hS hF hl => ?_) kx kk
  exact vx_runV (Ts := gw) ⟨F.1, F.2.1, F.2.2.1, F.2.2.2.1, F.2.2.2.2.1⟩ (hM H.size) (jLV.cw F L ⟨k1, k2⟩) ⟨jPc_blindX, va_recv F.2.2.2.2.2.1 hP hcl he, fun U hU hW => ⟨rfl, by rw [hU], by rw [hU]; exact hPc, va_K.moved hW.alike F.2.2.2.2.2.1, hDc, by show jX sa (va_A wc H.size) U U.heap; rw [hU]; exact hX.kept hW hF (fun q h1 h2 => hS.2.1 q h1 h2)⟩⟩ rfl hlen hl.1 hst (lv_room (Nat.le_of_ble_eq_true hcat)) hdg hf
theorem j_xcallS (F : jF p s m args meth c cc nL own ret D ay A) (hX : jX sa A s s.heap) (hT : ∀ x ∈ c.exceptionTable.toList, False) {idx fr lo mc ms mL n1 mc0 ms0 : Nat} {y : MethodName} {b : ByteArray} {ret1 : Option FieldType} (L : jLS own idx y b mL ret1 n1) {As rest : List Value} {wc : va_W} {post post0 : Option Value → va_W → Prop} {postX postX0 : String → va_W → Prop} (hM : jMx l y (jws y b mL ret1) fr lo mc ms D ay sa As wc post postX) (isC isR : List Nat) (wr : va_W) (hC : isC.map (fun i => ws[i]?) = wc.map some) (hR : isR.map (fun i => ws[i]?) = wr.map some) (hok : jok R fr mL lo isC isR = true) (hst : st = As.reverse ++ rest) (hlen : As.length = n1) (hcat : Nat.ble ((rest.map fun v => v.category).sum) 8 = true) (hf : k + mc ≤ R.cells ∧ n + ms ≤ R.slots) (hdg : decode cc pc = .ok (.invokestatic idx, 3)) (hcov : (List.range ws.length).all (fun i => isC.contains i || isR.contains i) = true) (hm : k + mc ≤ mc0 ∧ n + ms ≤ ms0)
    (kx : ∀ (E : String) (w : va_W), postX E w → w = wc ∧ postX0 E ws)
    (kk : ∀ (v : Option Value) (w : va_W), post v w → jJ p l e R s m args below meth c (vx_MQ below (jQ post0 D ay A) (jXQ postX0 D ay A) args s mc0 ms0 A) D A nL (k + mc) (n + ms) (wr ++ w) (pc + 3) lv (v.toList ++ rest)) : jJ p l e R s m args below meth c (vx_MQ below (jQ post0 D ay A) (jXQ postX0 D ay A) args s mc0 ms0 A) D A nL k n ws pc lv st := by
  obtain ⟨k1, k2, k3, k4, k5⟩ := jok_spec hok
  refine j_xgo F hT (aa := As.toArray) isC isR hC hR k3 k4 k5 hcov hm (fun H locs ls hPc hDc hP hS hF hl => ?_) kx kk
  exact vx_runS (Ts := gw) ⟨F.1, F.2.1, F.2.2.1, F.2.2.2.1, F.2.2.2.2.1⟩ (hM H.size) (jLS.cw F L ⟨k1, k2⟩) ⟨jPc_blindX, fun U hU hW => ⟨rfl, by rw [hU], by rw [hU]; exact hPc, va_K.moved hW.alike F.2.2.2.2.2.1, hDc, by show jX sa (va_A wc H.size) U U.heap; rw [hU]; exact hX.kept hW hF (fun q h1 h2 => hS.2.1 q h1 h2)⟩⟩ rfl hlen hl.1 hst (lv_room (Nat.le_of_ble_eq_true hcat)) hdg hf
/-- throw new E(text), the text by ldc -/
theorem j_throw (F : jF p s m args meth c cc nL own ret D ay A) (hfl : l.stackTraces = false) (hX : jX sa A s s.heap) (hT : ∀ x ∈ c.exceptionTable.toList, False) {post : Option Value → va_W → Prop} {postX : String → va_W → Prop} {mc ms : Nat} {E text : String} {names : List String} {ik is ic a9 : Nat} (hcls : Bundle.fit E = true) (hnames : ∀ n ∈ names, Bundle.fit n = true) (hk : Cond.classLink own ik E ∈ gw) (hini : Cond.initialized E ∈ gw) (hstr : vk_R own is text a9 s) (hg : ∀ w ∈ (vx_atS own ic E names).filter goodWord, w ∈ lw_tbl) (hb : ∀ w ∈ (vx_atS own ic E names).filter (fun w => !goodWord w), w ∈ xB E) (hE : va_Nw (.castable E E) s) (hgood : ∀ w ∈ Cond.classLink own ik E :: Cond.initialized E :: vx_atS own ic E names, vx_ot w = true)
    (d0 : decode cc pc = .ok (.new ik, 3)) (d3 : decode cc (pc + 3) = .ok (.dup, 1)) (d4 : decode cc (pc + 4) = .ok (.ldc is, 2)) (d6 : decode cc (pc + 6) = .ok (.invokespecial ic, 3)) (d9 : decode cc (pc + 9) = .ok (.athrow, 1)) (hR : names.length + 3 < R.frames ∧ (st.map fun v => v.category).sum + (13 * (names.length + 1) + 43) ≤ R.locals ∧ k + 1 ≤ R.cells ∧ n + 6 ≤ R.slots) (hm : k + 1 ≤ mc ∧ n + 6 ≤ ms) (hpost : postX E ws) : jJ p l e R s m args below meth c (vx_MQ below (jQ post D ay A) (jXQ postX D ay A) args s mc ms A) D A nL k n ws pc lv st := by
  intro H locs ls hP hD hS hl
  obtain ⟨z1, z2, -, z4⟩ := hX
  have ht := F.2.2.2.2.1
  refine vx_throwS F.1 F.2.1 hfl F.2.2.2.1 hcls hnames (ht _ hk) (ht _ hini) hstr (vx_hat (fun w hw => ht w (gx_in hg w hw)) hb (xB_at z4 hE)) hgood z1 z2 hS (by rw [hl.1, F.2.2.1]) d0 d3 d4 d6 d9 (fun x hx => (hT x hx).elim) hR.1 hR.2.1 hR.2.2.1 hR.2.2.2 F.2.2.2.2.2.2.2.1 (fun t ht hz hq => ?_) hS.2.2 hm.1 hm.2
  exact ⟨⟨ws, hpost, hP.kept (fun k9 q9 h9 => hq q9.1 (hP k9 q9 h9).lt), va_K.moved ht F.2.2.2.2.2.1, hD⟩, Nat.le_trans hS.1 hz, fun q h1 h2 => (hq q (Nat.lt_of_lt_of_le h1 hS.1)).trans (hS.2.1 q h1 h2)⟩
/-- .. by ldc_w -/
theorem j_throwW (F : jF p s m args meth c cc nL own ret D ay A) (hfl : l.stackTraces = false) (hX : jX sa A s s.heap) (hT : ∀ x ∈ c.exceptionTable.toList, False) {post : Option Value → va_W → Prop} {postX : String → va_W → Prop} {mc ms : Nat} {E text : String} {names : List String} {ik is ic a9 : Nat} (hcls : Bundle.fit E = true) (hnames : ∀ n ∈ names, Bundle.fit n = true) (hk : Cond.classLink own ik E ∈ gw) (hini : Cond.initialized E ∈ gw) (hstr : vk_R own is text a9 s) (hg : ∀ w ∈ (vx_atS own ic E names).filter goodWord, w ∈ lw_tbl) (hb : ∀ w ∈ (vx_atS own ic E names).filter (fun w => !goodWord w), w ∈ xB E) (hE : va_Nw (.castable E E) s) (hgood : ∀ w ∈ Cond.classLink own ik E :: Cond.initialized E :: vx_atS own ic E names, vx_ot w = true)
    (d0 : decode cc pc = .ok (.new ik, 3)) (d3 : decode cc (pc + 3) = .ok (.dup, 1)) (d4 : decode cc (pc + 4) = .ok (.ldc_w is, 3)) (d7 : decode cc (pc + 7) = .ok (.invokespecial ic, 3)) (d10 : decode cc (pc + 10) = .ok (.athrow, 1)) (hR : names.length + 3 < R.frames ∧ (st.map fun v => v.category).sum + (13 * (names.length + 1) + 43) ≤ R.locals ∧ k + 1 ≤ R.cells ∧ n + 6 ≤ R.slots) (hm : k + 1 ≤ mc ∧ n + 6 ≤ ms) (hpost : postX E ws) : jJ p l e R s m args below meth c (vx_MQ below (jQ post D ay A) (jXQ postX D ay A) args s mc ms A) D A nL k n ws pc lv st := by
  intro H locs ls hP hD hS hl
  obtain ⟨z1, z2, -, z4⟩ := hX
  have ht := F.2.2.2.2.1
  refine vx_throwSW F.1 F.2.1 hfl F.2.2.2.1 hcls hnames (ht _ hk) (ht _ hini) hstr (vx_hat (fun w hw => ht w (gx_in hg w hw)) hb (xB_at z4 hE)) hgood z1 z2 hS (by rw [hl.1, F.2.2.1]) d0 d3 d4 d7 d10 (fun x hx => (hT x hx).elim) hR.1 hR.2.1 hR.2.2.1 hR.2.2.2 F.2.2.2.2.2.2.2.1 (fun t ht hz hq => ?_) hS.2.2 hm.1 hm.2
  exact ⟨⟨ws, hpost, hP.kept (fun k9 q9 h9 => hq q9.1 (hP k9 q9 h9).lt), va_K.moved ht F.2.2.2.2.2.1, hD⟩, Nat.le_trans hS.1 hz, fun q h1 h2 => (hq q (Nat.lt_of_lt_of_le h1 hS.1)).trans (hS.2.1 q h1 h2)⟩
end JX
theorem jMx_of (l : Launch) (hfl : l.stackTraces = false) {y : MethodName} {b : ByteArray} {mL fr lo mc ms : Nat} {ret : Option FieldType} {D : va_G} {ay : Nat → ClassId} {sa : Nat → Nat} {av : List Value} {wc : va_W} {post : Option Value → va_W → Prop} {postX : String → va_W → Prop} (hy : plainName y.cls = true) (lv0 : List (Nat × Value)) (hlv : lv_args 0 av = lv0) (hlen : Nat.ble (lg_sl av).length mL = true)
    (body : ∀ (p : Program) (e : Env) (s : State) (m : MethodId) (args : Array Value) (below : List Frame) (meth : Method) (c : Code) (A : Nat → Prop), jF p s m args meth c b mL y.cls ret D ay A → jX sa A s s.heap → (∀ x ∈ c.exceptionTable.toList, False) → jJ p l e ({ frames := fr, cells := mc, slots := ms, locals := lo }) s m args below meth c (vx_MQ below (jQ post D ay A) (jXQ postX D ay A) args s mc ms A) D A mL 0 0 wc 0 lv0 []) : jMx l y (jws y b mL ret) fr lo mc ms D ay sa av wc post postX := by
  intro sz
  refine vx_ofW (cc := b) (maxL := mL) (ret := ret) hy rfl ?_
  intro p e s m args below meth c s₁ B hml hT hv
  obtain ⟨rfl, hsz, hP, hK, hD0, hX⟩ := hv
  subst hsz
  have hD := hD0.self (sz := s.heap.size)
  have hts := atoms_spec (ws := jws y b mL ret) B.pre
  have hown := findClass_of_methodNamed B.named
  rw [lg_entry_eq]
  have hl := lv_entry av (n := mL) (Nat.le_of_ble_eq_true hlen)
  rw [hlv] at hl
  exact body p e s m _ below meth c _ ⟨B.exec, B.bytes, hml, hown, fun w h => hts w (List.mem_cons_of_mem _ h), hK, fun q h => Or.inr h, B.notSynchronized, B.returns⟩ hX hT s.heap [] _ hP hD va_S.rf hl
