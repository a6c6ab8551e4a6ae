/-! ===== the law's helpers: calls under handlers ===== -/
def jN (U : State) : Prop := va_Nc eIO eIA U ∧ va_Nc eIS eIA U ∧ va_Nc eNS eIA U ∧ va_Nc eNS eIS U ∧ va_Nc eIA eIS U
theorem jN.moved {u U : State} (hvm : u.vm.Alike U.vm) (h : jN u) : jN U := by
  obtain ⟨h0, h1, h2, h3, h4⟩ := h
  exact ⟨h0.moved hvm, h1.moved hvm, h2.moved hvm, h3.moved hvm, h4.moved hvm⟩
def jwsH (y : MethodName) (b : ByteArray) (mL : Nat) (ret : Option FieldType) (hh : List (Nat × Nat × Nat × Nat)) : List Cond := .codeWith y b mL ret hh :: gw
theorem jwsH_in {y : MethodName} {b : ByteArray} {mL : Nat} {ret : Option FieldType} {hh : List (Nat × Nat × Nat × Nat)} (h : Cond.codeWith y b mL ret hh ∈ gw) : GoodIn gw (jwsH y b mL ret hh) := fun w hw => by
  rcases List.mem_cons.mp hw with rfl | hw
  · exact gw_in _ h
  · exact gw_in w hw
/-- a static method with handlers, as it is linked -/
def jLH (own : String) (idx : Nat) (y : MethodName) (b : ByteArray) (mL : Nat) (ret : Option FieldType) (hh : List (Nat × Nat × Nat × Nat)) (n : Nat) : Prop :=
  Cond.methodLink own idx y ∈ gw ∧ Cond.static y ∈ gw ∧ Cond.initialized y.cls ∈ gw ∧ Cond.codeWith y b mL ret hh ∈ gw ∧ (y.cls ≠ "java/lang/invoke/MethodHandle" ∧ y.cls ≠ "java/lang/invoke/VarHandle" ∧ (parseMethodDescriptor y.desc).map (fun d => d.parameters.length) = some n)
/-- a contract of a method that catches -/
def jH (l : Launch) (y : MethodName) (ws : List Cond) (fr lo mc ms : Nat) (D : va_G) (ay : Nat → ClassId) (sa : Nat → Nat) (av : List Value) (wc : va_W) (post : Option Value → va_W → Prop) : Prop :=
  ∀ sz : Nat, Met l y ws ({ frames := fr, cells := mc, slots := ms, locals := lo }) (jPc av wc sz D ay (fun U => jX sa (va_A wc sz) U U.heap ∧ jN U)) (jQ post D ay (va_A wc sz)) mc ms (va_A wc sz)
theorem jPc_blindH {av : List Value} {wc : va_W} {sz : Nat} {D : va_G} {ay : Nat → ClassId} {sa : Nat → Nat} : FrameBlind (jPc av wc sz D ay (fun U => jX sa (va_A wc sz) U U.heap ∧ jN U)) := fun a U g mk h => by
  obtain ⟨h0, h1, h2, h3, h4, ⟨h5, h6, h7, h8⟩, h9⟩ := h
  exact ⟨h0, h1, h2, va_K.moved (u := U) (U := U.calling g mk a) (Vm.Alike.refl U.vm) h3, h4, ⟨h5.moved (u := U) (U := U.calling g mk a) (Vm.Alike.refl U.vm), h6.moved (u := U) (U := U.calling g mk a) (Vm.Alike.refl U.vm), h7.same rfl, h8.same rfl⟩, h9.moved (u := U) (U := U.calling g mk a) (Vm.Alike.refl U.vm)⟩
theorem Met_ofWH {l : Launch} {y : MethodName} {ws ws' : List Cond} {rm : Room} {Pc : Array Value → State → Prop} {Qc : Array Value → State → Outcome → State → Prop} {mc ms : Nat} {free : Addr → Prop} {cc : ByteArray} {maxL : Nat} {ret : Option FieldType} {hh : List (Nat × Nat × Nat × Nat)}
    (hy : plainName y.cls = true) (hw : ws = Cond.codeWith y cc maxL ret hh :: ws')
    (body : ∀ p e s m args below meth c s₁, BodyLoose p l y (headSpec ws rm) cc maxL ret e s m args below meth c s₁ → c.maxLocals = maxL → Pc args s →
      W p l e (headSpec ws rm).room s m args below meth c s.heap [] 0 0 (MQ below Qc args s mc ms free) (entryFrame m args maxL)) : Met l y ws rm Pc Qc mc ms free := by
  refine MetFree.of_bodyS (code := cc) (maxLocals := maxL) (ret := ret) hy ?_ ?_
  · intro args s m h hn
    obtain ⟨m9, meth, c, hn9, h1, h2, h3, h4, -, h5, h6, -⟩ := Cond.codeWith_spec (atoms_spec (ws := ws) h _ (by rw [hw]; exact List.mem_cons_self))
    cases hn.symm.trans hn9
    exact ⟨meth, c, h1, h2, h3, h4, h5, h6⟩
  · intro p e s m args below meth c s₁ B hml hP _
    have hh0 : s₁.heap = s.heap := by rw [B.state]; rfl
    obtain ⟨t, a1, o, b1, b2, b3⟩ := body p e s m args below meth c s₁ B hml hP s₁ hh0 (Stand.of_body B)
    exact ⟨t, o, a1, b1, b2, ⟨b3.1, b3.2⟩⟩
theorem jH_of (l : Launch) {y : MethodName} {b : ByteArray} {mL fr lo mc ms : Nat} {ret : Option FieldType} {hh : List (Nat × Nat × Nat × Nat)} {D : va_G} {ay : Nat → ClassId} {sa : Nat → Nat} {av : List Value} {wc : va_W} {post : Option Value → va_W → Prop} (hy : plainName y.cls = true) (lv0 : List (Nat × Value)) (hlv : lv_args 0 av = lv0) (hlen : Nat.ble (lg_sl av).length mL = true)
    (body : ∀ (p : Program) (e : Env) (s : State) (m : MethodId) (args : Array Value) (below : List Frame) (meth : Method) (c : Code) (A : Nat → Prop), jF p s m args meth c b mL y.cls ret D ay A → jX sa A s s.heap → jN s → c.exceptionTable.toList = tableOf hh → jJ p l e ({ frames := fr, cells := mc, slots := ms, locals := lo }) s m args below meth c (MQ below (jQ post D ay A) args s mc ms A) D A mL 0 0 wc 0 lv0 []) : jH l y (jwsH y b mL ret hh) fr lo mc ms D ay sa av wc post := by
  intro sz
  refine Met_ofWH (cc := b) (maxL := mL) (ret := ret) (hh := hh) hy rfl ?_
  intro p e s m args below meth c s₁ B hml hv
  obtain ⟨rfl, hsz, hP, hK, hD0, hX, hN⟩ := hv
  subst hsz
  have hD := hD0.self (sz := s.heap.size)
  have hts := atoms_spec (ws := jwsH y b mL ret hh) B.pre
  have hown := findClass_of_methodNamed B.named
  have htab := vx_table (x := y) B (hts _ List.mem_cons_self)
  rw [lg_entry_eq]
  have hl := lv_entry av (n := mL) (Nat.le_of_ble_eq_true hlen)
  rw [hlv] at hl
  exact body p e s m _ below meth c _ ⟨B.exec, B.bytes, hml, hown, fun w h => hts w (List.mem_cons_of_mem _ h), hK, fun q h => Or.inr h, B.notSynchronized, B.returns⟩ hX hN htab s.heap [] _ hP hD va_S.rf hl
section JH
variable {p : Program} {l : Launch} {e : Env} {R : Room} {s : State} {m : MethodId} {args : Array Value} {below : List Frame} {meth : Method} {c : Code} {Q : State → Prop} {D : va_G} {A : Nat → Prop} {nL k n : Nat} {ws : va_W} {pc : Nat} {lv : List (Nat × Value)} {st : List Value}
variable {cc : ByteArray} {own : String} {ret : Option FieldType} {ay : Nat → ClassId} {sa : Nat → Nat}
/-- what E thrown at pc meets: the handler at h -/
def jCat (c : Code) (own E : String) (pc h : Nat) (args : Array Value) (s : State) : Prop := ∃ (pre : List ExceptionTableEntry) (x : ExceptionTableEntry) (suf : List ExceptionTableEntry) (name : String), c.exceptionTable.toList = pre ++ x :: suf ∧ (∀ z ∈ pre, covers z pc = false ∨ (z.catchType ≠ 0 ∧ ∃ nm : String, (Cond.classLink own z.catchType nm).before args s = true ∧ va_Nc E nm s)) ∧ covers x pc = true ∧ x.catchType ≠ 0 ∧ x.handlerPc = h ∧ (Cond.classLink own x.catchType name).before args s = true ∧ (Cond.castable E name).before args s = true
theorem j_tgo (F : jF p s m args meth c cc nL own ret D ay A) {wc : va_W} {mc ms : Nat} {rest : List Value} {post : Option Value → va_W → Prop} {postX : String → va_W → Prop} {aa : Array Value} (isC isR : List Nat) (hC : isC.map (fun i => ws[i]?) = wc.map some) (hcov : jcov ws isC isR = true) (hn : va_nd isC = true) (hn2 : va_nd isR = true) (hdis : ∀ i ∈ isR, i ∉ isC)
    (run : ∀ (H : Heap) (locs : List Loc) (ls : Array Slot), va_P D vwCl wc H → va_D (fun _ => True) wc → va_P D vwCl ws H → va_S A s.heap H locs → (∀ q, va_A wc H.size q → A q) → lv_has ls nL lv → vx_Run p l e R s m args below meth c H locs k n mc ms (F0 m pc ls st) rest (jQ post D ay (va_A wc H.size) aa) (jXQ postX D ay (va_A wc H.size)) (va_A wc H.size))
    (kx : ∀ (E : String) (w : va_W), postX E w → ∃ (ws' : va_W) (h : Nat), jin ws ws' w isC isR ∧ jCat c own E pc h args s ∧ ∀ q : Nat, jJ p l e R s m args below meth c Q D A nL (k + mc) (n + ms) ws' h lv [.ref q])
    (kk : ∀ (v : Option Value) (w : va_W), post v w → ∃ ws' : va_W, jin ws ws' w isC isR ∧ jJ p l e R s m args below meth c Q D A nL (k + mc) (n + ms) ws' (pc + 3) lv (v.toList ++ rest)) : jJ p l e R s m args below meth c Q D A nL k n ws pc lv st := by
  intro H locs ls hP hD hS hl T hTT X
  have hF := va_free (wc := wc) hD hS F.2.2.2.2.2.2.1 isC hC
  rcases run H locs ls (hP.sub isC (j_fm hC)) ((hD.sub isC hn hC).weaken (fun _ _ _ _ => trivial)) hP hS hF hl T hTT X with ⟨v, st₀, t, T', L, h0, X', hL, e1, e2, ⟨⟨v', w, hv, hp, hPw, hKw, hDw⟩, hz, hk⟩, stp⟩ | ⟨q9, st₀, t, T', L, E, ce, h0, X', hL, e1, e2, ⟨⟨w, hp, hPw, hKw, hDw⟩, hz, hk⟩, hce, hcv, hcl, stp⟩
  · cases hv
    rw [h0] at hz hk
    obtain ⟨hP2, -⟩ := va_join hP hD isC isR hC (jcov_wr hcov) hn2 hdis (H1 := T'.heap) (fun q h1 h2 => by rw [e1]; exact hk q h1 h2) hF (by rw [e1]; exact hPw) hDw
    obtain ⟨ws', j1, j2⟩ := kk v w hp
    obtain ⟨t2, a1, b1⟩ := jin_J j1 hcov j2 (fun _ _ => trivial) T'.heap (locs ++ L) ls hD hP2 ⟨Nat.le_trans hS.1 (by rw [e1]; exact hz), fun q h1 h2 => by rw [e1, hk q (Nat.lt_of_lt_of_le h1 hS.1) (fun z => h2 (hF q z))]; exact hS.2.1 q h1 h2, fun q hq => by
        rcases List.mem_append.mp hq with h | h
        · exact hS.2.2 q h
        · exact hF _ (hL q h)⟩ hl T' rfl X'
    exact ⟨t2, stp t2 a1, b1⟩
  · rw [h0] at hz hk
    obtain ⟨hP2, -⟩ := va_join hP hD isC isR hC (jcov_wr hcov) hn2 hdis (H1 := T'.heap) (fun q h1 h2 => by rw [e1]; exact hk q h1 h2) hF (by rw [e1]; exact hPw) hDw
    obtain ⟨ws', h, j1, ⟨pre, x, suf, name, c1, c2, c3, c4, rfl, c6, c7⟩, j2⟩ := kx E w hp
    have hS2 : va_S A s.heap T'.heap (locs ++ L) := ⟨Nat.le_trans hS.1 (by rw [e1]; exact hz), fun q h1 h2 => by rw [e1, hk q (Nat.lt_of_lt_of_le h1 hS.1) (fun z => h2 (hF q z))]; exact hS.2.1 q h1 h2, fun q hq => by
        rcases List.mem_append.mp hq with h | h
        · exact hS.2.2 q h
        · exact hF _ (hL q h)⟩
    have hW := jin_J j1 hcov (j2 q9) (fun _ _ => trivial) T'.heap (locs ++ L) ls hD hP2 hS2 hl
    obtain ⟨t2, a1, b1⟩ := vx_catch (pc := pc) (rest := rest) F.2.2.2.1 pre x suf c1 c2 c3 c4 c6 c7 (by rw [e1]; exact hce) hcv hcl hW T' rfl X'
    exact ⟨t2, stp.trans a1, b1⟩
theorem j_tryV (F : jF p s m args meth c cc nL own ret D ay A) (hX : jX sa A s s.heap) {idx ci fr lo mc ms mL n1 : Nat} {y : MethodName} {b : ByteArray} {ret1 : Option FieldType} (L : jLV own idx ci y b mL ret1 n1) {a : Nat} {As rest : List Value} {wc : va_W} {post : Option Value → va_W → Prop} {postX : String → va_W → Prop} (hM : jMx l y (jws y b mL ret1) fr lo mc ms D ay sa (.ref a :: As) wc post postX) (q0 i0 len : Nat) {fs : List Value} (he : ws[q0]? = some (a, .inr (ci, fs))) (hC : (ws.drop i0).take len = wc) (hok : slok R fr mL lo i0 len ws = true) (hst : st = As.reverse ++ .ref a :: rest) (hlen : As.length = n1) (hcat : Nat.ble ((rest.map fun v => v.category).sum) 8 = true) (hf : k + mc ≤ R.cells ∧ n + ms ≤ R.slots) (hdg : decode cc pc = .ok (.invokevirtual idx, 3))
    (kx : ∀ (E : String) (w : va_W), postX E w → w.map (fun q => q.1) = wc.map (fun q => q.1) ∧ ∃ (ws' : va_W) (h : Nat), slp i0 len ws w = ws' ∧ jCat c own E pc h args s ∧ ∀ q : Nat, jJ p l e R s m args below meth c Q D A nL (k + mc) (n + ms) ws' h lv [.ref q])
    (kk : ∀ (v : Option Value) (w : va_W), post v w → w.map (fun q => q.1) = wc.map (fun q => q.1) ∧ ∃ ws' : va_W, slp i0 len ws w = ws' ∧ jJ p l e R s m args below meth c Q D A nL (k + mc) (n + ms) ws' (pc + 3) lv (v.toList ++ rest)) : jJ p l e R s m args below meth c Q D A nL k n ws pc lv st := by
  obtain ⟨ho, hb⟩ := slok_spec hok
  obtain ⟨k1, k2, k3, k4, k5⟩ := jok_spec ho
  obtain ⟨T0, N0, hcl⟩ := L.1
  refine j_tgo F (mc := mc) (ms := ms) (rest := rest) (post := post) (postX := postX) (aa := (Value.ref a :: As).toArray) _ _ (sl_C hb hC) (sl_cov hb) k3 k4 k5 (fun H locs ls hPc hDc hP hS hF hl => ?_) (fun E w hp => ?_) (fun v w hp => ?_)
  · exact vx_runV (Ts := gw) ⟨F.1, F.2.1, F.2.2.1, F.2.2.2.1, F.2.2.2.2.1⟩ (hM H.size) (jLV.cw F L ⟨k1, k2⟩) ⟨jPc_blindX, va_recv F.2.2.2.2.2.1 hP hcl he, fun U hU hW => ⟨rfl, by rw [hU], by rw [hU]; exact hPc, va_K.moved hW.alike F.2.2.2.2.2.1, hDc, by show jX sa (va_A wc H.size) U U.heap; rw [hU]; exact hX.kept hW hF (fun q h1 h2 => hS.2.1 q h1 h2)⟩⟩ rfl hlen hl.1 hst (lv_room (Nat.le_of_ble_eq_true hcat)) hdg hf
  · obtain ⟨h1, ws', h, h2, h3, h4⟩ := kx E w hp
    exact ⟨ws', h, sl_in hb hC h1 h2, h3, h4⟩
  · obtain ⟨h1, ws', h2, h3⟩ := kk v w hp
    exact ⟨ws', sl_in hb hC h1 h2, h3⟩
/-- a call of a method that catches -/
theorem j_hcallS (F : jF p s m args meth c cc nL own ret D ay A) (hX : jX sa A s s.heap) (hN : jN s) {idx fr lo mc ms mL n1 : Nat} {y : MethodName} {b : ByteArray} {ret1 : Option FieldType} {hh : List (Nat × Nat × Nat × Nat)} (L : jLH own idx y b mL ret1 hh n1) {As rest : List Value} {wc : va_W} {post : Option Value → va_W → Prop} (hM : jH l y (jwsH y b mL ret1 hh) fr lo mc ms D ay sa As wc post) (i0 len : Nat) (hC : (ws.drop i0).take len = wc) (hok : slok R fr mL lo i0 len ws = true) (hst : st = As.reverse ++ rest) (hlen : As.length = n1) (hcat : Nat.ble ((rest.map fun v => v.category).sum) 8 = true) (hf : k + mc ≤ R.cells ∧ n + ms ≤ R.slots) (hdg : decode cc pc = .ok (.invokestatic idx, 3))
    (kk : ∀ (v : Option Value) (w : va_W), post v w → w.map (fun q => q.1) = wc.map (fun q => q.1) ∧ ∃ ws' : va_W, slp i0 len ws w = ws' ∧ jJ p l e R s m args below meth c Q D A nL (k + mc) (n + ms) ws' (pc + 3) lv (v.toList ++ rest)) : jJ p l e R s m args below meth c Q D A nL k n ws pc lv st := by
  obtain ⟨ho, hb⟩ := slok_spec hok
  obtain ⟨k1, k2, k3, k4, k5⟩ := jok_spec ho
  have ht := F.2.2.2.2.1
  obtain ⟨h1, h2, h3, h4, h5⟩ := L
  refine j_goI F (mc := mc) (ms := ms) (rest := rest) (post := post) (aa := As.toArray) _ _ (sl_C hb hC) (sl_cov hb) k3 k4 k5 (fun H locs ls hPc hDc hP hS hF hl => ?_) (fun v w hp => ?_)
  · refine vx_runSW (Ts := gw) (hh := hh) (bytes := b) (maxL := mL) (ret := ret1) ⟨F.1, F.2.1, F.2.2.1, F.2.2.2.1, F.2.2.2.2.1⟩ (hM H.size) ⟨⟨rfl, rfl, k1, k2, pay_in ht (jwsH_in h4), List.mem_cons_self⟩, ht _ h4, ht _ h3, ⟨h5.1, h5.2.1⟩, fun sig h => ?_, ht _ h1, ht _ h2⟩ ⟨jPc_blindH, fun U hU hW => ⟨rfl, by rw [hU], by rw [hU]; exact hPc, va_K.moved hW.alike F.2.2.2.2.2.1, hDc, by show jX sa (va_A wc H.size) U U.heap ∧ jN U; exact ⟨by rw [hU]; exact hX.kept hW hF (fun q h1 h2 => hS.2.1 q h1 h2), hN.moved hW.alike⟩⟩⟩ rfl hlen hl.1 hst (lv_room (Nat.le_of_ble_eq_true hcat)) hdg hf
    have h6 := h5.2.2
    rw [h] at h6
    exact (Option.some.inj h6).symm
  · obtain ⟨a1, ws', a2, a3⟩ := kk v w hp
    exact ⟨ws', sl_in hb hC a1 a2, a3⟩
end JH
