/-! ===== the constructors ===== -/
def nests : List (String × Nat × MethodName) := [(RX7, 11, yX8_init), (RX7, 20, yX1_init), (RX9, 29, yX5_init), (RX5, 20, yX8_init), (RX9, 36, yX4_init), (RX4, 11, yX6_init), (RX4, 20, yX3_init), (RX2, 24, yX8_init), (RX0, 9, yX8_init)]
/-- the words of nest mates, and the arrays of caches -/
def jU (U : State) : Prop := (∀ q ∈ nests, va_Nw (.methodLinkNest q.1 q.2.1 q.2.2 RX9) U) ∧ va_AO RX0 U
theorem jU.warm {s U : State} (hW : s.WarmedH U.vm) (h : jU s) : jU U := ⟨fun q hq => (h.1 q hq).warmM hW, h.2.moved hW.alike⟩
theorem jU.same {u U : State} (hv : u.vm = U.vm) (h : jU u) : jU U := ⟨fun q hq => (h.1 q hq).same rfl hv, h.2.moved (by rw [hv]; exact Vm.Alike.refl _)⟩
def jC (l : Launch) (y : MethodName) (ws : List Cond) (fr lo mc ms : Nat) (D : va_G) (ay : Nat → ClassId) (av : List Value) (wc : va_W) (post : Option Value → va_W → Prop) : Prop :=
  ∀ sz : Nat, Met l y ws ({ frames := fr, cells := mc, slots := ms, locals := lo }) (jPc av wc sz D ay jU) (jQ post D ay (va_A wc sz)) mc ms (va_A wc sz)
theorem jPc_blindU {av : List Value} {wc : va_W} {sz : Nat} {D : va_G} {ay : Nat → ClassId} : FrameBlind (jPc av wc sz D ay jU) := fun a U g mk h => by
  obtain ⟨h0, h1, h2, h3, h4, h5⟩ := h
  exact ⟨h0, h1, h2, va_K.moved (u := U) (U := U.calling g mk a) (Vm.Alike.refl U.vm) h3, h4, h5.same rfl⟩
theorem jC_of (l : Launch) {y : MethodName} {b : ByteArray} {mL fr lo mc ms : Nat} {ret : Option FieldType} {D : va_G} {ay : Nat → ClassId} {av : List Value} {wc : va_W} {post : Option Value → va_W → Prop} (hy : plainName y.cls = true) (hyn : y.name = "<init>") (lv0 : List (Nat × Value)) (hlv : lv_args 0 av = lv0) (hlen : Nat.ble (lg_sl av).length mL = true)
    (body : ∀ (p : Program) (e : Env) (s : State) (m : MethodId) (args : Array Value) (below : List Frame) (meth : Method) (c : Code) (A : Nat → Prop), jF p s m args meth c b mL y.cls ret D ay A → jU s → meth.name = "<init>" → jJ p l e ({ frames := fr, cells := mc, slots := ms, locals := lo }) s m args below meth c (MQ below (jQ post D ay A) args s mc ms A) D A mL 0 0 wc 0 lv0 []) : jC l y (jws y b mL ret) fr lo mc ms D ay av wc post := by
  intro sz
  refine Met.ofW (cc := b) (maxL := mL) (ret := ret) hy rfl ?_
  intro p e s m args below meth c s₁ B hml hv
  obtain ⟨rfl, hsz, hP, hK, hD0, hU⟩ := hv
  subst hsz
  have hD := hD0.self (sz := s.heap.size)
  have hts := atoms_spec (ws := jws y b mL ret) B.pre
  have hown := findClass_of_methodNamed B.named
  have hin : meth.name = "<init>" := ((name_of_methodNamed B.named B.method).1).trans hyn
  rw [lg_entry_eq]
  have hl := lv_entry av (n := mL) (Nat.le_of_ble_eq_true hlen)
  rw [hlv] at hl
  exact body p e s m _ below meth c _ ⟨B.exec, B.bytes, hml, hown, fun w h => hts w (List.mem_cons_of_mem _ h), hK, fun q h => Or.inr h, B.notSynchronized, B.returns⟩ hU hin s.heap [] _ hP hD va_S.rf hl
/-- a constructor, as it is linked -/
def jLI (own : String) (idx : Nat) (y : MethodName) (b : ByteArray) (mL : Nat) (n : Nat) : Prop :=
  (Cond.methodLink own idx y ∈ gw ∨ (own, idx, y) ∈ nests) ∧ Cond.instanceMethod y ∈ gw ∧ Cond.initialized y.cls ∈ gw ∧ Cond.code y b mL none ∈ gw ∧ y.name = "<init>" ∧ (y.cls ≠ "java/lang/invoke/MethodHandle" ∧ y.cls ≠ "java/lang/invoke/VarHandle" ∧ (parseMethodDescriptor y.desc).map (fun d => d.parameters.length) = some n)
/-- an instance of a class, as it is made -/
def jLN (own : String) (idx ci : Nat) (C : String) (T : u_T) (N : Nat) (ty0 : Nat → FieldType) : Prop :=
  vwCl[ci]? = some (C, T, N) ∧ (∀ w ∈ u_ws C T N, w ∈ gw) ∧ (∀ k, k < N → parseFieldDescriptor (T k).2.2.1 = some (ty0 k)) ∧ Cond.classLink own idx C ∈ gw ∧ Cond.instantiable C N ∈ gw ∧ Cond.initialized C ∈ gw
section JC
variable {p : Program} {l : Launch} {e : Env} {R : Room} {s : State} {m : MethodId} {args : Array Value} {below : List Frame} {meth : Method} {c : Code} {Q : State → Prop} {D : va_G} {A : Nat → Prop} {nL k n : Nat} {ws : va_W} {pc : Nat} {lv : List (Nat × Value)} {st : List Value}
variable {cc : ByteArray} {own : String} {ret : Option FieldType} {ay : Nat → ClassId}
theorem j_callI (F : jF p s m args meth c cc nL own ret D ay A) (hU : jU s) {idx fr lo mc ms mL n1 : Nat} {y : MethodName} {b : ByteArray} (L : jLI own idx y b mL n1) {a : Nat} {As rest : List Value} {wc : va_W} {post : Option Value → va_W → Prop} (hM : jC l y (jws y b mL none) fr lo mc ms D ay (.ref a :: As) wc post) (isC isR : List Nat) (wr : va_W) (hC : isC.map (fun i => ws[i]?) = wc.map some) (hR : isR.map (fun i => ws[i]?) = wr.map some) (hok : jok R fr mL lo isC isR = true) (hst : st = As.reverse ++ .ref a :: rest) (hlen : As.length = n1) (hcat : Nat.ble ((rest.map fun v => v.category).sum) 8 = true) (hf : k + mc ≤ R.cells ∧ n + ms ≤ R.slots) (hdg : decode cc pc = .ok (.invokespecial idx, 3))
    (kk : ∀ (v : Option Value) (w : va_W), post v w → jJ p l e R s m args below meth c Q D A nL (k + mc) (n + ms) (wr ++ w) (pc + 3) lv (v.toList ++ rest)) : jJ p l e R s m args below meth c Q D A nL k n ws pc lv st := by
  obtain ⟨k1, k2, k3, k4, k5⟩ := jok_spec hok
  have ht := F.2.2.2.2.1
  obtain ⟨h1, h2, h3, h4, h5, h6⟩ := L
  refine j_go F (aa := (Value.ref a :: As).toArray) isC isR hC hR k3 k4 k5 (fun H locs ls hPc hDc hP hS hF hl => ?_) kk
  have hp : PreS s H (jPc (.ref a :: As) wc H.size D ay jU) (.ref a :: As) := ⟨jPc_blindU, fun U hU' hW => ⟨rfl, by rw [hU'], by rw [hU']; exact hPc, va_K.moved hW.alike F.2.2.2.2.2.1, hDc, hU.warm hW⟩⟩
  rcases h1 with h1 | h1
  · exact va_runI (Ts := gw) ⟨F.1, F.2.1, F.2.2.1, F.2.2.2.1, F.2.2.2.2.1⟩ (hM H.size) (cwI n1 ht (jws_in h4) rfl rfl rfl (ht _ h3) (ht _ h1) (ht _ h2) h5 h6 ⟨k1, k2⟩) hp rfl hlen hl.1 hst (lv_room (Nat.le_of_ble_eq_true hcat)) hdg hf
  · exact va_runIN (Ts := gw) (host := RX9) ⟨F.1, F.2.1, F.2.2.1, F.2.2.2.1, F.2.2.2.2.1⟩ (hM H.size) ⟨va_cnB n1 ht (jws_in h4) rfl rfl rfl (hU.1 _ h1) (ht _ h3) h6 ⟨k1, k2⟩, h5, ht _ h2⟩ hp rfl hlen hl.1 hst (lv_room (Nat.le_of_ble_eq_true hcat)) hdg hf
theorem j_obj (F : jF p s m args meth c cc nL own ret D ay A) {idx a : Nat} (h1 : Cond.methodLink own idx Lib.objectInit ∈ gw) (h2 : Cond.instanceMethod Lib.objectInit ∈ gw) (h3 : Cond.code Lib.objectInit ⟨#[0xb1]⟩ 1 none ∈ gw) (hR : 1 ≤ R.frames ∧ 20 + (st.map fun v => v.category).sum ≤ R.locals) (hdg : decode cc pc = .ok (.invokespecial idx, 3)) (kk : jJ p l e R s m args below meth c Q D A nL k n ws (pc + 3) lv st) : jJ p l e R s m args below meth c Q D A nL k n ws pc lv (.ref a :: st) := fun H locs ls hP hD hS hl => by
  refine W.objInit F.1 F.2.1 F.2.2.2.1 (F.2.2.2.2.1 _ h1) (F.2.2.2.2.1 _ h2) (F.2.2.2.2.1 _ h3) rfl (by rw [F.2.2.1]; exact hl.1) rfl hdg hR.1 ?_ ?_
  · have := hR.2
    show 2 * (F0 m pc ls (.ref a :: st)).monitorRoom + _ + 12 ≤ _
    have e0 : (F0 m pc ls (.ref a :: st)).monitorRoom = 0 := rfl
    omega
  · exact W.eq (g2 := F0 m (pc + 3) ls st) rfl (kk H locs ls hP hD hS hl)
theorem ay_eq {cA c0 : ClassId} {ty : FieldType} {t : Nat} (hK : va_K D vwCl (jT ay ++ [(cA, ty)]) s) (ht : (jT ay)[t]? = some (c0, ty)) : cA = c0 := by
  have h1 := (hK.2 5 (cA, ty) rfl).2
  have ht5 : t < 5 := (List.getElem?_eq_some_iff.mp ht).1
  have h2 := (hK.2 t (c0, ty) ((List.getElem?_append_left ht5).trans ht)).2
  cases ty with
  | object C =>
    obtain ⟨_, _, _, _, _, h1⟩ := h1
    obtain ⟨_, _, _, _, _, h2⟩ := h2
    exact Option.some.inj (h1.symm.trans h2)
  | _ => exact Option.some.inj (h1.symm.trans h2)
theorem va_K.five {cA : ClassId} {ty : FieldType} (hK : va_K D vwCl (jT ay ++ [(cA, ty)]) s) : True := trivial
theorem j_newa (F : jF p s m args meth c cc nL own ret D ay A) (t : Nat) {atype : ArrayType} {ty : FieldType} (hg : Cond.arrayClass (newarray.typeOf atype) ∈ gw) (hty : newarray.typeOf atype = ty) {c0 : ClassId} (ht : (jT ay)[t]? = some (c0, ty)) (N' : Nat) {x : Int32} (a0 : vp_A) (ha : ∀ cA, vp_cell cA a0 = arrV cA N' (fun _ => defaultValue ty)) (hx : x = nI N') (hN : Nat.ble N' 100000 = true) (hby : Nat.ble (N' * componentBytes ty) 536870912 = true) (hf : k + 1 ≤ R.cells ∧ n + N' ≤ R.slots) (hdg : decode cc pc = .ok (.newarray atype, 2)) (kk : ∀ q : Nat, jJ p l e R s m args below meth c Q D A nL (k + 1) (n + N') (ws ++ [(q, .inl (c0, a0))]) (pc + 2) lv (.ref q :: st)) : jJ p l e R s m args below meth c Q D A nL k n ws pc lv (.int x :: st) := fun H locs ls hP hD hS hl => by
  have hN2 := Nat.le_of_ble_eq_true hN
  subst hx
  refine va_newa F.1 F.2.1 (F.2.2.2.2.1 _ hg) hty F.2.2.2.2.2.1 hP hD hS F.2.2.2.2.2.2.1 ha (nI_pos (by omega)) (clampN (by omega)) (Nat.le_of_ble_eq_true hby) hf.1 hf.2 hdg (fun q cA H1 hK hP hD hS => ?_)
  have hc := ay_eq hK ht
  subst hc
  exact kk q H1 locs ls hP hD hS hl
theorem j_newq (F : jF p s m args meth c cc nL own ret D ay A) (hU : jU s) {idx : Nat} (hg : Cond.classLink own idx RX0 ∈ gw) (N' : Nat) {x : Int32} (hx : x = nI N') (hN : Nat.ble N' 100000 = true) (hf : k + 1 ≤ R.cells ∧ n + N' ≤ R.slots) (hdg : decode cc pc = .ok (.anewarray idx, 3)) (kk : ∀ q : Nat, jJ p l e R s m args below meth c Q D A nL (k + 1) (n + N') (ws ++ [(q, .inl (ay 2, N', .inr (.inr (.inr (.inr (fun _ => none))))))]) (pc + 3) lv (.ref q :: st)) : jJ p l e R s m args below meth c Q D A nL k n ws pc lv (.int x :: st) := fun H locs ls hP hD hS hl => by
  have hN2 := Nat.le_of_ble_eq_true hN
  subst hx
  refine va_newq F.1 F.2.1 F.2.2.2.1 (F.2.2.2.2.1 _ hg) hU.2 F.2.2.2.2.2.1 hP hD hS F.2.2.2.2.2.2.1 (nI_pos (by omega)) (clampN (by omega)) (by omega) hf.1 hf.2 hdg (fun q cA H1 hK hP hD hS => ?_)
  have hc := ay_eq (t := 2) hK rfl
  subst hc
  exact kk q H1 locs ls hP hD hS hl
theorem j_new (F : jF p s m args meth c cc nL own ret D ay A) {idx ci N : Nat} {C : String} {T : u_T} {ty0 : Nat → FieldType} (L : jLN own idx ci C T N ty0) (fs : List Value) (hfs : ∀ j, j < N → defaultValue (ty0 j) = vp_V fs j) (hf : k + 1 ≤ R.cells ∧ n + N ≤ R.slots) (hdg : decode cc pc = .ok (.new idx, 3)) (kk : ∀ q : Nat, jJ p l e R s m args below meth c Q D A nL (k + 1) (n + N) (ws ++ [(q, .inr (ci, fs))]) (pc + 3) lv (.ref q :: st)) : jJ p l e R s m args below meth c Q D A nL k n ws pc lv st := fun H locs ls hP hD hS hl =>
  va_new F.1 F.2.1 F.2.2.2.2.1 L.2.1 ty0 L.2.2.1 F.2.2.2.1 (F.2.2.2.2.1 _ L.2.2.2.1) (F.2.2.2.2.1 _ L.2.2.2.2.1) (F.2.2.2.2.1 _ L.2.2.2.2.2) F.2.2.2.2.2.1 hP hD hS F.2.2.2.2.2.2.1 L.1 hfs hf.1 hf.2 hdg (fun q H1 hP hD hS => kk q H1 locs ls hP hD hS hl)
/-- a cache into the row of caches -/
theorem j_astq (F : jF p s m args meth c cc nL own ret D ay A) (q0 qk : Nat) (ws' : va_W) {a len v : Nat} {f : Nat → Option Nat} {vs : List Value} {i : Int32} (j : Nat) (ha : ws[q0]? = some (a, .inl (ay 2, len, .inr (.inr (.inr (.inr f)))))) (hv : ws[qk]? = some (v, .inr (0, vs))) (hi : i = nI j) (hj : j < len) (hb : len ≤ 100000) (hw : ws.set q0 (a, .inl (ay 2, len, .inr (.inr (.inr (.inr (va_up f j (some v))))))) = ws') (hdg : decode cc pc = .ok (.aastore, 1)) (kk : jJ p l e R s m args below meth c Q D A nL k n ws' (pc + 1) lv st) : jJ p l e R s m args below meth c Q D A nL k n ws pc lv (.ref v :: .int i :: .ref a :: st) := fun H locs ls hP hD hS hl => by
  have hc : i.toNatClampNeg = j := by rw [hi]; exact nI_clamp (by omega)
  refine va_astq F.1 F.2.1 F.2.2.2.2.2.1 hP hD hS q0 2 qk 0 (r := (RX0, TX0, 3)) ha rfl hv rfl (by rw [hi]; exact vp_in_nI hj (by omega)) hdg (fun H1 locs1 hP hD hS => ?_)
  rw [hc, hw] at hP hD
  exact kk H1 locs1 ls hP hD hS hl
/-- the row of caches, by its places alone -/
theorem j_aq (q0 : Nat) (ws' : va_W) {a len : Nat} {cA : ClassId} {f g : Nat → Option Nat} (ha : ws[q0]? = some (a, .inl (cA, len, .inr (.inr (.inr (.inr f)))))) (hw : ws.set q0 (a, .inl (cA, len, .inr (.inr (.inr (.inr g))))) = ws') (hfg : ∀ j, j < len → f j = g j) (kk : jJ p l e R s m args below meth c Q D A nL k n ws' pc lv st) : jJ p l e R s m args below meth c Q D A nL k n ws pc lv st := fun H locs ls hP hD hS hl => by
  have e1 : ∀ cA : ClassId, arrV cA len (fun j => va_rf (f j)) = arrV cA len (fun j => va_rf (g j)) := fun cA => by
    unfold arrV
    congr 1
    apply Array.ext
    · simp
    · intro i h1 h2
      have hi : i < len := by simpa using h1
      simp [hfg i hi]
  refine kk H locs ls (fun x y hy => ?_) ?_ hS hl
  · subst hw
    by_cases hx : x = q0
    · subst hx
      have hlt : x < ws.length := (List.getElem?_eq_some_iff.mp ha).1
      rw [List.getElem?_set_self hlt] at hy
      cases hy
      have h3 := hP x _ ha
      show H[a]? = some (vp_cell cA (len, .inr (.inr (.inr (.inr g)))))
      rw [vp_cell_q, ← e1, ← vp_cell_q]
      exact h3
    · rw [List.getElem?_set_ne (Ne.symm hx)] at hy
      exact hP x y hy
  · subst hw
    exact hD.set ha
end JC
theorem gi_0 : Cond.methodLink RL 130 yX9_init ∈ gw := gwm 72 (by decide +kernel) rfl
theorem gi_1 : Cond.instanceMethod yX9_init ∈ gw := gwm 73 (by decide +kernel) rfl
theorem gi_2 : Cond.initialized RX9 ∈ gw := gwm 52 (by decide +kernel) rfl
theorem gi_3 : Cond.code yX9_init cX9_init 2 none ∈ gw := gwm 74 (by decide +kernel) rfl
theorem kIL_130 : jLI RL 130 yX9_init cX9_init 2 0 := ⟨Or.inl gi_0, gi_1, gi_2, gi_3, rfl, by decide +kernel⟩
theorem gi_4 : Cond.methodLink RX9 11 yX7_init ∈ gw := gwm 80 (by decide +kernel) rfl
theorem gi_5 : Cond.instanceMethod yX7_init ∈ gw := gwm 81 (by decide +kernel) rfl
theorem gi_6 : Cond.initialized RX7 ∈ gw := gwm 53 (by decide +kernel) rfl
theorem gi_7 : Cond.code yX7_init cX7_init 2 none ∈ gw := gwm 82 (by decide +kernel) rfl
theorem kIX9_11 : jLI RX9 11 yX7_init cX7_init 2 1 := ⟨Or.inl gi_4, gi_5, gi_6, gi_7, rfl, by decide +kernel⟩
theorem gi_8 : Cond.instanceMethod yX8_init ∈ gw := gwm 87 (by decide +kernel) rfl
theorem gi_9 : Cond.initialized RX8 ∈ gw := gwm 54 (by decide +kernel) rfl
theorem gi_10 : Cond.code yX8_init cX8_init 1 none ∈ gw := gwm 88 (by decide +kernel) rfl
theorem kIX7_11 : jLI RX7 11 yX8_init cX8_init 1 0 := ⟨Or.inr (List.mem_of_getElem? (i := 0) rfl), gi_8, gi_9, gi_10, rfl, by decide +kernel⟩
theorem gi_11 : Cond.instanceMethod yX1_init ∈ gw := gwm 101 (by decide +kernel) rfl
theorem gi_12 : Cond.initialized RX1 ∈ gw := gwm 55 (by decide +kernel) rfl
theorem gi_13 : Cond.code yX1_init cX1_init 1 none ∈ gw := gwm 102 (by decide +kernel) rfl
theorem kIX7_20 : jLI RX7 20 yX1_init cX1_init 1 0 := ⟨Or.inr (List.mem_of_getElem? (i := 1) rfl), gi_11, gi_12, gi_13, rfl, by decide +kernel⟩
theorem gi_14 : Cond.instanceMethod yX5_init ∈ gw := gwm 138 (by decide +kernel) rfl
theorem gi_15 : Cond.initialized RX5 ∈ gw := gwm 56 (by decide +kernel) rfl
theorem gi_16 : Cond.code yX5_init cX5_init 1 none ∈ gw := gwm 139 (by decide +kernel) rfl
theorem kIX9_29 : jLI RX9 29 yX5_init cX5_init 1 0 := ⟨Or.inr (List.mem_of_getElem? (i := 2) rfl), gi_14, gi_15, gi_16, rfl, by decide +kernel⟩
theorem kIX5_20 : jLI RX5 20 yX8_init cX8_init 1 0 := ⟨Or.inr (List.mem_of_getElem? (i := 3) rfl), gi_8, gi_9, gi_10, rfl, by decide +kernel⟩
theorem gi_17 : Cond.instanceMethod yX4_init ∈ gw := gwm 159 (by decide +kernel) rfl
theorem gi_18 : Cond.initialized RX4 ∈ gw := gwm 57 (by decide +kernel) rfl
theorem gi_19 : Cond.code yX4_init cX4_init 1 none ∈ gw := gwm 160 (by decide +kernel) rfl
theorem kIX9_36 : jLI RX9 36 yX4_init cX4_init 1 0 := ⟨Or.inr (List.mem_of_getElem? (i := 4) rfl), gi_17, gi_18, gi_19, rfl, by decide +kernel⟩
theorem gi_20 : Cond.instanceMethod yX6_init ∈ gw := gwm 165 (by decide +kernel) rfl
theorem gi_21 : Cond.initialized RX6 ∈ gw := gwm 58 (by decide +kernel) rfl
theorem gi_22 : Cond.code yX6_init cX6_init 1 none ∈ gw := gwm 166 (by decide +kernel) rfl
theorem kIX4_11 : jLI RX4 11 yX6_init cX6_init 1 0 := ⟨Or.inr (List.mem_of_getElem? (i := 5) rfl), gi_20, gi_21, gi_22, rfl, by decide +kernel⟩
theorem gi_23 : Cond.instanceMethod yX3_init ∈ gw := gwm 178 (by decide +kernel) rfl
theorem gi_24 : Cond.initialized RX3 ∈ gw := gwm 59 (by decide +kernel) rfl
theorem gi_25 : Cond.code yX3_init cX3_init 1 none ∈ gw := gwm 179 (by decide +kernel) rfl
theorem kIX4_20 : jLI RX4 20 yX3_init cX3_init 1 0 := ⟨Or.inr (List.mem_of_getElem? (i := 6) rfl), gi_23, gi_24, gi_25, rfl, by decide +kernel⟩
theorem gi_26 : Cond.methodLink RX9 43 yX2_init ∈ gw := gwm 212 (by decide +kernel) rfl
theorem gi_27 : Cond.instanceMethod yX2_init ∈ gw := gwm 213 (by decide +kernel) rfl
theorem gi_28 : Cond.initialized RX2 ∈ gw := gwm 60 (by decide +kernel) rfl
theorem gi_29 : Cond.code yX2_init cX2_init 2 none ∈ gw := gwm 214 (by decide +kernel) rfl
theorem kIX9_43 : jLI RX9 43 yX2_init cX2_init 2 0 := ⟨Or.inl gi_26, gi_27, gi_28, gi_29, rfl, by decide +kernel⟩
theorem kIX2_24 : jLI RX2 24 yX8_init cX8_init 1 0 := ⟨Or.inr (List.mem_of_getElem? (i := 7) rfl), gi_8, gi_9, gi_10, rfl, by decide +kernel⟩
theorem gi_30 : Cond.methodLink RX9 52 yX0_init ∈ gw := gwm 245 (by decide +kernel) rfl
theorem gi_31 : Cond.instanceMethod yX0_init ∈ gw := gwm 246 (by decide +kernel) rfl
theorem gi_32 : Cond.initialized RX0 ∈ gw := gwm 61 (by decide +kernel) rfl
theorem gi_33 : Cond.code yX0_init cX0_init 2 none ∈ gw := gwm 247 (by decide +kernel) rfl
theorem kIX9_52 : jLI RX9 52 yX0_init cX0_init 2 1 := ⟨Or.inl gi_30, gi_31, gi_32, gi_33, rfl, by decide +kernel⟩
theorem kIX0_9 : jLI RX0 9 yX8_init cX8_init 1 0 := ⟨Or.inr (List.mem_of_getElem? (i := 8) rfl), gi_8, gi_9, gi_10, rfl, by decide +kernel⟩
theorem gi_34 : Cond.methodLink RL 133 yX10_init ∈ gw := gwm 1106 (by decide +kernel) rfl
theorem gi_35 : Cond.instanceMethod yX10_init ∈ gw := gwm 1107 (by decide +kernel) rfl
theorem gi_36 : Cond.initialized RX10 ∈ gw := gwm 62 (by decide +kernel) rfl
theorem gi_37 : Cond.code yX10_init cX10_init 2 none ∈ gw := gwm 1108 (by decide +kernel) rfl
theorem kIL_133 : jLI RL 133 yX10_init cX10_init 2 0 := ⟨Or.inl gi_34, gi_35, gi_36, gi_37, rfl, by decide +kernel⟩
theorem gi_38 : Cond.instanceMethod Lib.objectInit ∈ gw := gwm 76 (by decide +kernel) rfl
theorem gi_39 : Cond.code Lib.objectInit ⟨#[0xb1]⟩ 1 none ∈ gw := gwm 77 (by decide +kernel) rfl
theorem gi_40 : Cond.methodLink RX0 1 Lib.objectInit ∈ gw := gwm 248 (by decide +kernel) rfl
theorem gi_42 : Cond.classLink RX0 7 RX8 ∈ gw := gwm 249 (by decide +kernel) rfl
theorem gi_43 : Cond.instantiable RX8 2 ∈ gw := gwm 85 (by decide +kernel) rfl
theorem nwX0_7 : jLN RX0 7 8 RX8 TX8 2 tyX8 := ⟨rfl, inlX8, tyX8_ok, gi_42, gi_43, gi_9⟩
theorem gi_44 : Cond.methodLink RX1 1 Lib.objectInit ∈ gw := gwm 103 (by decide +kernel) rfl
theorem gi_45 : Cond.methodLink RX2 3 Lib.objectInit ∈ gw := gwm 215 (by decide +kernel) rfl
theorem gi_47 : Cond.classLink RX2 22 RX8 ∈ gw := gwm 216 (by decide +kernel) rfl
theorem nwX2_22 : jLN RX2 22 8 RX8 TX8 2 tyX8 := ⟨rfl, inlX8, tyX8_ok, gi_47, gi_43, gi_9⟩
theorem gi_48 : Cond.methodLink RX3 3 Lib.objectInit ∈ gw := gwm 180 (by decide +kernel) rfl
theorem gi_49 : Cond.methodLink RX4 3 Lib.objectInit ∈ gw := gwm 161 (by decide +kernel) rfl
theorem gi_51 : Cond.classLink RX4 9 RX6 ∈ gw := gwm 162 (by decide +kernel) rfl
theorem gi_52 : Cond.instantiable RX6 2 ∈ gw := gwm 163 (by decide +kernel) rfl
theorem nwX4_9 : jLN RX4 9 6 RX6 TX6 2 tyX6 := ⟨rfl, inlX6, tyX6_ok, gi_51, gi_52, gi_21⟩
theorem gi_54 : Cond.classLink RX4 18 RX3 ∈ gw := gwm 175 (by decide +kernel) rfl
theorem gi_55 : Cond.instantiable RX3 6 ∈ gw := gwm 176 (by decide +kernel) rfl
theorem nwX4_18 : jLN RX4 18 3 RX3 TX3 6 tyX3 := ⟨rfl, inlX3, tyX3_ok, gi_54, gi_55, gi_24⟩
theorem gi_56 : Cond.methodLink RX5 3 Lib.objectInit ∈ gw := gwm 140 (by decide +kernel) rfl
theorem gi_58 : Cond.classLink RX5 18 RX8 ∈ gw := gwm 141 (by decide +kernel) rfl
theorem nwX5_18 : jLN RX5 18 8 RX8 TX8 2 tyX8 := ⟨rfl, inlX8, tyX8_ok, gi_58, gi_43, gi_9⟩
theorem gi_59 : Cond.methodLink RX6 3 Lib.objectInit ∈ gw := gwm 167 (by decide +kernel) rfl
theorem gi_60 : Cond.methodLink RX7 3 Lib.objectInit ∈ gw := gwm 83 (by decide +kernel) rfl
theorem gi_62 : Cond.classLink RX7 9 RX8 ∈ gw := gwm 84 (by decide +kernel) rfl
theorem nwX7_9 : jLN RX7 9 8 RX8 TX8 2 tyX8 := ⟨rfl, inlX8, tyX8_ok, gi_62, gi_43, gi_9⟩
theorem gi_64 : Cond.classLink RX7 18 RX1 ∈ gw := gwm 98 (by decide +kernel) rfl
theorem gi_65 : Cond.instantiable RX1 3 ∈ gw := gwm 99 (by decide +kernel) rfl
theorem nwX7_18 : jLN RX7 18 1 RX1 TX1 3 tyX1 := ⟨rfl, inlX1, tyX1_ok, gi_64, gi_65, gi_12⟩
theorem gi_66 : Cond.methodLink RX8 3 Lib.objectInit ∈ gw := gwm 89 (by decide +kernel) rfl
theorem gi_67 : Cond.methodLink RX9 1 Lib.objectInit ∈ gw := gwm 75 (by decide +kernel) rfl
theorem gi_69 : Cond.classLink RX9 7 RX7 ∈ gw := gwm 78 (by decide +kernel) rfl
theorem gi_70 : Cond.instantiable RX7 6 ∈ gw := gwm 79 (by decide +kernel) rfl
theorem nwX9_7 : jLN RX9 7 7 RX7 TX7 6 tyX7 := ⟨rfl, inlX7, tyX7_ok, gi_69, gi_70, gi_6⟩
theorem gi_72 : Cond.classLink RX9 27 RX5 ∈ gw := gwm 135 (by decide +kernel) rfl
theorem gi_73 : Cond.instantiable RX5 4 ∈ gw := gwm 136 (by decide +kernel) rfl
theorem nwX9_27 : jLN RX9 27 5 RX5 TX5 4 tyX5 := ⟨rfl, inlX5, tyX5_ok, gi_72, gi_73, gi_15⟩
theorem gi_75 : Cond.classLink RX9 34 RX4 ∈ gw := gwm 156 (by decide +kernel) rfl
theorem gi_76 : Cond.instantiable RX4 3 ∈ gw := gwm 157 (by decide +kernel) rfl
theorem nwX9_34 : jLN RX9 34 4 RX4 TX4 3 tyX4 := ⟨rfl, inlX4, tyX4_ok, gi_75, gi_76, gi_18⟩
theorem gi_78 : Cond.classLink RX9 41 RX2 ∈ gw := gwm 210 (by decide +kernel) rfl
theorem gi_79 : Cond.instantiable RX2 8 ∈ gw := gwm 211 (by decide +kernel) rfl
theorem nwX9_41 : jLN RX9 41 2 RX2 TX2 8 tyX2 := ⟨rfl, inlX2, tyX2_ok, gi_78, gi_79, gi_28⟩
theorem gi_81 : Cond.classLink RX9 21 RX0 ∈ gw := gwm 133 (by decide +kernel) rfl
theorem gi_82 : Cond.instantiable RX0 3 ∈ gw := gwm 244 (by decide +kernel) rfl
theorem nwX9_21 : jLN RX9 21 0 RX0 TX0 3 tyX0 := ⟨rfl, inlX0, tyX0_ok, gi_81, gi_82, gi_32⟩
theorem gi_83 : Cond.methodLink RX10 7 Lib.objectInit ∈ gw := gwm 1109 (by decide +kernel) rfl
theorem gi_84 : Cond.classLink RL 8 RX9 ∈ gw := gwm 70 (by decide +kernel) rfl
theorem gi_85 : Cond.instantiable RX9 7 ∈ gw := gwm 71 (by decide +kernel) rfl
theorem nwL_8 : jLN RL 8 9 RX9 TX9 7 tyX9 := ⟨rfl, inlX9, tyX9_ok, gi_84, gi_85, gi_2⟩
theorem gi_86 : Cond.classLink RL 131 RX10 ∈ gw := gwm 1104 (by decide +kernel) rfl
theorem gi_87 : Cond.instantiable RX10 36 ∈ gw := gwm 1105 (by decide +kernel) rfl
theorem nwL_131 : jLN RL 131 10 RX10 TX10 36 tyX10 := ⟨rfl, inlX10, tyX10_ok, gi_86, gi_87, gi_36⟩
theorem gi_88 : Cond.arrayClass (newarray.typeOf .int) ∈ gw := gwm 97 (by decide +kernel) rfl
theorem gi_89 : Cond.arrayClass (newarray.typeOf .boolean) ∈ gw := gwm 243 (by decide +kernel) rfl
theorem gi_90 : Cond.arrayClass (newarray.typeOf .long) ∈ gw := gwm 1544 (by decide +kernel) rfl
theorem gi_91 : Cond.arrayClass (newarray.typeOf .double) ∈ gw := gwm 1545 (by decide +kernel) rfl
