section JN
variable {p : Program} {l : Launch} {e : Env} {R : Room} {s : State} {m : MethodId} {args : Array Value} {below : List Frame} {meth : Method} {c : Code} {Q : State → Prop} {D : va_G} {A : Nat → Prop} {nL k n : Nat} {ws : va_W} {pc : Nat} {lv : List (Nat × Value)} {st : List Value}
variable {cc : ByteArray} {own : String} {ret : Option FieldType} {ay : Nat → ClassId} {sa : Nat → Nat}
/-- throw new E(text), the text by ldc -/
theorem j_throwN (F : jF p s m args meth c cc nL own ret D ay A) (hfl : l.stackTraces = false) (hX : jX sa A s s.heap) (hT : ∀ x ∈ c.exceptionTable.toList, False) {post : Option Value → va_W → Prop} {postX : String → va_W → Prop} {mc ms : Nat} {E text : String} {names : List String} {ik is ic a9 ix : Nat} {rx : ByteArray} (x0 : decode rx 0 = .ok (.aload_n 0, 1)) (x1 : decode rx 1 = .ok (.aload_n 1, 1)) (x2 : decode rx 2 = .ok (.invokespecial ix, 3)) (x5 : decode rx 5 = .ok (.return_, 1)) (hcls : Bundle.fit E = true) (hnames : ∀ n ∈ names, Bundle.fit n = true) (hk : Cond.classLink own ik E ∈ gw) (hini : Cond.initialized E ∈ gw) (hstr : vk_R own is text a9 s) (hg : ∀ w ∈ (ns_at own ic E ix rx names).filter goodWord, w ∈ lw_tbl) (hb : ∀ w ∈ (ns_at own ic E ix rx names).filter (fun w => !goodWord w), w ∈ xB E) (hE : va_Nw (.castable E E) s) (hgood : ∀ w ∈ Cond.classLink own ik E :: Cond.initialized E :: ns_at own ic E ix rx names, vx_ot w = true)
    (d0 : decode cc pc = .ok (.new ik, 3)) (d3 : decode cc (pc + 3) = .ok (.dup, 1)) (d4 : decode cc (pc + 4) = .ok (.ldc is, 2)) (d6 : decode cc (pc + 6) = .ok (.invokespecial ic, 3)) (d9 : decode cc (pc + 9) = .ok (.athrow, 1)) (hR : names.length + 3 < R.frames ∧ (st.map fun v => v.category).sum + (13 * (names.length + 1) + 43) ≤ R.locals ∧ k + 1 ≤ R.cells ∧ n + 6 ≤ R.slots) (hm : k + 1 ≤ mc ∧ n + 6 ≤ ms) (hpost : postX E ws) : jJ p l e R s m args below meth c (vx_MQ below (jQ post D ay A) (jXQ postX D ay A) args s mc ms A) D A nL k n ws pc lv st := by
  intro H locs ls hP hD hS hl
  obtain ⟨z1, z2, -, z4⟩ := hX
  have ht := F.2.2.2.2.1
  refine ns_throw F.1 F.2.1 hfl x0 x1 x2 x5 F.2.2.2.1 hcls hnames (ht _ hk) (ht _ hini) hstr (vx_hat (fun w hw => ht w (gx_in hg w hw)) hb (xB_at z4 hE)) hgood z1 z2 hS (by rw [hl.1, F.2.2.1]) d0 d3 d4 d6 d9 (fun x hx => (hT x hx).elim) hR.1 hR.2.1 hR.2.2.1 hR.2.2.2 F.2.2.2.2.2.2.2.1 (fun t ht hz hq => ?_) hS.2.2 hm.1 hm.2
  exact ⟨⟨ws, hpost, hP.kept (fun k9 q9 h9 => hq q9.1 (hP k9 q9 h9).lt), va_K.moved ht F.2.2.2.2.2.1, hD⟩, Nat.le_trans hS.1 hz, fun q h1 h2 => (hq q (Nat.lt_of_lt_of_le h1 hS.1)).trans (hS.2.1 q h1 h2)⟩
end JN
set_option maxRecDepth 20000 in
theorem gx_NS : ∀ w ∈ (ns_at RX9 153 "java/util/NoSuchElementException" 13 prog_20_method_4_code ["java/lang/RuntimeException", "java/lang/Exception"]).filter goodWord, w ∈ lw_tbl := by decide +kernel
theorem gb_NS : ∀ w ∈ (ns_at RX9 153 "java/util/NoSuchElementException" 13 prog_20_method_4_code ["java/lang/RuntimeException", "java/lang/Exception"]).filter (fun w => !goodWord w), w ∈ xB eNS := by decide +kernel
theorem gk_NS : Cond.classLink RX9 149 eNS ∈ gw := gwm 771 (by decide +kernel) rfl
theorem gi_NS : Cond.initialized eNS ∈ gw := gwm 69 (by decide +kernel) rfl
theorem go_NS : ∀ w ∈ Cond.classLink RX9 149 eNS :: Cond.initialized eNS :: ns_at RX9 153 "java/util/NoSuchElementException" 13 prog_20_method_4_code ["java/lang/RuntimeException", "java/lang/Exception"], vx_ot w = true := by decide +kernel
theorem dNS_0 : decode prog_20_method_4_code 0 = .ok (.aload_n 0, 1) := by decide +kernel
theorem dNS_1 : decode prog_20_method_4_code 1 = .ok (.aload_n 1, 1) := by decide +kernel
theorem dNS_2 : decode prog_20_method_4_code 2 = .ok (.invokespecial 13, 3) := by decide +kernel
theorem dNS_5 : decode prog_20_method_4_code 5 = .ok (.return_, 1) := by decide +kernel
