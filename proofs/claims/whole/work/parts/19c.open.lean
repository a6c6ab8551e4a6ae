/-! ===== a world with a slice open ===== -/
section JO
variable {p : Program} {l : Launch} {e : Env} {R : Room} {s : State} {m : MethodId} {args : Array Value} {below : List Frame} {meth : Method} {c : Code} {Q : State → Prop} {D : va_G} {A : Nat → Prop} {nL k n : Nat} {ws : va_W} {pc : Nat} {lv : List (Nat × Value)} {st : List Value}
variable {cc : ByteArray} {own : String} {ret : Option FieldType} {ay : Nat → ClassId} {sa : Nat → Nat}
theorem slp_len {i0 len : Nat} {W w : va_W} (h : i0 + len ≤ W.length) (hw : w.length = len) : (slp i0 len W w).length = W.length := by
  simp only [slp, List.length_append, List.length_take, List.length_drop]
  omega
theorem slp_at {i0 len j : Nat} {W w : va_W} (h : i0 + len ≤ W.length) (hw : w.length = len) (hj : j < len) : (slp i0 len W w)[i0 + j]? = w[j]? := by
  have h0 : (W.take i0).length = i0 := by rw [List.length_take]; omega
  rw [slp, List.getElem?_append_right (by omega), h0, List.getElem?_append_left (by omega), show i0 + j - i0 = j by omega]
theorem slp_sl {i0 len j l2 : Nat} {W w : va_W} (h : i0 + len ≤ W.length) (hw : w.length = len) (hj : j + l2 ≤ len) : ((slp i0 len W w).drop (i0 + j)).take l2 = (w.drop j).take l2 := by
  refine List.ext_getElem? fun i => ?_
  rw [List.getElem?_take, List.getElem?_take]
  by_cases hi : i < l2
  · rw [if_pos hi, if_pos hi, List.getElem?_drop, List.getElem?_drop, Nat.add_assoc, slp_at h hw (by omega)]
  · rw [if_neg hi, if_neg hi]
theorem slp_slp {i0 len j l2 : Nat} {W w w2 : va_W} (h : i0 + len ≤ W.length) (hw : w.length = len) (hj : j + l2 ≤ len) : slp (i0 + j) l2 (slp i0 len W w) w2 = slp i0 len W (slp j l2 w w2) := by
  have h0 : (W.take i0).length = i0 := by rw [List.length_take]; omega
  have e1 : (slp i0 len W w).take (i0 + j) = W.take i0 ++ w.take j := by
    rw [slp, List.take_append, h0, List.take_of_length_le (by omega), show i0 + j - i0 = j by omega, List.take_append, show j - w.length = 0 by omega]
    simp
  have e2 : (slp i0 len W w).drop (i0 + j + l2) = w.drop (j + l2) ++ W.drop (i0 + len) := by
    rw [slp, List.drop_append, h0, List.drop_eq_nil_of_le (by omega), show i0 + j + l2 - i0 = j + l2 by omega, List.drop_append, show j + l2 - w.length = 0 by omega]
    simp
  show (slp i0 len W w).take (i0 + j) ++ (w2 ++ (slp i0 len W w).drop (i0 + j + l2)) = W.take i0 ++ ((w.take j ++ (w2 ++ w.drop (j + l2))) ++ W.drop (i0 + len))
  rw [e1, e2]
  simp only [List.append_assoc]
def rmok (R : Room) (fr mL lo : Nat) : Bool := Nat.ble (fr + 1) R.frames && Nat.ble (8 + (mL + 11) + lo) R.locals
theorem rm_sl {fr mL lo i0 len : Nat} {W : va_W} (h : rmok R fr mL lo = true) (hb : i0 + len ≤ W.length) : slok R fr mL lo i0 len W = true := by
  simp only [rmok, Bool.and_eq_true] at h
  simp only [slok, Bool.and_eq_true]
  exact ⟨h, Nat.ble_eq_true_of_le hb⟩
theorem j_ocallV (F : jF p s m args meth c cc nL own ret D ay A) {i0 len : Nat} {W wl : va_W} (ho : i0 + len ≤ W.length) {idx ci fr lo mc ms mL n1 : Nat} {y : MethodName} {b : ByteArray} {ret1 : Option FieldType} (L : jLV own idx ci y b mL ret1 n1) {a : Nat} {As rest : List Value} {wc : va_W} {post : Option Value → va_W → Prop} (hM : jM l y (jws y b mL ret1) fr lo mc ms D ay (.ref a :: As) wc post) (q0 j l2 : Nat) {fs : List Value} (hwl : wl.length = len) (hj : Nat.ble (j + l2) len = true) (hq : Nat.blt q0 len = true) (he : wl[q0]? = some (a, .inr (ci, fs))) (hC : (wl.drop j).take l2 = wc) (hok : rmok R fr mL lo = true) (hst : st = As.reverse ++ .ref a :: rest) (hlen : As.length = n1) (hcat : Nat.ble ((rest.map fun v => v.category).sum) 8 = true) (hf : k + mc ≤ R.cells ∧ n + ms ≤ R.slots) (hdg : decode cc pc = .ok (.invokevirtual idx, 3))
    (kk : ∀ (v : Option Value) (w : va_W), post v w → w.map (fun q => q.1) = wc.map (fun q => q.1) ∧ ∃ ws' : va_W, slp j l2 wl w = ws' ∧ jJ p l e R s m args below meth c Q D A nL (k + mc) (n + ms) (slp i0 len W ws') (pc + 3) lv (v.toList ++ rest)) : jJ p l e R s m args below meth c Q D A nL k n (slp i0 len W wl) pc lv st := by
  have hj := Nat.le_of_ble_eq_true hj
  have hq : q0 < len := Nat.le_of_ble_eq_true hq
  have hl := slp_len ho hwl
  refine j_scallV F L hM (i0 + q0) (i0 + j) l2 ((slp_at ho hwl hq).trans he) ((slp_sl ho hwl hj).trans hC) (rm_sl hok (by omega)) hst hlen hcat hf hdg (fun v w hp => ?_)
  obtain ⟨h1, ws', h2, h3⟩ := kk v w hp
  exact ⟨h1, _, slp_slp ho hwl hj, by rw [h2]; exact h3⟩
/-- static, nothing of the world -/
theorem j_ecallS (F : jF p s m args meth c cc nL own ret D ay A) {idx fr lo mc ms mL n1 : Nat} {y : MethodName} {b : ByteArray} {ret1 : Option FieldType} (L : jLS own idx y b mL ret1 n1) {As rest : List Value} {post : Option Value → va_W → Prop} (hM : jM l y (jws y b mL ret1) fr lo mc ms D ay As [] post) (hok : rmok R fr mL lo = true) (hst : st = As.reverse ++ rest) (hlen : As.length = n1) (hcat : Nat.ble ((rest.map fun v => v.category).sum) 8 = true) (hf : k + mc ≤ R.cells ∧ n + ms ≤ R.slots) (hdg : decode cc pc = .ok (.invokestatic idx, 3))
    (kk : ∀ (v : Option Value) (w : va_W), post v w → w = [] ∧ jJ p l e R s m args below meth c Q D A nL (k + mc) (n + ms) ws (pc + 3) lv (v.toList ++ rest)) : jJ p l e R s m args below meth c Q D A nL k n ws pc lv st := by
  refine j_scallS F L hM 0 0 (by rw [List.take_zero]) (rm_sl hok (Nat.zero_le _)) hst hlen hcat hf hdg (fun v w hp => ?_)
  obtain ⟨h1, h2⟩ := kk v w hp
  subst h1
  exact ⟨rfl, ws, by rw [slp, List.take_zero, Nat.zero_add, List.drop_zero, List.nil_append, List.nil_append], h2⟩
theorem j_excallS (F : jF p s m args meth c cc nL own ret D ay A) (hX : jX sa A s s.heap) (hT : ∀ x ∈ c.exceptionTable.toList, False) {idx fr lo mc ms mL n1 mc0 ms0 : Nat} {y : MethodName} {b : ByteArray} {ret1 : Option FieldType} (L : jLS own idx y b mL ret1 n1) {As rest : List Value} {post post0 : Option Value → va_W → Prop} {postX postX0 : String → va_W → Prop} (hM : jMx l y (jws y b mL ret1) fr lo mc ms D ay sa As [] post postX) (hok : rmok R fr mL lo = true) (hst : st = As.reverse ++ rest) (hlen : As.length = n1) (hcat : Nat.ble ((rest.map fun v => v.category).sum) 8 = true) (hf : k + mc ≤ R.cells ∧ n + ms ≤ R.slots) (hdg : decode cc pc = .ok (.invokestatic idx, 3)) (hm : k + mc ≤ mc0 ∧ n + ms ≤ ms0)
    (kx : ∀ (E : String) (w : va_W), postX E w → w = [] ∧ postX0 E ws)
    (kk : ∀ (v : Option Value) (w : va_W), post v w → w = [] ∧ jJ p l e R s m args below meth c (vx_MQ below (jQ post0 D ay A) (jXQ postX0 D ay A) args s mc0 ms0 A) D A nL (k + mc) (n + ms) ws (pc + 3) lv (v.toList ++ rest)) : jJ p l e R s m args below meth c (vx_MQ below (jQ post0 D ay A) (jXQ postX0 D ay A) args s mc0 ms0 A) D A nL k n ws pc lv st := by
  refine j_sxcallS F hX hT L hM 0 0 (by rw [List.take_zero]) (rm_sl hok (Nat.zero_le _)) hst hlen hcat hf hdg hm kx (fun v w hp => ?_)
  obtain ⟨h1, h2⟩ := kk v w hp
  subst h1
  exact ⟨rfl, ws, by rw [slp, List.take_zero, Nat.zero_add, List.drop_zero, List.nil_append, List.nil_append], h2⟩
end JO
theorem nI_rng {x : Int32} (b : Nat) (hb : b < 2 ^ 31) (h0 : ¬ x < 0) (h1 : ¬ nI b < x) : ∃ y, y ≤ b ∧ x = nI y := by
  have e0 : 0 ≤ x.toInt := by
    have h2 := Int32.le_iff_toInt_le.mp (Int32.not_lt.mp h0)
    exact h2
  have e1 : x.toInt ≤ b := by
    have h2 := Int32.le_iff_toInt_le.mp (Int32.not_lt.mp h1)
    rw [nI_toInt hb] at h2
    exact h2
  refine ⟨x.toInt.toNat, by omega, ?_⟩
  have e2 : ((x.toInt.toNat : Nat) : Int) = x.toInt := Int.toNat_of_nonneg e0
  apply Int32.toInt_inj.mp
  rw [nI_toInt (by omega), e2]
def ups {α : Type} (f : Nat → α) (j : Nat) (x : α) : Nat → α := fun q => if q = j then x else f q
theorem ups_at {α : Type} {f : Nat → α} {j : Nat} {x : α} : ups f j x j = x := if_pos rfl
theorem ups_ne {α : Type} {f : Nat → α} {j q : Nat} {x : α} (h : q ≠ j) : ups f j x q = f q := if_neg h
