/-! ===== calls over a slice of the world ===== -/
section JS
variable {p : Program} {l : Launch} {e : Env} {R : Room} {s : State} {m : MethodId} {args : Array Value} {below : List Frame} {meth : Method} {c : Code} {Q : State → Prop} {D : va_G} {A : Nat → Prop} {nL k n : Nat} {ws : va_W} {pc : Nat} {lv : List (Nat × Value)} {st : List Value}
variable {cc : ByteArray} {own : String} {ret : Option FieldType} {ay : Nat → ClassId} {sa : Nat → Nat}
def slC (i0 len : Nat) : List Nat := List.range' i0 len
def slR (i0 len N : Nat) : List Nat := List.range' 0 i0 ++ List.range' (i0 + len) (N - (i0 + len))
theorem va_nd_of : ∀ {L : List Nat}, L.Nodup → va_nd L = true
  | [], _ => rfl
  | a :: L, h => by
    have h1 := List.nodup_cons.mp h
    simp only [va_nd, Bool.and_eq_true]
    exact ⟨decide_eq_true h1.1, va_nd_of h1.2⟩
theorem slC_nd (i0 len : Nat) : va_nd (slC i0 len) = true := va_nd_of (List.nodup_range' ..)
theorem slR_nd (i0 len N : Nat) : va_nd (slR i0 len N) = true := va_nd_of (by
  refine List.nodup_append.mpr ⟨List.nodup_range' .., List.nodup_range' .., fun a ha b hb => ?_⟩
  have h1 := (List.mem_range'_1.mp ha); have h2 := (List.mem_range'_1.mp hb)
  omega)
theorem sl_dis (i0 len N : Nat) : ∀ i ∈ slR i0 len N, i ∉ slC i0 len := fun i h hc => by
  have h2 := List.mem_range'_1.mp hc
  rcases List.mem_append.mp h with h | h <;> have h1 := List.mem_range'_1.mp h <;> omega
theorem sl_cov {i0 len : Nat} (h : i0 + len ≤ ws.length) : jcov ws (slC i0 len) (slR i0 len ws.length) = true := by
  simp only [jcov, Bool.and_eq_true, List.all_eq_true]
  refine ⟨fun i hi => ?_, fun i hi => ?_⟩
  · have hi := List.mem_range.mp hi
    rw [Bool.or_eq_true]
    by_cases h1 : i0 ≤ i ∧ i < i0 + len
    · exact Or.inl (List.contains_iff_mem.mpr (List.mem_range'_1.mpr h1))
    · refine Or.inr (List.contains_iff_mem.mpr (List.mem_append.mpr ?_))
      by_cases h2 : i < i0
      · exact Or.inl (List.mem_range'_1.mpr ⟨Nat.zero_le _, by omega⟩)
      · exact Or.inr (List.mem_range'_1.mpr ⟨by omega, by omega⟩)
  · have hb : i < ws.length := by
      rcases List.mem_append.mp hi with h2 | h2 <;> have h1 := List.mem_range'_1.mp h2 <;> omega
    exact Nat.ble_eq_true_of_le hb
theorem sl_C {i0 len : Nat} {wc : va_W} (h : i0 + len ≤ ws.length) (hC : (ws.drop i0).take len = wc) : (slC i0 len).map (fun i => ws[i]?) = wc.map some := by
  subst hC
  refine List.ext_getElem? fun j => ?_
  simp only [slC, List.getElem?_map]
  by_cases hj : j < len
  · rw [List.getElem?_take, if_pos hj, List.getElem?_drop, List.getElem?_range' hj, Nat.one_mul]
    have h2 : i0 + j < ws.length := by omega
    simp only [Option.map_some, List.getElem?_eq_getElem h2]
  · rw [List.getElem?_take, if_neg hj, List.getElem?_eq_none (by rw [List.length_range']; omega)]
    rfl
/-- the slice's cells changed -/
def slp (i0 len : Nat) (ws w : va_W) : va_W := ws.take i0 ++ (w ++ ws.drop (i0 + len))
theorem sl_in {i0 len : Nat} {w ws' wc : va_W} (h : i0 + len ≤ ws.length) (hC : (ws.drop i0).take len = wc) (ha : w.map (fun q => q.1) = wc.map (fun q => q.1)) (hw : slp i0 len ws w = ws') : jin ws ws' w (slC i0 len) (slR i0 len ws.length) := by
  subst hw
  have hl : w.length = len := by
    have h1 := congrArg List.length ha
    rw [List.length_map, List.length_map, ← hC, List.length_take, List.length_drop] at h1
    omega
  have h0 : (ws.take i0).length = i0 := by rw [List.length_take]; omega
  refine ⟨?_, ?_, ?_⟩
  · refine List.ext_getElem? fun j => ?_
    simp only [slC, List.getElem?_map, slp]
    by_cases hj : j < len
    · rw [List.getElem?_range' hj, Nat.one_mul]
      simp only [Option.map_some]
      rw [List.getElem?_append_right (by omega), h0, List.getElem?_append_left (by omega), show i0 + j - i0 = j by omega]
      rw [List.getElem?_eq_getElem (by omega)]
      rfl
    · rw [List.getElem?_eq_none (by rw [List.length_range']; omega), List.getElem?_eq_none (by omega)]
      rfl
  · refine List.map_congr_left fun i hi => ?_
    simp only [slp]
    rcases List.mem_append.mp hi with h2 | h2 <;> have h1 := List.mem_range'_1.mp h2
    · rw [List.getElem?_append_left (by omega), List.getElem?_take, if_pos (by omega)]
    · rw [List.getElem?_append_right (by omega), h0, List.getElem?_append_right (by omega), List.getElem?_drop, hl]
      congr 1
      omega
  · simp only [slp, List.map_append]
    rw [ha, ← hC, ← List.map_append, ← List.map_append]
    have e1 : ws.drop (i0 + len) = (ws.drop i0).drop len := by rw [List.drop_drop]
    rw [e1, List.take_append_drop, List.take_append_drop]
def slok (R : Room) (fr mL lo i0 len : Nat) (ws : va_W) : Bool := Nat.ble (fr + 1) R.frames && Nat.ble (8 + (mL + 11) + lo) R.locals && Nat.ble (i0 + len) ws.length
theorem slok_spec {fr mL lo i0 len : Nat} (h : slok R fr mL lo i0 len ws = true) : jok R fr mL lo (slC i0 len) (slR i0 len ws.length) = true ∧ i0 + len ≤ ws.length := by
  simp only [slok, Bool.and_eq_true] at h
  refine ⟨?_, Nat.le_of_ble_eq_true h.2⟩
  simp only [jok, Bool.and_eq_true, List.all_eq_true]
  refine ⟨⟨⟨h.1, slC_nd i0 len⟩, slR_nd i0 len _⟩, fun i hi => ?_⟩
  have h2 := sl_dis i0 len _ i hi
  cases hc : (slC i0 len).contains i with
  | false => rfl
  | true => exact absurd (List.contains_iff_mem.mp hc) h2
theorem j_scallV (F : jF p s m args meth c cc nL own ret D ay A) {idx ci fr lo mc ms mL n1 : Nat} {y : MethodName} {b : ByteArray} {ret1 : Option FieldType} (L : jLV own idx ci y b mL ret1 n1) {a : Nat} {As rest : List Value} {wc : va_W} {post : Option Value → va_W → Prop} (hM : jM l y (jws y b mL ret1) fr lo mc ms D ay (.ref a :: As) wc post) (q0 i0 len : Nat) {fs : List Value} (he : ws[q0]? = some (a, .inr (ci, fs))) (hC : (ws.drop i0).take len = wc) (hok : slok R fr mL lo i0 len ws = true) (hst : st = As.reverse ++ .ref a :: rest) (hlen : As.length = n1) (hcat : Nat.ble ((rest.map fun v => v.category).sum) 8 = true) (hf : k + mc ≤ R.cells ∧ n + ms ≤ R.slots) (hdg : decode cc pc = .ok (.invokevirtual idx, 3))
    (kk : ∀ (v : Option Value) (w : va_W), post v w → w.map (fun q => q.1) = wc.map (fun q => q.1) ∧ ∃ ws' : va_W, slp i0 len ws w = ws' ∧ jJ p l e R s m args below meth c Q D A nL (k + mc) (n + ms) ws' (pc + 3) lv (v.toList ++ rest)) : jJ p l e R s m args below meth c Q D A nL k n ws pc lv st := by
  obtain ⟨ho, hb⟩ := slok_spec hok
  refine j_icallV F L hM q0 _ _ he (sl_C hb hC) (sl_cov hb) ho hst hlen hcat hf hdg (fun v w hp => ?_)
  obtain ⟨h1, ws', h2, h3⟩ := kk v w hp
  exact ⟨ws', sl_in hb hC h1 h2, h3⟩
theorem j_scallS (F : jF p s m args meth c cc nL own ret D ay A) {idx fr lo mc ms mL n1 : Nat} {y : MethodName} {b : ByteArray} {ret1 : Option FieldType} (L : jLS own idx y b mL ret1 n1) {As rest : List Value} {wc : va_W} {post : Option Value → va_W → Prop} (hM : jM l y (jws y b mL ret1) fr lo mc ms D ay As wc post) (i0 len : Nat) (hC : (ws.drop i0).take len = wc) (hok : slok R fr mL lo i0 len ws = true) (hst : st = As.reverse ++ rest) (hlen : As.length = n1) (hcat : Nat.ble ((rest.map fun v => v.category).sum) 8 = true) (hf : k + mc ≤ R.cells ∧ n + ms ≤ R.slots) (hdg : decode cc pc = .ok (.invokestatic idx, 3))
    (kk : ∀ (v : Option Value) (w : va_W), post v w → w.map (fun q => q.1) = wc.map (fun q => q.1) ∧ ∃ ws' : va_W, slp i0 len ws w = ws' ∧ jJ p l e R s m args below meth c Q D A nL (k + mc) (n + ms) ws' (pc + 3) lv (v.toList ++ rest)) : jJ p l e R s m args below meth c Q D A nL k n ws pc lv st := by
  obtain ⟨ho, hb⟩ := slok_spec hok
  refine j_icallS F L hM _ _ (sl_C hb hC) (sl_cov hb) ho hst hlen hcat hf hdg (fun v w hp => ?_)
  obtain ⟨h1, ws', h2, h3⟩ := kk v w hp
  exact ⟨ws', sl_in hb hC h1 h2, h3⟩
theorem j_sxcallV (F : jF p s m args meth c cc nL own ret D ay A) (hX : jX sa A s s.heap) (hT : ∀ x ∈ c.exceptionTable.toList, False) {idx ci fr lo mc ms mL n1 mc0 ms0 : Nat} {y : MethodName} {b : ByteArray} {ret1 : Option FieldType} (L : jLV own idx ci y b mL ret1 n1) {a : Nat} {As rest : List Value} {wc : va_W} {post post0 : Option Value → va_W → Prop} {postX postX0 : String → va_W → Prop} (hM : jMx l y (jws y b mL ret1) fr lo mc ms D ay sa (.ref a :: As) wc post postX) (q0 i0 len : Nat) {fs : List Value} (he : ws[q0]? = some (a, .inr (ci, fs))) (hC : (ws.drop i0).take len = wc) (hok : slok R fr mL lo i0 len ws = true) (hst : st = As.reverse ++ .ref a :: rest) (hlen : As.length = n1) (hcat : Nat.ble ((rest.map fun v => v.category).sum) 8 = true) (hf : k + mc ≤ R.cells ∧ n + ms ≤ R.slots) (hdg : decode cc pc = .ok (.invokevirtual idx, 3)) (hm : k + mc ≤ mc0 ∧ n + ms ≤ ms0)
    (kx : ∀ (E : String) (w : va_W), postX E w → w = wc ∧ postX0 E ws)
    (kk : ∀ (v : Option Value) (w : va_W), post v w → w.map (fun q => q.1) = wc.map (fun q => q.1) ∧ ∃ ws' : va_W, slp i0 len ws w = ws' ∧ jJ p l e R s m args below meth c (vx_MQ below (jQ post0 D ay A) (jXQ postX0 D ay A) args s mc0 ms0 A) D A nL (k + mc) (n + ms) ws' (pc + 3) lv (v.toList ++ rest)) : jJ p l e R s m args below meth c (vx_MQ below (jQ post0 D ay A) (jXQ postX0 D ay A) args s mc0 ms0 A) D A nL k n ws pc lv st := by
  obtain ⟨ho, hb⟩ := slok_spec hok
  refine j_ixcallV F hX hT L hM q0 _ _ he (sl_C hb hC) (sl_cov hb) ho hst hlen hcat hf hdg hm kx (fun v w hp => ?_)
  obtain ⟨h1, ws', h2, h3⟩ := kk v w hp
  exact ⟨ws', sl_in hb hC h1 h2, h3⟩
theorem j_sxcallS (F : jF p s m args meth c cc nL own ret D ay A) (hX : jX sa A s s.heap) (hT : ∀ x ∈ c.exceptionTable.toList, False) {idx fr lo mc ms mL n1 mc0 ms0 : Nat} {y : MethodName} {b : ByteArray} {ret1 : Option FieldType} (L : jLS own idx y b mL ret1 n1) {As rest : List Value} {wc : va_W} {post post0 : Option Value → va_W → Prop} {postX postX0 : String → va_W → Prop} (hM : jMx l y (jws y b mL ret1) fr lo mc ms D ay sa As wc post postX) (i0 len : Nat) (hC : (ws.drop i0).take len = wc) (hok : slok R fr mL lo i0 len ws = true) (hst : st = As.reverse ++ rest) (hlen : As.length = n1) (hcat : Nat.ble ((rest.map fun v => v.category).sum) 8 = true) (hf : k + mc ≤ R.cells ∧ n + ms ≤ R.slots) (hdg : decode cc pc = .ok (.invokestatic idx, 3)) (hm : k + mc ≤ mc0 ∧ n + ms ≤ ms0)
    (kx : ∀ (E : String) (w : va_W), postX E w → w = wc ∧ postX0 E ws)
    (kk : ∀ (v : Option Value) (w : va_W), post v w → w.map (fun q => q.1) = wc.map (fun q => q.1) ∧ ∃ ws' : va_W, slp i0 len ws w = ws' ∧ jJ p l e R s m args below meth c (vx_MQ below (jQ post0 D ay A) (jXQ postX0 D ay A) args s mc0 ms0 A) D A nL (k + mc) (n + ms) ws' (pc + 3) lv (v.toList ++ rest)) : jJ p l e R s m args below meth c (vx_MQ below (jQ post0 D ay A) (jXQ postX0 D ay A) args s mc0 ms0 A) D A nL k n ws pc lv st := by
  obtain ⟨ho, hb⟩ := slok_spec hok
  refine j_ixcallS F hX hT L hM _ _ (sl_C hb hC) (sl_cov hb) ho hst hlen hcat hf hdg hm kx (fun v w hp => ?_)
  obtain ⟨h1, ws', h2, h3⟩ := kk v w hp
  exact ⟨ws', sl_in hb hC h1 h2, h3⟩
/-- two ways that meet: what stands there is proved once -/
theorem j_join (pc1 : Nat) (k1 n1 : Nat) (ws1 : va_W) (lv1 : Int32 → List (Nat × Value)) (st1 : List Value) (x : Int32) (hj : ∀ h : Int32, h = x → jJ p l e R s m args below meth c Q D A nL k1 n1 ws1 pc1 (lv1 h) st1) (body : (∀ h : Int32, h = x → jJ p l e R s m args below meth c Q D A nL k1 n1 ws1 pc1 (lv1 h) st1) → jJ p l e R s m args below meth c Q D A nL k n ws pc lv st) : jJ p l e R s m args below meth c Q D A nL k n ws pc lv st := body hj
end JS
