/-! ===== the law's walk ===== -/
/-- the law's world: the two answers' rows, the desk, the reference -/
def LW (ay : Nat → ClassId) (ad ae : Nat → Nat) (o oD : Nat) (Z : DS) (vi : Nat → Int32) (ga : Nat → Nat → Int32) (fo : Nat → Int64) (fd : Nat → UInt64) : va_W := (oD, .inl (ay 4, 1, .inr (.inr (.inr (.inl fd))))) :: (dW ay ad Z ++ (o, .inl (ay 3, 1, .inr (.inl fo))) :: mW ay ae vi ga)
theorem lg_self (a : Int64) : lg_cmp a a = 0 := by
  unfold lg_cmp
  simp
section JL
variable {p : Program} {l : Launch} {e : Env} {R : Room} {s : State} {m : MethodId} {args : Array Value} {below : List Frame} {meth : Method} {c : Code} {Q : State → Prop} {D : va_G} {A : Nat → Prop} {nL k n : Nat} {ws : va_W} {pc : Nat} {lv : List (Nat × Value)} {st : List Value}
variable {cc : ByteArray} {own : String} {ret : Option FieldType} {ay : Nat → ClassId} {sa : Nat → Nat}
theorem j_sld (F : jF p s m args meth c cc nL own ret D ay A) {b L : Nat} {xs : Nat → Int32} (hXb : va_X b L xs s s.heap) (hbl : b < s.heap.size) (hbA : ¬ A b) (hL : L ≤ 3072) (j : Nat) (hj : j < L) (hdg : decode cc pc = .ok (.iaload, 1)) (kk : jJ p l e R s m args below meth c Q D A nL k n ws (pc + 1) lv (.int (xs j) :: st)) : jJ p l e R s m args below meth c Q D A nL k n ws pc lv (.int (nI j) :: .ref b :: st) := fun H locs ls hP hD hS hl => by
  have hc : (nI j).toNatClampNeg = j := clampN (by omega)
  refine va_sld F.1 F.2.1 hXb hbl hbA hS (i := nI j) (vp_in_nI hj (by omega)) hdg ?_
  rw [hc]
  exact kk H locs ls hP hD hS hl
theorem j_slen (F : jF p s m args meth c cc nL own ret D ay A) {b L : Nat} {xs : Nat → Int32} (hXb : va_X b L xs s s.heap) (hbl : b < s.heap.size) (hbA : ¬ A b) (hdg : decode cc pc = .ok (.arraylength, 1)) (kk : jJ p l e R s m args below meth c Q D A nL k n ws (pc + 1) lv (.int (nI L) :: st)) : jJ p l e R s m args below meth c Q D A nL k n ws pc lv (.ref b :: st) := fun H locs ls hP hD hS hl => va_slen F.1 F.2.1 hXb hbl hbA hS hdg (kk H locs ls hP hD hS hl)
theorem j_tableIn (F : jF p s m args meth c cc nL own ret D ay A) {dflt lo hi : Int} {offs : Array Int} {len : Nat} {x : Int32} {off : Int} (tgt : Nat) (hdg : decode cc pc = .ok (.tableswitch dflt lo hi offs, len)) (h1 : ¬ x.toInt < lo) (h2 : ¬ hi < x.toInt) (ho : offs[(x.toInt - lo).toNat]? = some off) (ht : (pc : Int) + off = (tgt : Int)) (kk : jJ p l e R s m args below meth c Q D A nL k n ws tgt lv st) : jJ p l e R s m args below meth c Q D A nL k n ws pc lv (.int x :: st) := fun H locs ls hP hD hS hl => lv_tableIn F.1 F.2.1 hdg h1 h2 ho ht (kk H locs ls hP hD hS hl)
theorem j_tableOut (F : jF p s m args meth c cc nL own ret D ay A) {dflt lo hi : Int} {offs : Array Int} {len : Nat} {x : Int32} (tgt : Nat) (hdg : decode cc pc = .ok (.tableswitch dflt lo hi offs, len)) (h : x.toInt < lo ∨ hi < x.toInt) (ht : (pc : Int) + dflt = (tgt : Int)) (kk : jJ p l e R s m args below meth c Q D A nL k n ws tgt lv st) : jJ p l e R s m args below meth c Q D A nL k n ws pc lv (.int x :: st) := fun H locs ls hP hD hS hl => lv_tableOut F.1 F.2.1 hdg h ht (kk H locs ls hP hD hS hl)
end JL
