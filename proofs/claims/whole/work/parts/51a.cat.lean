theorem jCat_1 {c : Code} {own E name : String} {pc a1 b1 h1 t1 : Nat} {args : Array Value} {s : State} {suf : List (Nat × Nat × Nat × Nat)} (htab : c.exceptionTable.toList = tableOf ((a1, b1, h1, t1) :: suf)) (hp : covers ⟨a1, b1, h1, t1⟩ pc = true) (ht : t1 ≠ 0) (hl : (Cond.classLink own t1 name).before args s = true) (hc : (Cond.castable E name).before args s = true) : jCat c own E pc h1 args s :=
  ⟨[], ⟨a1, b1, h1, t1⟩, tableOf suf, name, htab, fun _ h => absurd h List.not_mem_nil, hp, ht, rfl, hl, hc⟩
theorem jCat_2 {c : Code} {own E name n1 : String} {pc a1 b1 h1 t1 a2 b2 h2 t2 : Nat} {args : Array Value} {s : State} {suf : List (Nat × Nat × Nat × Nat)} (htab : c.exceptionTable.toList = tableOf ((a1, b1, h1, t1) :: (a2, b2, h2, t2) :: suf)) (ht1 : t1 ≠ 0) (hl1 : (Cond.classLink own t1 n1).before args s = true) (hn1 : va_Nc E n1 s) (hp : covers ⟨a2, b2, h2, t2⟩ pc = true) (ht : t2 ≠ 0) (hl : (Cond.classLink own t2 name).before args s = true) (hc : (Cond.castable E name).before args s = true) : jCat c own E pc h2 args s :=
  ⟨[⟨a1, b1, h1, t1⟩], ⟨a2, b2, h2, t2⟩, tableOf suf, name, htab, fun z h => by
    rcases List.mem_singleton.mp h with rfl
    exact Or.inr ⟨ht1, n1, hl1, hn1⟩, hp, ht, rfl, hl, hc⟩
theorem jCat_3 {c : Code} {own E name n1 n2 : String} {pc a1 b1 h1 t1 a2 b2 h2 t2 a3 b3 h3 t3 : Nat} {args : Array Value} {s : State} {suf : List (Nat × Nat × Nat × Nat)} (htab : c.exceptionTable.toList = tableOf ((a1, b1, h1, t1) :: (a2, b2, h2, t2) :: (a3, b3, h3, t3) :: suf)) (ht1 : t1 ≠ 0) (hl1 : (Cond.classLink own t1 n1).before args s = true) (hn1 : va_Nc E n1 s) (ht2 : t2 ≠ 0) (hl2 : (Cond.classLink own t2 n2).before args s = true) (hn2 : va_Nc E n2 s) (hp : covers ⟨a3, b3, h3, t3⟩ pc = true) (ht : t3 ≠ 0) (hl : (Cond.classLink own t3 name).before args s = true) (hc : (Cond.castable E name).before args s = true) : jCat c own E pc h3 args s :=
  ⟨[⟨a1, b1, h1, t1⟩, ⟨a2, b2, h2, t2⟩], ⟨a3, b3, h3, t3⟩, tableOf suf, name, htab, fun z h => by
    rcases List.mem_cons.mp h with rfl | h
    · exact Or.inr ⟨ht1, n1, hl1, hn1⟩
    · rcases List.mem_singleton.mp h with rfl
      exact Or.inr ⟨ht2, n2, hl2, hn2⟩, hp, ht, rfl, hl, hc⟩
theorem fp_f2d {a : UInt32} (h : FP.Core.fIsNaN a = false) : FP.Core.dIsNaN (FP.f2d a) = false := (FP.f2d_nan a).trans h
theorem fp_self {a : UInt64} (h : FP.Core.dIsNaN a = false) : Op.cmpValue (FP.dcmp a a) .l = 0 := by
  rw [show FP.dcmp a a = some .eq from FP.Core.dcmp_refl h]; rfl
theorem fp_share {x y : Int32} : FP.Core.fIsNaN (if y = 0 then FP.fconst0 else FP.fdiv (FP.i2f x) (FP.i2f y)) = false := by
  split
  · decide
  · next h => exact fp_fdiv x h
theorem fp_mean {x y : Int32} : FP.Core.dIsNaN (if y = 0 then FP.dconst0 else FP.ddiv (FP.i2d x) (FP.i2d y)) = false := by
  split
  · decide
  · next h => exact fp_ddiv x h
