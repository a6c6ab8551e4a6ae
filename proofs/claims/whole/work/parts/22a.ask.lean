/-- one cache is asked -/
def ask1 (T : DS) (i : Nat) (key : Int32) : DS := cU T i (stN (T.2.2 (4 + i)) (T.1 (2 + i)) key (i + 1)) (stF (T.2.2 (4 + i)) (T.1 (2 + i)) key (i + 1)) (if fx (T.2.2 (4 + i)) key (T.1 (2 + i)) < T.1 (2 + i) then T.2.1 (11 + i) + 1 else T.2.1 (11 + i))
/-- the first i caches are asked -/
def askC (Z : DS) (key : Int32) : Nat → DS
  | 0 => Z
  | i + 1 => ask1 (askC Z key i) i key
/-- the hits among the first i -/
def mskC (Z : DS) (key : Int32) : Nat → Int32
  | 0 => 0
  | i + 1 => if fx ((askC Z key i).2.2 (4 + i)) key ((askC Z key i).1 (2 + i)) < (askC Z key i).1 (2 + i) then mskC Z key i ||| 1 <<< (nI i &&& 31) else mskC Z key i
/-- a request: the caches, then the record -/
def askS (Z : DS) (key : Int32) : DS := lU (askC Z key 8) (Z.1 14 + 1) (upd (Z.2.2 12) (Z.1 14) key) (upd (Z.2.2 13) (Z.1 14) (dsI (Z.2.2 14) (Z.1 10) key)) (usN (Z.2.2 14) (Z.1 10) key) (usF (Z.2.2 14) (Z.1 10) key)
def clrC (Z : DS) : Nat → DS
  | 0 => Z
  | i + 1 => cU (clrC Z i) i 0 ((clrC Z i).2.2 (4 + i)) 0
def aI (Z : DS) : Prop := (∀ i, i < 8 → kI (Z.1 (2 + i)) (Z.2.2 (4 + i))) ∧ kI (Z.1 10) (Z.2.2 14) ∧ Z.1 14 ≤ 1000
theorem askC_fr (Z : DS) (key : Int32) : ∀ i, i ≤ 8 → (∀ q, q < 2 ∨ 2 + i ≤ q → (askC Z key i).1 q = Z.1 q) ∧ (∀ q, q < 11 ∨ 11 + i ≤ q → (askC Z key i).2.1 q = Z.2.1 q) ∧ (∀ q, q < 4 ∨ 4 + i ≤ q → (askC Z key i).2.2 q = Z.2.2 q)
  | 0, _ => ⟨fun _ _ => rfl, fun _ _ => rfl, fun _ _ => rfl⟩
  | i + 1, h => by
    obtain ⟨a, b, c⟩ := askC_fr Z key i (by omega)
    exact ⟨fun q hq => (ups_ne (by omega)).trans (a q (by omega)), fun q hq => (ups_ne (by omega)).trans (b q (by omega)), fun q hq => (ups_ne (by omega)).trans (c q (by omega))⟩
theorem askC_k {Z : DS} {key : Int32} {i : Nat} (h : aI Z) (hi : i < 8) : kI ((askC Z key i).1 (2 + i)) ((askC Z key i).2.2 (4 + i)) := by
  obtain ⟨a, -, c⟩ := askC_fr Z key i (by omega)
  rw [a _ (Or.inr (Nat.le_refl _)), c _ (Or.inr (Nat.le_refl _))]
  exact h.1 i hi
theorem askC_8 (Z : DS) (key : Int32) : (askC Z key 8).1 14 = Z.1 14 ∧ (askC Z key 8).1 10 = Z.1 10 ∧ (askC Z key 8).2.2 12 = Z.2.2 12 ∧ (askC Z key 8).2.2 13 = Z.2.2 13 ∧ (askC Z key 8).2.2 14 = Z.2.2 14 := by
  obtain ⟨a, -, c⟩ := askC_fr Z key 8 (Nat.le_refl _)
  exact ⟨a _ (by omega), a _ (by omega), c _ (by omega), c _ (by omega), c _ (by omega)⟩
theorem clrC_fr (Z : DS) : ∀ i, i ≤ 8 → (∀ q, q < 2 ∨ 2 + i ≤ q → (clrC Z i).1 q = Z.1 q) ∧ (∀ q, q < 11 ∨ 11 + i ≤ q → (clrC Z i).2.1 q = Z.2.1 q) ∧ (∀ q, (clrC Z i).2.2 q = Z.2.2 q)
  | 0, _ => ⟨fun _ _ => rfl, fun _ _ => rfl, fun _ => rfl⟩
  | i + 1, h => by
    obtain ⟨a, b, c⟩ := clrC_fr Z i (by omega)
    refine ⟨fun q hq => (ups_ne (by omega)).trans (a q (by omega)), fun q hq => (ups_ne (by omega)).trans (b q (by omega)), fun q => ?_⟩
    show ups (clrC Z i).2.2 (4 + i) ((clrC Z i).2.2 (4 + i)) q = _
    by_cases hq : q = 4 + i
    · rw [hq, ups_at]; exact c _
    · rw [ups_ne hq]; exact c _
def lcF (Z : DS) (x : Int32) (i : Nat) : Int32 := if x ≤ Z.2.1 (11 + i) then 1 else 0
theorem ite10 {c : Prop} [Decidable c] : (if c then (0 : Int32) else 1) = 0 ∨ (if c then (0 : Int32) else 1) = 1 := by
  split
  · exact Or.inl rfl
  · exact Or.inr rfl
section JC
variable {p : Program} {l : Launch} {e : Env} {R : Room} {s : State} {m : MethodId} {args : Array Value} {below : List Frame} {meth : Method} {c : Code} {Q : State → Prop} {D : va_G} {A : Nat → Prop} {nL k n : Nat} {ws : va_W} {pc : Nat} {lv : List (Nat × Value)} {st : List Value}
variable {cc : ByteArray} {own : String} {ret : Option FieldType} {ay : Nat → ClassId}
theorem j_ldc (F : jF p s m args meth c cc nL own ret D ay A) {index : Nat} {v : Int32} (hc : Cond.constant own index v ∈ gw) (hdg : decode cc pc = .ok (.ldc index, 2)) (kk : jJ p l e R s m args below meth c Q D A nL k n ws (pc + 2) lv (.int v :: st)) : jJ p l e R s m args below meth c Q D A nL k n ws pc lv (st) := fun H locs ls hP hD hS hl => lv_ldc F.1 F.2.1 F.2.2.2.1 (F.2.2.2.2.1 _ hc) hdg (kk H locs ls hP hD hS hl)
end JC
theorem n_max (x : Int32) : ¬ (2147483647 : Int32) < x := fun h => by
  have h1 := Int32.lt_iff_toInt_lt.mp h
  have h2 : (2147483647 : Int32).toInt = 2147483647 := by decide
  have h3 := Int32.toInt_lt x
  omega
