-- ---- ProgramReader
/-- the first place from p on, of k, that holds no blank -/
def skc (f : Nat → Int32) : Nat → Nat → Nat
  | 0, p => p
  | k + 1, p => if f p = 32 ∨ f p = 10 then skc f k (p + 1) else p
def sk (f : Nat → Int32) (n p : Nat) : Nat := skc f (n - p) p
/-- how many digits stand from p on -/
def dgc (f : Nat → Int32) : Nat → Nat → Nat
  | 0, _ => 0
  | k + 1, p => if 48 ≤ f p ∧ f p ≤ 57 then dgc f k (p + 1) + 1 else 0
def dg (f : Nat → Int32) (n p : Nat) : Nat := dgc f (n - p) p
/-- the number of i digits -/
def vl (f : Nat → Int32) (p : Nat) : Nat → Int32
  | 0 => 0
  | i + 1 => 10 * vl f p i + f (p + i) - 48
abbrev rdOK (f : Nat → Int32) (n p : Nat) (lo hi : Int32) : Prop := (1 ≤ dg f n p ∧ dg f n p ≤ 3) ∧ ¬ vl f p (dg f n p) < lo ∧ ¬ hi < vl f p (dg f n p)
theorem skc_ge (f : Nat → Int32) : ∀ k p, p ≤ skc f k p ∧ skc f k p ≤ p + k
  | 0, p => ⟨Nat.le_refl _, Nat.le_refl _⟩
  | k + 1, p => by
    have ih := skc_ge f k (p + 1)
    show p ≤ (if f p = 32 ∨ f p = 10 then skc f k (p + 1) else p) ∧ (if f p = 32 ∨ f p = 10 then skc f k (p + 1) else p) ≤ p + (k + 1)
    split <;> omega
theorem sk_ge (f : Nat → Int32) (n p : Nat) : p ≤ sk f n p := (skc_ge f (n - p) p).1
theorem sk_le {f : Nat → Int32} {n p : Nat} (h : p ≤ n) : sk f n p ≤ n := by
  have := (skc_ge f (n - p) p).2
  show skc f (n - p) p ≤ n
  omega
theorem sk_end {f : Nat → Int32} {n p : Nat} (h : n ≤ p) : sk f n p = p := by
  show skc f (n - p) p = p
  rw [show n - p = 0 by omega]
  rfl
theorem sk_blank {f : Nat → Int32} {n p : Nat} (h : p < n) (hb : f p = 32 ∨ f p = 10) : sk f n p = sk f n (p + 1) := by
  show skc f (n - p) p = skc f (n - (p + 1)) (p + 1)
  rw [show n - p = (n - (p + 1)) + 1 by omega]
  show (if f p = 32 ∨ f p = 10 then skc f (n - (p + 1)) (p + 1) else p) = _
  rw [if_pos hb]
theorem sk_stop {f : Nat → Int32} {n p : Nat} (h : p < n) (hb : ¬ (f p = 32 ∨ f p = 10)) : sk f n p = p := by
  show skc f (n - p) p = p
  rw [show n - p = (n - (p + 1)) + 1 by omega]
  show (if f p = 32 ∨ f p = 10 then skc f (n - (p + 1)) (p + 1) else p) = _
  rw [if_neg hb]
theorem dg_end {f : Nat → Int32} {n p : Nat} (h : n ≤ p) : dg f n p = 0 := by
  show dgc f (n - p) p = 0
  rw [show n - p = 0 by omega]
  rfl
theorem dg_yes {f : Nat → Int32} {n p : Nat} (h : p < n) (hb : 48 ≤ f p ∧ f p ≤ 57) : dg f n p = dg f n (p + 1) + 1 := by
  show dgc f (n - p) p = dgc f (n - (p + 1)) (p + 1) + 1
  rw [show n - p = (n - (p + 1)) + 1 by omega]
  show (if 48 ≤ f p ∧ f p ≤ 57 then dgc f (n - (p + 1)) (p + 1) + 1 else 0) = _
  rw [if_pos hb]
theorem dg_no {f : Nat → Int32} {n p : Nat} (h : p < n) (hb : ¬ (48 ≤ f p ∧ f p ≤ 57)) : dg f n p = 0 := by
  show dgc f (n - p) p = 0
  rw [show n - p = (n - (p + 1)) + 1 by omega]
  show (if 48 ≤ f p ∧ f p ≤ 57 then dgc f (n - (p + 1)) (p + 1) + 1 else 0) = _
  rw [if_neg hb]
theorem dgc_le (f : Nat → Int32) : ∀ k p, dgc f k p ≤ k
  | 0, p => Nat.le_refl _
  | k + 1, p => by
    have ih := dgc_le f k (p + 1)
    show (if 48 ≤ f p ∧ f p ≤ 57 then dgc f k (p + 1) + 1 else 0) ≤ k + 1
    split <;> omega
theorem dg_le {f : Nat → Int32} {n p : Nat} (h : p ≤ n) : p + dg f n p ≤ n := by
  have := dgc_le f (n - p) p
  show p + dgc f (n - p) p ≤ n
  omega
set_option maxHeartbeats 4000000 in
set_option maxRecDepth 100000 in
theorem c_X4_tape (l : Launch) (D : va_G) (ay : Nat → ClassId) (r : Nat) (t : Nat) (q : Nat) (pos : Nat) (b : Nat) (n : Nat) (f : Nat → Int32) (le : Nat) (nu : Nat) (ls : Nat) (lt : Nat) (cn : Nat) (L : Nat → Int32) (M : Nat → Int32) (S : Nat → Int32) (T : Nat → Int32) (op : Nat) : jM l yX4_tape (jws yX4_tape cX4_tape 1 (some (.object "LastUseDesk$Tape"))) 0 0 0 0 D ay [.ref r] [(r, .inr (4, [.ref t, .ref q, .int (nI pos)])), (t, .inr (6, [.ref b, .int (nI n)])), (b, .inl (ay 0, 300, .inl f)), (q, .inr (3, [.ref le, .ref nu, .int (nI cn), .ref ls, .ref lt, .int (nI op)])), (le, .inl (ay 0, 200, .inl L)), (nu, .inl (ay 0, 200, .inl M)), (ls, .inl (ay 0, 4, .inl S)), (lt, .inl (ay 0, 4, .inl T))] (fun v w => v = some (.ref t) ∧ w = [(r, .inr (4, [.ref t, .ref q, .int (nI pos)])), (t, .inr (6, [.ref b, .int (nI n)])), (b, .inl (ay 0, 300, .inl f)), (q, .inr (3, [.ref le, .ref nu, .int (nI cn), .ref ls, .ref lt, .int (nI op)])), (le, .inl (ay 0, 200, .inl L)), (nu, .inl (ay 0, 200, .inl M)), (ls, .inl (ay 0, 4, .inl S)), (lt, .inl (ay 0, 4, .inl T))]) := by
  refine jM_of l (by decide) [(0, .ref r)] rfl rfl (fun p9 e9 s9 m9 a9 b9 me9 c9 A9 F => ?_)
  refine j_aload_n F 0 dX4_tape_0 rfl ?_
  refine j_getf F fX4_12 0 rfl rfl dX4_tape_1 ?_
  exact j_aret F ⟨rfl, rfl⟩ dX4_tape_4 (Nat.le_of_ble_eq_true rfl) (Nat.le_of_ble_eq_true rfl)

set_option maxHeartbeats 4000000 in
set_option maxRecDepth 100000 in
theorem c_X4_program (l : Launch) (D : va_G) (ay : Nat → ClassId) (r : Nat) (t : Nat) (q : Nat) (pos : Nat) (b : Nat) (n : Nat) (f : Nat → Int32) (le : Nat) (nu : Nat) (ls : Nat) (lt : Nat) (cn : Nat) (L : Nat → Int32) (M : Nat → Int32) (S : Nat → Int32) (T : Nat → Int32) (op : Nat) : jM l yX4_program (jws yX4_program cX4_program 1 (some (.object "LastUseDesk$Program"))) 0 0 0 0 D ay [.ref r] [(r, .inr (4, [.ref t, .ref q, .int (nI pos)])), (t, .inr (6, [.ref b, .int (nI n)])), (b, .inl (ay 0, 300, .inl f)), (q, .inr (3, [.ref le, .ref nu, .int (nI cn), .ref ls, .ref lt, .int (nI op)])), (le, .inl (ay 0, 200, .inl L)), (nu, .inl (ay 0, 200, .inl M)), (ls, .inl (ay 0, 4, .inl S)), (lt, .inl (ay 0, 4, .inl T))] (fun v w => v = some (.ref q) ∧ w = [(r, .inr (4, [.ref t, .ref q, .int (nI pos)])), (t, .inr (6, [.ref b, .int (nI n)])), (b, .inl (ay 0, 300, .inl f)), (q, .inr (3, [.ref le, .ref nu, .int (nI cn), .ref ls, .ref lt, .int (nI op)])), (le, .inl (ay 0, 200, .inl L)), (nu, .inl (ay 0, 200, .inl M)), (ls, .inl (ay 0, 4, .inl S)), (lt, .inl (ay 0, 4, .inl T))]) := by
  refine jM_of l (by decide) [(0, .ref r)] rfl rfl (fun p9 e9 s9 m9 a9 b9 me9 c9 A9 F => ?_)
  refine j_aload_n F 0 dX4_program_0 rfl ?_
  refine j_getf F fX4_21 0 rfl rfl dX4_program_1 ?_
  exact j_aret F ⟨rfl, rfl⟩ dX4_program_4 (Nat.le_of_ble_eq_true rfl) (Nat.le_of_ble_eq_true rfl)

set_option maxHeartbeats 4000000 in
set_option maxRecDepth 100000 in
theorem c_X4_isDigit (l : Launch) (D : va_G) (ay : Nat → ClassId) (x : Int32) : jM l yX4_isDigit (jws yX4_isDigit cX4_isDigit 1 (some .boolean)) 0 0 0 0 D ay [.int x] [] (fun v w => v = some (.int (if 48 ≤ x ∧ x ≤ 57 then 1 else 0)) ∧ w = []) := by
  refine jM_of l (by decide) [(0, .int x)] rfl rfl (fun p9 e9 s9 m9 a9 b9 me9 c9 A9 F => ?_)
  refine j_iload_n F 0 dX4_isDigit_0 rfl ?_
  refine j_bipush F (v := 48) dX4_isDigit_1 (by decide) ?_
  refine j_icmp_lt F 16 dX4_isDigit_3 (by decide) (fun c_3 => ?_) (fun c_3 => ?_)
  · skip
    refine j_iconst F (v := 0) dX4_isDigit_16 (by decide) ?_
    exact j_zret F (Or.inl rfl) ⟨by rw [if_neg (fun h => absurd h.1 (Int32.not_le.mpr c_3))], rfl⟩ dX4_isDigit_17 (Nat.le_of_ble_eq_true rfl) (Nat.le_of_ble_eq_true rfl)
  · skip
    refine j_iload_n F 0 dX4_isDigit_6 rfl ?_
    refine j_bipush F (v := 57) dX4_isDigit_7 (by decide) ?_
    refine j_icmp_gt F 16 dX4_isDigit_9 (by decide) (fun c_9 => ?_) (fun c_9 => ?_)
    · skip
      refine j_iconst F (v := 0) dX4_isDigit_16 (by decide) ?_
      exact j_zret F (Or.inl rfl) ⟨by rw [if_neg (fun h => absurd h.2 (Int32.not_le.mpr c_9))], rfl⟩ dX4_isDigit_17 (Nat.le_of_ble_eq_true rfl) (Nat.le_of_ble_eq_true rfl)
    · skip
      refine j_iconst F (v := 1) dX4_isDigit_12 (by decide) ?_
      refine j_goto F 17 dX4_isDigit_13 (by decide) ?_
      exact j_zret F (Or.inr rfl) ⟨by rw [if_pos ⟨Int32.not_lt.mp c_3, Int32.not_lt.mp c_9⟩], rfl⟩ dX4_isDigit_17 (Nat.le_of_ble_eq_true rfl) (Nat.le_of_ble_eq_true rfl)

set_option maxHeartbeats 4000000 in
set_option maxRecDepth 100000 in
theorem c_X4_isBlank (l : Launch) (D : va_G) (ay : Nat → ClassId) (x : Int32) : jM l yX4_isBlank (jws yX4_isBlank cX4_isBlank 1 (some .boolean)) 0 0 0 0 D ay [.int x] [] (fun v w => v = some (.int (if x = 32 ∨ x = 10 then 1 else 0)) ∧ w = []) := by
  refine jM_of l (by decide) [(0, .int x)] rfl rfl (fun p9 e9 s9 m9 a9 b9 me9 c9 A9 F => ?_)
  refine j_iload_n F 0 dX4_isBlank_0 rfl ?_
  refine j_bipush F (v := 32) dX4_isBlank_1 (by decide) ?_
  refine j_icmp_eq F 12 dX4_isBlank_3 (by decide) (fun c_3 => ?_) (fun c_3 => ?_)
  · skip
    refine j_iconst F (v := 1) dX4_isBlank_12 (by decide) ?_
    refine j_goto F 17 dX4_isBlank_13 (by decide) ?_
    exact j_zret F (Or.inr rfl) ⟨by rw [if_pos (Or.inl c_3)], rfl⟩ dX4_isBlank_17 (Nat.le_of_ble_eq_true rfl) (Nat.le_of_ble_eq_true rfl)
  · skip
    refine j_iload_n F 0 dX4_isBlank_6 rfl ?_
    refine j_bipush F (v := 10) dX4_isBlank_7 (by decide) ?_
    refine j_icmp_ne F 16 dX4_isBlank_9 (by decide) (fun c_9 => ?_) (fun c_9 => ?_)
    · skip
      refine j_iconst F (v := 0) dX4_isBlank_16 (by decide) ?_
      exact j_zret F (Or.inl rfl) ⟨by rw [if_neg (fun h => h.elim c_3 c_9)], rfl⟩ dX4_isBlank_17 (Nat.le_of_ble_eq_true rfl) (Nat.le_of_ble_eq_true rfl)
    · skip
      refine j_iconst F (v := 1) dX4_isBlank_12 (by decide) ?_
      refine j_goto F 17 dX4_isBlank_13 (by decide) ?_
      exact j_zret F (Or.inr rfl) ⟨by rw [if_pos (Or.inr c_9)], rfl⟩ dX4_isBlank_17 (Nat.le_of_ble_eq_true rfl) (Nat.le_of_ble_eq_true rfl)

set_option maxHeartbeats 4000000 in
set_option maxRecDepth 100000 in
theorem c_X4_pass (l : Launch) (D : va_G) (ay : Nat → ClassId) (r : Nat) (t : Nat) (q : Nat) (pos : Nat) (b : Nat) (n : Nat) (f : Nat → Int32) (le : Nat) (nu : Nat) (ls : Nat) (lt : Nat) (cn : Nat) (L : Nat → Int32) (M : Nat → Int32) (S : Nat → Int32) (T : Nat → Int32) (op : Nat) (d : Nat) (hn : n ≤ 300) (hp : pos + d ≤ 1000) : jM l yX4_pass (jws yX4_pass cX4_pass 2 none) 1 21 0 0 D ay [.ref r, .int (nI d)] [(r, .inr (4, [.ref t, .ref q, .int (nI pos)])), (t, .inr (6, [.ref b, .int (nI n)])), (b, .inl (ay 0, 300, .inl f)), (q, .inr (3, [.ref le, .ref nu, .int (nI cn), .ref ls, .ref lt, .int (nI op)])), (le, .inl (ay 0, 200, .inl L)), (nu, .inl (ay 0, 200, .inl M)), (ls, .inl (ay 0, 4, .inl S)), (lt, .inl (ay 0, 4, .inl T))] (fun v w => v = none ∧ w = [(r, .inr (4, [.ref t, .ref q, .int (nI (sk f n (pos + d)))])), (t, .inr (6, [.ref b, .int (nI n)])), (b, .inl (ay 0, 300, .inl f)), (q, .inr (3, [.ref le, .ref nu, .int (nI cn), .ref ls, .ref lt, .int (nI op)])), (le, .inl (ay 0, 200, .inl L)), (nu, .inl (ay 0, 200, .inl M)), (ls, .inl (ay 0, 4, .inl S)), (lt, .inl (ay 0, 4, .inl T))]) := by
  refine jM_of l (by decide) [(0, .ref r), (1, .int (nI d))] rfl rfl (fun p9 e9 s9 m9 a9 b9 me9 c9 A9 F => ?_)
  refine j_aload_n F 0 dX4_pass_0 rfl ?_
  refine j_dup F dX4_pass_1 rfl ?_
  refine j_getf F fX4_25 0 rfl rfl dX4_pass_2 ?_
  refine j_iload_n F 1 dX4_pass_5 rfl ?_
  refine j_iadd F dX4_pass_6 ?_
  refine j_top (nI (pos + d)) (nI_add _ _) ?_
  refine j_putf F fX4_25 0 [(r, .inr (4, [.ref t, .ref q, .int (nI (pos + d))])), (t, .inr (6, [.ref b, .int (nI n)])), (b, .inl (ay 0, 300, .inl f)), (q, .inr (3, [.ref le, .ref nu, .int (nI cn), .ref ls, .ref lt, .int (nI op)])), (le, .inl (ay 0, 200, .inl L)), (nu, .inl (ay 0, 200, .inl M)), (ls, .inl (ay 0, 4, .inl S)), (lt, .inl (ay 0, 4, .inl T))] rfl rfl rfl rfl rfl (Nat.le_of_ble_eq_true rfl) dX4_pass_7 ?_
  refine j_loop (σ := Nat) (fun i => sk f n i = sk f n (pos + d) ∧ i ≤ 1000) (fun i => 1000 - i) (fun _ => [(0, .ref r), (1, .int (nI d))]) (fun i => [(r, .inr (4, [.ref t, .ref q, .int (nI i)])), (t, .inr (6, [.ref b, .int (nI n)])), (b, .inl (ay 0, 300, .inl f)), (q, .inr (3, [.ref le, .ref nu, .int (nI cn), .ref ls, .ref lt, .int (nI op)])), (le, .inl (ay 0, 200, .inl L)), (nu, .inl (ay 0, 200, .inl M)), (ls, .inl (ay 0, 4, .inl S)), (lt, .inl (ay 0, 4, .inl T))]) (pos + d) ⟨rfl, hp⟩ rfl rfl (fun i hI ih => ?_)
  obtain ⟨hi, hi2⟩ := hI
  refine j_aload_n F 0 dX4_pass_10 rfl ?_
  refine j_getf F fX4_25 0 rfl rfl dX4_pass_11 ?_
  refine j_aload_n F 0 dX4_pass_14 rfl ?_
  refine j_getf F fX4_12 0 rfl rfl dX4_pass_15 ?_
  refine j_callV F kX4_36 (As := []) (rest := [.int (nI i)]) (c_X6_length l D ay t b n f) 1 [1, 2] [0, 3, 4, 5, 6, 7] [(r, .inr (4, [.ref t, .ref q, .int (nI i)])), (q, .inr (3, [.ref le, .ref nu, .int (nI cn), .ref ls, .ref lt, .int (nI op)])), (le, .inl (ay 0, 200, .inl L)), (nu, .inl (ay 0, 200, .inl M)), (ls, .inl (ay 0, 4, .inl S)), (lt, .inl (ay 0, 4, .inl T))] rfl rfl rfl rfl rfl rfl rfl ⟨Nat.le_of_ble_eq_true rfl, Nat.le_of_ble_eq_true rfl⟩ dX4_pass_18 (fun v w hw => ?_)
  obtain ⟨rfl, rfl⟩ := hw
  refine j_perm [0, 6, 7, 1, 2, 3, 4, 5] [(r, .inr (4, [.ref t, .ref q, .int (nI i)])), (t, .inr (6, [.ref b, .int (nI n)])), (b, .inl (ay 0, 300, .inl f)), (q, .inr (3, [.ref le, .ref nu, .int (nI cn), .ref ls, .ref lt, .int (nI op)])), (le, .inl (ay 0, 200, .inl L)), (nu, .inl (ay 0, 200, .inl M)), (ls, .inl (ay 0, 4, .inl S)), (lt, .inl (ay 0, 4, .inl T))] rfl rfl ?_
  refine j_icmp_ge F 54 dX4_pass_21 (by decide) (fun c_21 => ?_) (fun c_21 => ?_)
  · skip
    have n_21 := (n_le n i rfl rfl (by omega) (by omega)).mp c_21
    exact j_vret F ⟨rfl, by rw [← hi, sk_end (by omega)]⟩ dX4_pass_54 (Nat.le_of_ble_eq_true rfl) (Nat.le_of_ble_eq_true rfl)
  · skip
    have n_21 := mt (n_le n i rfl rfl (by omega) (by omega)).mpr c_21
    refine j_aload_n F 0 dX4_pass_24 rfl ?_
    refine j_getf F fX4_12 0 rfl rfl dX4_pass_25 ?_
    refine j_aload_n F 0 dX4_pass_28 rfl ?_
    refine j_getf F fX4_25 0 rfl rfl dX4_pass_29 ?_
    refine j_callV F kX4_47 (As := [.int (nI i)]) (rest := []) (c_X6_byteIn l D ay t b n f i (by first | assumption | omega) (by first | assumption | omega)) 1 [1, 2] [0, 3, 4, 5, 6, 7] [(r, .inr (4, [.ref t, .ref q, .int (nI i)])), (q, .inr (3, [.ref le, .ref nu, .int (nI cn), .ref ls, .ref lt, .int (nI op)])), (le, .inl (ay 0, 200, .inl L)), (nu, .inl (ay 0, 200, .inl M)), (ls, .inl (ay 0, 4, .inl S)), (lt, .inl (ay 0, 4, .inl T))] rfl rfl rfl rfl rfl rfl rfl ⟨Nat.le_of_ble_eq_true rfl, Nat.le_of_ble_eq_true rfl⟩ dX4_pass_32 (fun v w hw => ?_)
    obtain ⟨rfl, rfl⟩ := hw
    refine j_perm [0, 6, 7, 1, 2, 3, 4, 5] [(r, .inr (4, [.ref t, .ref q, .int (nI i)])), (t, .inr (6, [.ref b, .int (nI n)])), (b, .inl (ay 0, 300, .inl f)), (q, .inr (3, [.ref le, .ref nu, .int (nI cn), .ref ls, .ref lt, .int (nI op)])), (le, .inl (ay 0, 200, .inl L)), (nu, .inl (ay 0, 200, .inl M)), (ls, .inl (ay 0, 4, .inl S)), (lt, .inl (ay 0, 4, .inl T))] rfl rfl ?_
    refine j_top (f i) (if_pos (by omega)) ?_
    refine j_callS F kX4_87 (As := [.int (f i)]) (rest := []) (c_X4_isBlank l D ay (f i)) [] [0, 1, 2, 3, 4, 5, 6, 7] [(r, .inr (4, [.ref t, .ref q, .int (nI i)])), (t, .inr (6, [.ref b, .int (nI n)])), (b, .inl (ay 0, 300, .inl f)), (q, .inr (3, [.ref le, .ref nu, .int (nI cn), .ref ls, .ref lt, .int (nI op)])), (le, .inl (ay 0, 200, .inl L)), (nu, .inl (ay 0, 200, .inl M)), (ls, .inl (ay 0, 4, .inl S)), (lt, .inl (ay 0, 4, .inl T))] rfl rfl rfl rfl rfl rfl ⟨Nat.le_of_ble_eq_true rfl, Nat.le_of_ble_eq_true rfl⟩ dX4_pass_35 (fun v w hw => ?_)
    obtain ⟨rfl, rfl⟩ := hw
    refine j_perm [0, 1, 2, 3, 4, 5, 6, 7] [(r, .inr (4, [.ref t, .ref q, .int (nI i)])), (t, .inr (6, [.ref b, .int (nI n)])), (b, .inl (ay 0, 300, .inl f)), (q, .inr (3, [.ref le, .ref nu, .int (nI cn), .ref ls, .ref lt, .int (nI op)])), (le, .inl (ay 0, 200, .inl L)), (nu, .inl (ay 0, 200, .inl M)), (ls, .inl (ay 0, 4, .inl S)), (lt, .inl (ay 0, 4, .inl T))] rfl rfl ?_
    by_cases hb : f i = 32 ∨ f i = 10
    · skip
      refine j_top 1 (if_pos hb) ?_
      refine j_if_eq F 54 dX4_pass_38 (by decide) (fun c_38 => absurd c_38 (by decide)) (fun c_38 => ?_)
      refine j_aload_n F 0 dX4_pass_41 rfl ?_
      refine j_dup F dX4_pass_42 rfl ?_
      refine j_getf F fX4_25 0 rfl rfl dX4_pass_43 ?_
      refine j_iconst F (v := 1) dX4_pass_46 (by decide) ?_
      refine j_iadd F dX4_pass_47 ?_
      refine j_top (nI (i + 1)) (nI_add _ _) ?_
      refine j_putf F fX4_25 0 [(r, .inr (4, [.ref t, .ref q, .int (nI (i + 1))])), (t, .inr (6, [.ref b, .int (nI n)])), (b, .inl (ay 0, 300, .inl f)), (q, .inr (3, [.ref le, .ref nu, .int (nI cn), .ref ls, .ref lt, .int (nI op)])), (le, .inl (ay 0, 200, .inl L)), (nu, .inl (ay 0, 200, .inl M)), (ls, .inl (ay 0, 4, .inl S)), (lt, .inl (ay 0, 4, .inl T))] rfl rfl rfl rfl rfl (Nat.le_of_ble_eq_true rfl) dX4_pass_48 ?_
      refine j_goto F 10 dX4_pass_51 (by decide) ?_
      exact ih (i + 1) ⟨(sk_blank (by omega) hb).symm.trans hi, by omega⟩ (by show 1000 - (i + 1) < 1000 - i; omega)
    · skip
      refine j_top 0 (if_neg hb) ?_
      refine j_if_eq F 54 dX4_pass_38 (by decide) (fun c_38 => ?_) (fun c_38 => absurd (by decide) c_38)
      exact j_vret F ⟨rfl, by rw [← hi, sk_stop (by omega) hb]⟩ dX4_pass_54 (Nat.le_of_ble_eq_true rfl) (Nat.le_of_ble_eq_true rfl)

set_option maxHeartbeats 4000000 in
set_option maxRecDepth 100000 in
theorem c_X4_countDigits (l : Launch) (D : va_G) (ay : Nat → ClassId) (r : Nat) (t : Nat) (q : Nat) (pos : Nat) (b : Nat) (n : Nat) (f : Nat → Int32) (le : Nat) (nu : Nat) (ls : Nat) (lt : Nat) (cn : Nat) (L : Nat → Int32) (M : Nat → Int32) (S : Nat → Int32) (T : Nat → Int32) (op : Nat) (hn : n ≤ 300) (hp : pos ≤ n) : jM l yX4_countDigits (jws yX4_countDigits cX4_countDigits 2 (some .int)) 1 21 0 0 D ay [.ref r] [(r, .inr (4, [.ref t, .ref q, .int (nI pos)])), (t, .inr (6, [.ref b, .int (nI n)])), (b, .inl (ay 0, 300, .inl f)), (q, .inr (3, [.ref le, .ref nu, .int (nI cn), .ref ls, .ref lt, .int (nI op)])), (le, .inl (ay 0, 200, .inl L)), (nu, .inl (ay 0, 200, .inl M)), (ls, .inl (ay 0, 4, .inl S)), (lt, .inl (ay 0, 4, .inl T))] (fun v w => v = some (.int (nI (dg f n pos))) ∧ w = [(r, .inr (4, [.ref t, .ref q, .int (nI pos)])), (t, .inr (6, [.ref b, .int (nI n)])), (b, .inl (ay 0, 300, .inl f)), (q, .inr (3, [.ref le, .ref nu, .int (nI cn), .ref ls, .ref lt, .int (nI op)])), (le, .inl (ay 0, 200, .inl L)), (nu, .inl (ay 0, 200, .inl M)), (ls, .inl (ay 0, 4, .inl S)), (lt, .inl (ay 0, 4, .inl T))]) := by
  refine jM_of l (by decide) [(0, .ref r)] rfl rfl (fun p9 e9 s9 m9 a9 b9 me9 c9 A9 F => ?_)
  refine j_iconst F (v := 0) dX4_countDigits_0 (by decide) ?_
  refine j_istore_n F 1 [(1, .int 0), (0, .ref r)] dX4_countDigits_1 rfl (by decide) rfl ?_
  refine j_loop (σ := Nat) (fun i => dg f n pos = i + dg f n (pos + i) ∧ pos + i ≤ n) (fun i => n - i) (fun i => [(1, .int (nI i)), (0, .ref r)]) (fun _ => [(r, .inr (4, [.ref t, .ref q, .int (nI pos)])), (t, .inr (6, [.ref b, .int (nI n)])), (b, .inl (ay 0, 300, .inl f)), (q, .inr (3, [.ref le, .ref nu, .int (nI cn), .ref ls, .ref lt, .int (nI op)])), (le, .inl (ay 0, 200, .inl L)), (nu, .inl (ay 0, 200, .inl M)), (ls, .inl (ay 0, 4, .inl S)), (lt, .inl (ay 0, 4, .inl T))]) 0 ⟨by rw [Nat.zero_add, Nat.add_zero], by omega⟩ rfl rfl (fun i hI ih => ?_)
  obtain ⟨hi, hi2⟩ := hI
  refine j_iload_n F 0 dX4_countDigits_2 rfl ?_
  refine j_sipush F (v := 300) dX4_countDigits_3 (by decide) ?_
  refine j_icmp_ge F 34 dX4_countDigits_6 (by decide) (fun c_6 => ?_) (fun c_6 => ?_)
  · skip
    have n_6 := (n_le 300 i rfl rfl (by omega) (by omega)).mp c_6
    refine j_iload_n F 0 dX4_countDigits_34 rfl ?_
    exact j_iret F ⟨by rw [hi, dg_end (by omega), Nat.add_zero], rfl⟩ dX4_countDigits_35 (Nat.le_of_ble_eq_true rfl) (Nat.le_of_ble_eq_true rfl)
  · skip
    have n_6 := mt (n_le 300 i rfl rfl (by omega) (by omega)).mpr c_6
    refine j_aload_n F 1 dX4_countDigits_9 rfl ?_
    refine j_getf F fX4_12 0 rfl rfl dX4_countDigits_10 ?_
    refine j_aload_n F 1 dX4_countDigits_13 rfl ?_
    refine j_getf F fX4_25 0 rfl rfl dX4_countDigits_14 ?_
    refine j_iload_n F 0 dX4_countDigits_17 rfl ?_
    refine j_iadd F dX4_countDigits_18 ?_
    refine j_top (nI (pos + i)) (nI_add _ _) ?_
    refine j_callV F kX4_47 (As := [.int (nI (pos + i))]) (rest := []) (c_X6_byteIn l D ay t b n f (pos + i) (by first | assumption | omega) (by first | assumption | omega)) 1 [1, 2] [0, 3, 4, 5, 6, 7] [(r, .inr (4, [.ref t, .ref q, .int (nI pos)])), (q, .inr (3, [.ref le, .ref nu, .int (nI cn), .ref ls, .ref lt, .int (nI op)])), (le, .inl (ay 0, 200, .inl L)), (nu, .inl (ay 0, 200, .inl M)), (ls, .inl (ay 0, 4, .inl S)), (lt, .inl (ay 0, 4, .inl T))] rfl rfl rfl rfl rfl rfl rfl ⟨Nat.le_of_ble_eq_true rfl, Nat.le_of_ble_eq_true rfl⟩ dX4_countDigits_19 (fun v w hw => ?_)
    obtain ⟨rfl, rfl⟩ := hw
    refine j_perm [0, 6, 7, 1, 2, 3, 4, 5] [(r, .inr (4, [.ref t, .ref q, .int (nI pos)])), (t, .inr (6, [.ref b, .int (nI n)])), (b, .inl (ay 0, 300, .inl f)), (q, .inr (3, [.ref le, .ref nu, .int (nI cn), .ref ls, .ref lt, .int (nI op)])), (le, .inl (ay 0, 200, .inl L)), (nu, .inl (ay 0, 200, .inl M)), (ls, .inl (ay 0, 4, .inl S)), (lt, .inl (ay 0, 4, .inl T))] rfl rfl ?_
    by_cases hlt : pos + i < n
    · skip
      refine j_top (f (pos + i)) (if_pos hlt) ?_
      refine j_callS F kX4_84 (As := [.int (f (pos + i))]) (rest := []) (c_X4_isDigit l D ay (f (pos + i))) [] [0, 1, 2, 3, 4, 5, 6, 7] [(r, .inr (4, [.ref t, .ref q, .int (nI pos)])), (t, .inr (6, [.ref b, .int (nI n)])), (b, .inl (ay 0, 300, .inl f)), (q, .inr (3, [.ref le, .ref nu, .int (nI cn), .ref ls, .ref lt, .int (nI op)])), (le, .inl (ay 0, 200, .inl L)), (nu, .inl (ay 0, 200, .inl M)), (ls, .inl (ay 0, 4, .inl S)), (lt, .inl (ay 0, 4, .inl T))] rfl rfl rfl rfl rfl rfl ⟨Nat.le_of_ble_eq_true rfl, Nat.le_of_ble_eq_true rfl⟩ dX4_countDigits_22 (fun v w hw => ?_)
      obtain ⟨rfl, rfl⟩ := hw
      refine j_perm [0, 1, 2, 3, 4, 5, 6, 7] [(r, .inr (4, [.ref t, .ref q, .int (nI pos)])), (t, .inr (6, [.ref b, .int (nI n)])), (b, .inl (ay 0, 300, .inl f)), (q, .inr (3, [.ref le, .ref nu, .int (nI cn), .ref ls, .ref lt, .int (nI op)])), (le, .inl (ay 0, 200, .inl L)), (nu, .inl (ay 0, 200, .inl M)), (ls, .inl (ay 0, 4, .inl S)), (lt, .inl (ay 0, 4, .inl T))] rfl rfl ?_
      by_cases hd : 48 ≤ f (pos + i) ∧ f (pos + i) ≤ 57
      · skip
        refine j_top 1 (if_pos hd) ?_
        refine j_if_eq F 34 dX4_countDigits_25 (by decide) (fun c_25 => absurd c_25 (by decide)) (fun c_25 => ?_)
        refine j_iinc F 0 (nI (i + 1)) [(1, .int (nI (i + 1))), (0, .ref r)] dX4_countDigits_28 rfl (nI_1 _) (by decide) rfl ?_
        refine j_goto F 2 dX4_countDigits_31 (by decide) ?_
        exact ih (i + 1) ⟨by rw [show pos + (i + 1) = pos + i + 1 from rfl, hi, dg_yes hlt hd]; omega, by omega⟩ (by show n - (i + 1) < n - i; omega)
      · skip
        refine j_top 0 (if_neg hd) ?_
        refine j_if_eq F 34 dX4_countDigits_25 (by decide) (fun c_25 => ?_) (fun c_25 => absurd (by decide) c_25)
        refine j_iload_n F 0 dX4_countDigits_34 rfl ?_
        exact j_iret F ⟨by rw [hi, dg_no hlt hd, Nat.add_zero], rfl⟩ dX4_countDigits_35 (Nat.le_of_ble_eq_true rfl) (Nat.le_of_ble_eq_true rfl)
    · skip
      refine j_top (-1) (if_neg hlt) ?_
      refine j_callS F kX4_84 (As := [.int (-1)]) (rest := []) (c_X4_isDigit l D ay (-1)) [] [0, 1, 2, 3, 4, 5, 6, 7] [(r, .inr (4, [.ref t, .ref q, .int (nI pos)])), (t, .inr (6, [.ref b, .int (nI n)])), (b, .inl (ay 0, 300, .inl f)), (q, .inr (3, [.ref le, .ref nu, .int (nI cn), .ref ls, .ref lt, .int (nI op)])), (le, .inl (ay 0, 200, .inl L)), (nu, .inl (ay 0, 200, .inl M)), (ls, .inl (ay 0, 4, .inl S)), (lt, .inl (ay 0, 4, .inl T))] rfl rfl rfl rfl rfl rfl ⟨Nat.le_of_ble_eq_true rfl, Nat.le_of_ble_eq_true rfl⟩ dX4_countDigits_22 (fun v w hw => ?_)
      obtain ⟨rfl, rfl⟩ := hw
      refine j_perm [0, 1, 2, 3, 4, 5, 6, 7] [(r, .inr (4, [.ref t, .ref q, .int (nI pos)])), (t, .inr (6, [.ref b, .int (nI n)])), (b, .inl (ay 0, 300, .inl f)), (q, .inr (3, [.ref le, .ref nu, .int (nI cn), .ref ls, .ref lt, .int (nI op)])), (le, .inl (ay 0, 200, .inl L)), (nu, .inl (ay 0, 200, .inl M)), (ls, .inl (ay 0, 4, .inl S)), (lt, .inl (ay 0, 4, .inl T))] rfl rfl ?_
      refine j_top 0 (if_neg (by decide)) ?_
      refine j_if_eq F 34 dX4_countDigits_25 (by decide) (fun c_25 => ?_) (fun c_25 => absurd (by decide) c_25)
      refine j_iload_n F 0 dX4_countDigits_34 rfl ?_
      exact j_iret F ⟨by rw [hi, dg_end (by omega), Nat.add_zero], rfl⟩ dX4_countDigits_35 (Nat.le_of_ble_eq_true rfl) (Nat.le_of_ble_eq_true rfl)

set_option maxHeartbeats 4000000 in
set_option maxRecDepth 100000 in
theorem c_X4_readNumber (l : Launch) (D : va_G) (ay : Nat → ClassId) (r : Nat) (t : Nat) (q : Nat) (pos : Nat) (b : Nat) (n : Nat) (f : Nat → Int32) (le : Nat) (nu : Nat) (ls : Nat) (lt : Nat) (cn : Nat) (L : Nat → Int32) (M : Nat → Int32) (S : Nat → Int32) (T : Nat → Int32) (op : Nat) (lo : Int32) (hi : Int32) (hn : n ≤ 300) (hp : pos ≤ n) : jM l yX4_readNumber (jws yX4_readNumber cX4_readNumber 6 (some .int)) 2 42 0 0 D ay [.ref r, .int lo, .int hi] [(r, .inr (4, [.ref t, .ref q, .int (nI pos)])), (t, .inr (6, [.ref b, .int (nI n)])), (b, .inl (ay 0, 300, .inl f)), (q, .inr (3, [.ref le, .ref nu, .int (nI cn), .ref ls, .ref lt, .int (nI op)])), (le, .inl (ay 0, 200, .inl L)), (nu, .inl (ay 0, 200, .inl M)), (ls, .inl (ay 0, 4, .inl S)), (lt, .inl (ay 0, 4, .inl T))] (fun v w => v = some (.int (if rdOK f n pos lo hi then vl f pos (dg f n pos) else -1)) ∧ w = [(r, .inr (4, [.ref t, .ref q, .int (nI (if rdOK f n pos lo hi then sk f n (pos + dg f n pos) else pos))])), (t, .inr (6, [.ref b, .int (nI n)])), (b, .inl (ay 0, 300, .inl f)), (q, .inr (3, [.ref le, .ref nu, .int (nI cn), .ref ls, .ref lt, .int (nI op)])), (le, .inl (ay 0, 200, .inl L)), (nu, .inl (ay 0, 200, .inl M)), (ls, .inl (ay 0, 4, .inl S)), (lt, .inl (ay 0, 4, .inl T))]) := by
  refine jM_of l (by decide) [(0, .ref r), (1, .int lo), (2, .int hi)] rfl rfl (fun p9 e9 s9 m9 a9 b9 me9 c9 A9 F => ?_)
  have hdl := dg_le (f := f) hp
  refine j_aload_n F 0 dX4_readNumber_0 rfl ?_
  refine j_callV F kX4_81 (As := []) (rest := []) (c_X4_countDigits l D ay r t q pos b n f le nu ls lt cn L M S T op (by first | assumption | omega) (by first | assumption | omega)) 0 [0, 1, 2, 3, 4, 5, 6, 7] [] [] rfl rfl rfl rfl rfl rfl rfl ⟨Nat.le_of_ble_eq_true rfl, Nat.le_of_ble_eq_true rfl⟩ dX4_readNumber_1 (fun v w hw => ?_)
  obtain ⟨rfl, rfl⟩ := hw
  refine j_perm [0, 1, 2, 3, 4, 5, 6, 7] [(r, .inr (4, [.ref t, .ref q, .int (nI pos)])), (t, .inr (6, [.ref b, .int (nI n)])), (b, .inl (ay 0, 300, .inl f)), (q, .inr (3, [.ref le, .ref nu, .int (nI cn), .ref ls, .ref lt, .int (nI op)])), (le, .inl (ay 0, 200, .inl L)), (nu, .inl (ay 0, 200, .inl M)), (ls, .inl (ay 0, 4, .inl S)), (lt, .inl (ay 0, 4, .inl T))] rfl rfl ?_
  refine j_istore_n F 3 [(3, .int (nI (dg f n pos))), (0, .ref r), (1, .int lo), (2, .int hi)] dX4_readNumber_4 rfl (by decide) rfl ?_
  refine j_iload_n F 0 dX4_readNumber_5 rfl ?_
  refine j_iconst F (v := 1) dX4_readNumber_6 (by decide) ?_
  refine j_icmp_lt F 15 dX4_readNumber_7 (by decide) (fun c_7 => ?_) (fun c_7 => ?_)
  · skip
    have n_7 := (n_lt (dg f n pos) 1 rfl rfl (by omega) (by omega)).mp c_7
    refine j_iconst F (v := (-1)) dX4_readNumber_15 (by decide) ?_
    exact j_iret F ⟨by rw [if_neg (fun h => absurd h.1.1 (by omega))], by rw [if_neg (fun h => absurd h.1.1 (by omega))]⟩ dX4_readNumber_16 (Nat.le_of_ble_eq_true rfl) (Nat.le_of_ble_eq_true rfl)
  · skip
    have n_7 := mt (n_lt (dg f n pos) 1 rfl rfl (by omega) (by omega)).mpr c_7
    refine j_iload_n F 0 dX4_readNumber_10 rfl ?_
    refine j_iconst F (v := 3) dX4_readNumber_11 (by decide) ?_
    refine j_icmp_le F 17 dX4_readNumber_12 (by decide) (fun c_12 => ?_) (fun c_12 => ?_)
    · skip
      have n_12 := (n_le (dg f n pos) 3 rfl rfl (by omega) (by omega)).mp c_12
      refine j_iconst F (v := 0) dX4_readNumber_17 (by decide) ?_
      refine j_istore F 4 [(4, .int 0), (3, .int (nI (dg f n pos))), (0, .ref r), (1, .int lo), (2, .int hi)] dX4_readNumber_18 (by decide) rfl ?_
      refine j_iconst F (v := 0) dX4_readNumber_20 (by decide) ?_
      refine j_istore F 5 [(5, .int 0), (4, .int 0), (3, .int (nI (dg f n pos))), (0, .ref r), (1, .int lo), (2, .int hi)] dX4_readNumber_21 (by decide) rfl ?_
      refine j_loop (σ := Nat) (fun i => i ≤ dg f n pos) (fun i => dg f n pos - i) (fun i => [(5, .int (nI i)), (4, .int (vl f pos i)), (3, .int (nI (dg f n pos))), (0, .ref r), (1, .int lo), (2, .int hi)]) (fun _ => [(r, .inr (4, [.ref t, .ref q, .int (nI pos)])), (t, .inr (6, [.ref b, .int (nI n)])), (b, .inl (ay 0, 300, .inl f)), (q, .inr (3, [.ref le, .ref nu, .int (nI cn), .ref ls, .ref lt, .int (nI op)])), (le, .inl (ay 0, 200, .inl L)), (nu, .inl (ay 0, 200, .inl M)), (ls, .inl (ay 0, 4, .inl S)), (lt, .inl (ay 0, 4, .inl T))]) 0 (Nat.zero_le _) rfl rfl (fun i hi9 ih => ?_)
      refine j_iload F 0 dX4_readNumber_23 rfl ?_
      refine j_iload_n F 2 dX4_readNumber_25 rfl ?_
      refine j_icmp_ge F 60 dX4_readNumber_26 (by decide) (fun c_26 => ?_) (fun c_26 => ?_)
      · skip
        have n_26 := (n_le (dg f n pos) i rfl rfl (by omega) (by omega)).mp c_26
        have hid : i = dg f n pos := by omega
        subst hid
        refine j_iload F 1 dX4_readNumber_60 rfl ?_
        refine j_iload_n F 4 dX4_readNumber_62 rfl ?_
        refine j_icmp_lt F 72 dX4_readNumber_63 (by decide) (fun c_63 => ?_) (fun c_63 => ?_)
        · skip
          have hv1 : vl f pos (dg f n pos) < lo := c_63
          refine j_iconst F (v := (-1)) dX4_readNumber_72 (by decide) ?_
          exact j_iret F ⟨by rw [if_neg (fun h => h.2.1 hv1)], by rw [if_neg (fun h => h.2.1 hv1)]⟩ dX4_readNumber_73 (Nat.le_of_ble_eq_true rfl) (Nat.le_of_ble_eq_true rfl)
        · skip
          refine j_iload F 1 dX4_readNumber_66 rfl ?_
          refine j_iload_n F 5 dX4_readNumber_68 rfl ?_
          refine j_icmp_le F 74 dX4_readNumber_69 (by decide) (fun c_69 => ?_) (fun c_69 => ?_)
          · skip
            have hok : rdOK f n pos lo hi := ⟨⟨by omega, by omega⟩, c_63, Int32.not_lt.mpr c_69⟩
            refine j_aload_n F 3 dX4_readNumber_74 rfl ?_
            refine j_iload_n F 2 dX4_readNumber_75 rfl ?_
            refine j_callV F kX4_32 (As := [.int (nI (dg f n pos))]) (rest := []) (c_X4_pass l D ay r t q pos b n f le nu ls lt cn L M S T op (dg f n pos) hn (by omega)) 0 [0, 1, 2, 3, 4, 5, 6, 7] [] [] rfl rfl rfl rfl rfl rfl rfl ⟨Nat.le_of_ble_eq_true rfl, Nat.le_of_ble_eq_true rfl⟩ dX4_readNumber_76 (fun v w hw => ?_)
            obtain ⟨rfl, rfl⟩ := hw
            refine j_perm [0, 1, 2, 3, 4, 5, 6, 7] [(r, .inr (4, [.ref t, .ref q, .int (nI (sk f n (pos + (dg f n pos))))])), (t, .inr (6, [.ref b, .int (nI n)])), (b, .inl (ay 0, 300, .inl f)), (q, .inr (3, [.ref le, .ref nu, .int (nI cn), .ref ls, .ref lt, .int (nI op)])), (le, .inl (ay 0, 200, .inl L)), (nu, .inl (ay 0, 200, .inl M)), (ls, .inl (ay 0, 4, .inl S)), (lt, .inl (ay 0, 4, .inl T))] rfl rfl ?_
            refine j_iload F 1 dX4_readNumber_79 rfl ?_
            exact j_iret F ⟨by rw [if_pos hok], by rw [if_pos hok]⟩ dX4_readNumber_81 (Nat.le_of_ble_eq_true rfl) (Nat.le_of_ble_eq_true rfl)
          · skip
            have hv2 : hi < vl f pos (dg f n pos) := Int32.not_le.mp c_69
            refine j_iconst F (v := (-1)) dX4_readNumber_72 (by decide) ?_
            exact j_iret F ⟨by rw [if_neg (fun h => h.2.2 hv2)], by rw [if_neg (fun h => h.2.2 hv2)]⟩ dX4_readNumber_73 (Nat.le_of_ble_eq_true rfl) (Nat.le_of_ble_eq_true rfl)
      · skip
        have n_26 := mt (n_le (dg f n pos) i rfl rfl (by omega) (by omega)).mpr c_26
        refine j_bipush F (v := 10) dX4_readNumber_29 (by decide) ?_
        refine j_iload F 1 dX4_readNumber_31 rfl ?_
        refine j_imul F dX4_readNumber_33 ?_
        refine j_aload_n F 3 dX4_readNumber_34 rfl ?_
        refine j_getf F fX4_12 0 rfl rfl dX4_readNumber_35 ?_
        refine j_aload_n F 3 dX4_readNumber_38 rfl ?_
        refine j_getf F fX4_25 0 rfl rfl dX4_readNumber_39 ?_
        refine j_iload F 0 dX4_readNumber_42 rfl ?_
        refine j_iadd F dX4_readNumber_44 ?_
        refine j_top (nI (pos + i)) (nI_add _ _) ?_
        refine j_callV F kX4_47 (As := [.int (nI (pos + i))]) (rest := [.int (10 * vl f pos i)]) (c_X6_byteIn l D ay t b n f (pos + i) (by first | assumption | omega) (by first | assumption | omega)) 1 [1, 2] [0, 3, 4, 5, 6, 7] [(r, .inr (4, [.ref t, .ref q, .int (nI pos)])), (q, .inr (3, [.ref le, .ref nu, .int (nI cn), .ref ls, .ref lt, .int (nI op)])), (le, .inl (ay 0, 200, .inl L)), (nu, .inl (ay 0, 200, .inl M)), (ls, .inl (ay 0, 4, .inl S)), (lt, .inl (ay 0, 4, .inl T))] rfl rfl rfl rfl rfl rfl rfl ⟨Nat.le_of_ble_eq_true rfl, Nat.le_of_ble_eq_true rfl⟩ dX4_readNumber_45 (fun v w hw => ?_)
        obtain ⟨rfl, rfl⟩ := hw
        refine j_perm [0, 6, 7, 1, 2, 3, 4, 5] [(r, .inr (4, [.ref t, .ref q, .int (nI pos)])), (t, .inr (6, [.ref b, .int (nI n)])), (b, .inl (ay 0, 300, .inl f)), (q, .inr (3, [.ref le, .ref nu, .int (nI cn), .ref ls, .ref lt, .int (nI op)])), (le, .inl (ay 0, 200, .inl L)), (nu, .inl (ay 0, 200, .inl M)), (ls, .inl (ay 0, 4, .inl S)), (lt, .inl (ay 0, 4, .inl T))] rfl rfl ?_
        refine j_top (f (pos + i)) (if_pos (by omega)) ?_
        refine j_iadd F dX4_readNumber_48 ?_
        refine j_bipush F (v := 48) dX4_readNumber_49 (by decide) ?_
        refine j_isub F dX4_readNumber_51 ?_
        refine j_top (vl f pos (i + 1)) rfl ?_
        refine j_istore F 4 [(4, .int (vl f pos (i + 1))), (5, .int (nI i)), (3, .int (nI (dg f n pos))), (0, .ref r), (1, .int lo), (2, .int hi)] dX4_readNumber_52 (by decide) rfl ?_
        refine j_iinc F 1 (nI (i + 1)) [(5, .int (nI (i + 1))), (4, .int (vl f pos (i + 1))), (3, .int (nI (dg f n pos))), (0, .ref r), (1, .int lo), (2, .int hi)] dX4_readNumber_54 rfl (nI_1 _) (by decide) rfl ?_
        refine j_goto F 23 dX4_readNumber_57 (by decide) ?_
        refine j_sub [0, 1, 2, 3, 4, 5] [(5, .int (nI (i + 1))), (4, .int (vl f pos (i + 1))), (3, .int (nI (dg f n pos))), (0, .ref r), (1, .int lo), (2, .int hi)] rfl ?_
        exact ih (i + 1) (by omega) (by show dg f n pos - (i + 1) < dg f n pos - i; omega)
    · skip
      have n_12 := mt (n_le (dg f n pos) 3 rfl rfl (by omega) (by omega)).mpr c_12
      refine j_iconst F (v := (-1)) dX4_readNumber_15 (by decide) ?_
      exact j_iret F ⟨by rw [if_neg (fun h => absurd h.1.2 (by omega))], by rw [if_neg (fun h => absurd h.1.2 (by omega))]⟩ dX4_readNumber_16 (Nat.le_of_ble_eq_true rfl) (Nat.le_of_ble_eq_true rfl)

set_option maxHeartbeats 4000000 in
set_option maxRecDepth 100000 in
theorem c_X4_readSign (l : Launch) (D : va_G) (ay : Nat → ClassId) (r : Nat) (t : Nat) (q : Nat) (pos : Nat) (b : Nat) (n : Nat) (f : Nat → Int32) (le : Nat) (nu : Nat) (ls : Nat) (lt : Nat) (cn : Nat) (L : Nat → Int32) (M : Nat → Int32) (S : Nat → Int32) (T : Nat → Int32) (op : Nat) (x : Int32) (hn : n ≤ 300) (hp : pos ≤ n) : jM l yX4_readSign (jws yX4_readSign cX4_readSign 2 (some .boolean)) 2 42 0 0 D ay [.ref r, .int x] [(r, .inr (4, [.ref t, .ref q, .int (nI pos)])), (t, .inr (6, [.ref b, .int (nI n)])), (b, .inl (ay 0, 300, .inl f)), (q, .inr (3, [.ref le, .ref nu, .int (nI cn), .ref ls, .ref lt, .int (nI op)])), (le, .inl (ay 0, 200, .inl L)), (nu, .inl (ay 0, 200, .inl M)), (ls, .inl (ay 0, 4, .inl S)), (lt, .inl (ay 0, 4, .inl T))] (fun v w => v = some (.int (if btA f n pos = x then 1 else 0)) ∧ w = [(r, .inr (4, [.ref t, .ref q, .int (nI (if btA f n pos = x then sk f n (pos + 1) else pos))])), (t, .inr (6, [.ref b, .int (nI n)])), (b, .inl (ay 0, 300, .inl f)), (q, .inr (3, [.ref le, .ref nu, .int (nI cn), .ref ls, .ref lt, .int (nI op)])), (le, .inl (ay 0, 200, .inl L)), (nu, .inl (ay 0, 200, .inl M)), (ls, .inl (ay 0, 4, .inl S)), (lt, .inl (ay 0, 4, .inl T))]) := by
  refine jM_of l (by decide) [(0, .ref r), (1, .int x)] rfl rfl (fun p9 e9 s9 m9 a9 b9 me9 c9 A9 F => ?_)
  refine j_aload_n F 0 dX4_readSign_0 rfl ?_
  refine j_getf F fX4_12 0 rfl rfl dX4_readSign_1 ?_
  refine j_aload_n F 0 dX4_readSign_4 rfl ?_
  refine j_getf F fX4_25 0 rfl rfl dX4_readSign_5 ?_
  refine j_callV F kX4_47 (As := [.int (nI pos)]) (rest := []) (c_X6_byteIn l D ay t b n f pos (by first | assumption | omega) (by first | assumption | omega)) 1 [1, 2] [0, 3, 4, 5, 6, 7] [(r, .inr (4, [.ref t, .ref q, .int (nI pos)])), (q, .inr (3, [.ref le, .ref nu, .int (nI cn), .ref ls, .ref lt, .int (nI op)])), (le, .inl (ay 0, 200, .inl L)), (nu, .inl (ay 0, 200, .inl M)), (ls, .inl (ay 0, 4, .inl S)), (lt, .inl (ay 0, 4, .inl T))] rfl rfl rfl rfl rfl rfl rfl ⟨Nat.le_of_ble_eq_true rfl, Nat.le_of_ble_eq_true rfl⟩ dX4_readSign_8 (fun v w hw => ?_)
  obtain ⟨rfl, rfl⟩ := hw
  refine j_perm [0, 6, 7, 1, 2, 3, 4, 5] [(r, .inr (4, [.ref t, .ref q, .int (nI pos)])), (t, .inr (6, [.ref b, .int (nI n)])), (b, .inl (ay 0, 300, .inl f)), (q, .inr (3, [.ref le, .ref nu, .int (nI cn), .ref ls, .ref lt, .int (nI op)])), (le, .inl (ay 0, 200, .inl L)), (nu, .inl (ay 0, 200, .inl M)), (ls, .inl (ay 0, 4, .inl S)), (lt, .inl (ay 0, 4, .inl T))] rfl rfl ?_
  refine j_iload_n F 1 dX4_readSign_11 rfl ?_
  refine j_icmp_eq F 17 dX4_readSign_12 (by decide) (fun c_12 => ?_) (fun c_12 => ?_)
  · skip
    refine j_aload_n F 0 dX4_readSign_17 rfl ?_
    refine j_iconst F (v := 1) dX4_readSign_18 (by decide) ?_
    refine j_callV F kX4_32 (As := [.int 1]) (rest := []) (c_X4_pass l D ay r t q pos b n f le nu ls lt cn L M S T op 1 hn (by omega)) 0 [0, 1, 2, 3, 4, 5, 6, 7] [] [] rfl rfl rfl rfl rfl rfl rfl ⟨Nat.le_of_ble_eq_true rfl, Nat.le_of_ble_eq_true rfl⟩ dX4_readSign_19 (fun v w hw => ?_)
    obtain ⟨rfl, rfl⟩ := hw
    refine j_perm [0, 1, 2, 3, 4, 5, 6, 7] [(r, .inr (4, [.ref t, .ref q, .int (nI (sk f n (pos + 1)))])), (t, .inr (6, [.ref b, .int (nI n)])), (b, .inl (ay 0, 300, .inl f)), (q, .inr (3, [.ref le, .ref nu, .int (nI cn), .ref ls, .ref lt, .int (nI op)])), (le, .inl (ay 0, 200, .inl L)), (nu, .inl (ay 0, 200, .inl M)), (ls, .inl (ay 0, 4, .inl S)), (lt, .inl (ay 0, 4, .inl T))] rfl rfl ?_
    refine j_iconst F (v := 1) dX4_readSign_22 (by decide) ?_
    exact j_zret F (Or.inr rfl) ⟨by rw [if_pos c_12], by rw [if_pos c_12]⟩ dX4_readSign_23 (Nat.le_of_ble_eq_true rfl) (Nat.le_of_ble_eq_true rfl)
  · skip
    refine j_iconst F (v := 0) dX4_readSign_15 (by decide) ?_
    exact j_zret F (Or.inl rfl) ⟨by rw [if_neg c_12], by rw [if_neg c_12]⟩ dX4_readSign_16 (Nat.le_of_ble_eq_true rfl) (Nat.le_of_ble_eq_true rfl)

set_option maxHeartbeats 4000000 in
set_option maxRecDepth 100000 in
theorem c_X4_readStep (l : Launch) (D : va_G) (ay : Nat → ClassId) (r : Nat) (t : Nat) (q : Nat) (pos : Nat) (b : Nat) (n : Nat) (f : Nat → Int32) (le : Nat) (nu : Nat) (ls : Nat) (lt : Nat) (cn : Nat) (L : Nat → Int32) (M : Nat → Int32) (S : Nat → Int32) (T : Nat → Int32) (op : Nat) (hi : Int32) (hn : n ≤ 300) (hp : pos < n) (hc : cn ≤ 200) : jM l yX4_readStep (jws yX4_readStep cX4_readStep 4 (some .boolean)) 3 67 0 0 D ay [.ref r, .int hi] [(r, .inr (4, [.ref t, .ref q, .int (nI pos)])), (t, .inr (6, [.ref b, .int (nI n)])), (b, .inl (ay 0, 300, .inl f)), (q, .inr (3, [.ref le, .ref nu, .int (nI cn), .ref ls, .ref lt, .int (nI op)])), (le, .inl (ay 0, 200, .inl L)), (nu, .inl (ay 0, 200, .inl M)), (ls, .inl (ay 0, 4, .inl S)), (lt, .inl (ay 0, 4, .inl T))] (fun v w => v = some (.int (if rdOK f n (sk f n (pos + 1)) 0 hi ∧ btA f n (sk f n (sk f n (pos + 1) + dg f n (sk f n (pos + 1)))) = 59 then 1 else 0)) ∧ w = [(r, .inr (4, [.ref t, .ref q, .int (nI (if rdOK f n (sk f n (pos + 1)) 0 hi then (if btA f n (sk f n (sk f n (pos + 1) + dg f n (sk f n (pos + 1)))) = 59 then sk f n (sk f n (sk f n (pos + 1) + dg f n (sk f n (pos + 1))) + 1) else sk f n (sk f n (pos + 1) + dg f n (sk f n (pos + 1)))) else sk f n (pos + 1)))])), (t, .inr (6, [.ref b, .int (nI n)])), (b, .inl (ay 0, 300, .inl f)), (q, .inr (3, [.ref le, .ref nu, .int (nI (if rdOK f n (sk f n (pos + 1)) 0 hi ∧ btA f n (sk f n (sk f n (pos + 1) + dg f n (sk f n (pos + 1)))) = 59 then adN cn else cn)), .ref ls, .ref lt, .int (nI op)])), (le, .inl (ay 0, 200, .inl (if rdOK f n (sk f n (pos + 1)) 0 hi ∧ btA f n (sk f n (sk f n (pos + 1) + dg f n (sk f n (pos + 1)))) = 59 then adF L cn (f pos) else L))), (nu, .inl (ay 0, 200, .inl (if rdOK f n (sk f n (pos + 1)) 0 hi ∧ btA f n (sk f n (sk f n (pos + 1) + dg f n (sk f n (pos + 1)))) = 59 then adF M cn (vl f (sk f n (pos + 1)) (dg f n (sk f n (pos + 1)))) else M))), (ls, .inl (ay 0, 4, .inl S)), (lt, .inl (ay 0, 4, .inl T))]) := by
  refine jM_of l (by decide) [(0, .ref r), (1, .int hi)] rfl rfl (fun p9 e9 s9 m9 a9 b9 me9 c9 A9 F => ?_)
  have hs1 : sk f n (pos + 1) ≤ n := sk_le (by omega)
  have hd1 := dg_le (f := f) hs1
  have hs2 : sk f n (sk f n (pos + 1) + dg f n (sk f n (pos + 1))) ≤ n := sk_le hd1
  refine j_aload_n F 0 dX4_readStep_0 rfl ?_
  refine j_getf F fX4_12 0 rfl rfl dX4_readStep_1 ?_
  refine j_aload_n F 0 dX4_readStep_4 rfl ?_
  refine j_getf F fX4_25 0 rfl rfl dX4_readStep_5 ?_
  refine j_callV F kX4_47 (As := [.int (nI pos)]) (rest := []) (c_X6_byteIn l D ay t b n f pos (by first | assumption | omega) (by first | assumption | omega)) 1 [1, 2] [0, 3, 4, 5, 6, 7] [(r, .inr (4, [.ref t, .ref q, .int (nI pos)])), (q, .inr (3, [.ref le, .ref nu, .int (nI cn), .ref ls, .ref lt, .int (nI op)])), (le, .inl (ay 0, 200, .inl L)), (nu, .inl (ay 0, 200, .inl M)), (ls, .inl (ay 0, 4, .inl S)), (lt, .inl (ay 0, 4, .inl T))] rfl rfl rfl rfl rfl rfl rfl ⟨Nat.le_of_ble_eq_true rfl, Nat.le_of_ble_eq_true rfl⟩ dX4_readStep_8 (fun v w hw => ?_)
  obtain ⟨rfl, rfl⟩ := hw
  refine j_perm [0, 6, 7, 1, 2, 3, 4, 5] [(r, .inr (4, [.ref t, .ref q, .int (nI pos)])), (t, .inr (6, [.ref b, .int (nI n)])), (b, .inl (ay 0, 300, .inl f)), (q, .inr (3, [.ref le, .ref nu, .int (nI cn), .ref ls, .ref lt, .int (nI op)])), (le, .inl (ay 0, 200, .inl L)), (nu, .inl (ay 0, 200, .inl M)), (ls, .inl (ay 0, 4, .inl S)), (lt, .inl (ay 0, 4, .inl T))] rfl rfl ?_
  refine j_top (f pos) (if_pos hp) ?_
  refine j_istore_n F 2 [(2, .int (f pos)), (0, .ref r), (1, .int hi)] dX4_readStep_11 rfl (by decide) rfl ?_
  refine j_aload_n F 1 dX4_readStep_12 rfl ?_
  refine j_iconst F (v := 1) dX4_readStep_13 (by decide) ?_
  refine j_callV F kX4_32 (As := [.int 1]) (rest := []) (c_X4_pass l D ay r t q pos b n f le nu ls lt cn L M S T op 1 hn (by omega)) 0 [0, 1, 2, 3, 4, 5, 6, 7] [] [] rfl rfl rfl rfl rfl rfl rfl ⟨Nat.le_of_ble_eq_true rfl, Nat.le_of_ble_eq_true rfl⟩ dX4_readStep_14 (fun v w hw => ?_)
  obtain ⟨rfl, rfl⟩ := hw
  refine j_perm [0, 1, 2, 3, 4, 5, 6, 7] [(r, .inr (4, [.ref t, .ref q, .int (nI (sk f n (pos + 1)))])), (t, .inr (6, [.ref b, .int (nI n)])), (b, .inl (ay 0, 300, .inl f)), (q, .inr (3, [.ref le, .ref nu, .int (nI cn), .ref ls, .ref lt, .int (nI op)])), (le, .inl (ay 0, 200, .inl L)), (nu, .inl (ay 0, 200, .inl M)), (ls, .inl (ay 0, 4, .inl S)), (lt, .inl (ay 0, 4, .inl T))] rfl rfl ?_
  refine j_aload_n F 1 dX4_readStep_17 rfl ?_
  refine j_iconst F (v := 0) dX4_readStep_18 (by decide) ?_
  refine j_iload_n F 2 dX4_readStep_19 rfl ?_
  refine j_callV F kX4_61 (As := [.int 0, .int hi]) (rest := []) (c_X4_readNumber l D ay r t q (sk f n (pos + 1)) b n f le nu ls lt cn L M S T op 0 hi hn hs1) 0 [0, 1, 2, 3, 4, 5, 6, 7] [] [] rfl rfl rfl rfl rfl rfl rfl ⟨Nat.le_of_ble_eq_true rfl, Nat.le_of_ble_eq_true rfl⟩ dX4_readStep_20 (fun v w hw => ?_)
  obtain ⟨rfl, rfl⟩ := hw
  refine j_perm [0, 1, 2, 3, 4, 5, 6, 7] [(r, .inr (4, [.ref t, .ref q, .int (nI (if rdOK f n (sk f n (pos + 1)) 0 hi then sk f n ((sk f n (pos + 1)) + dg f n (sk f n (pos + 1))) else (sk f n (pos + 1))))])), (t, .inr (6, [.ref b, .int (nI n)])), (b, .inl (ay 0, 300, .inl f)), (q, .inr (3, [.ref le, .ref nu, .int (nI cn), .ref ls, .ref lt, .int (nI op)])), (le, .inl (ay 0, 200, .inl L)), (nu, .inl (ay 0, 200, .inl M)), (ls, .inl (ay 0, 4, .inl S)), (lt, .inl (ay 0, 4, .inl T))] rfl rfl ?_
  by_cases h1 : rdOK f n (sk f n (pos + 1)) 0 hi
  · skip
    refine j_top (vl f (sk f n (pos + 1)) (dg f n (sk f n (pos + 1)))) (if_pos h1) ?_
    refine j_ws [(r, .inr (4, [.ref t, .ref q, .int (nI (sk f n (sk f n (pos + 1) + dg f n (sk f n (pos + 1)))))])), (t, .inr (6, [.ref b, .int (nI n)])), (b, .inl (ay 0, 300, .inl f)), (q, .inr (3, [.ref le, .ref nu, .int (nI cn), .ref ls, .ref lt, .int (nI op)])), (le, .inl (ay 0, 200, .inl L)), (nu, .inl (ay 0, 200, .inl M)), (ls, .inl (ay 0, 4, .inl S)), (lt, .inl (ay 0, 4, .inl T))] (by simp only [if_pos h1]) ?_
    refine j_istore_n F 3 [(3, .int (vl f (sk f n (pos + 1)) (dg f n (sk f n (pos + 1))))), (2, .int (f pos)), (0, .ref r), (1, .int hi)] dX4_readStep_23 rfl (by decide) rfl ?_
    refine j_iload_n F 0 dX4_readStep_24 rfl ?_
    refine j_iconst F (v := (-1)) dX4_readStep_25 (by decide) ?_
    refine j_icmp_eq F 38 dX4_readStep_26 (by decide) (fun c_26 => absurd c_26 (fun e9 => h1.2.1 (by rw [e9]; decide))) (fun c_26 => ?_)
    refine j_aload_n F 2 dX4_readStep_29 rfl ?_
    refine j_bipush F (v := 59) dX4_readStep_30 (by decide) ?_
    refine j_callV F kX4_65 (As := [.int 59]) (rest := []) (c_X4_readSign l D ay r t q (sk f n (sk f n (pos + 1) + dg f n (sk f n (pos + 1)))) b n f le nu ls lt cn L M S T op 59 hn hs2) 0 [0, 1, 2, 3, 4, 5, 6, 7] [] [] rfl rfl rfl rfl rfl rfl rfl ⟨Nat.le_of_ble_eq_true rfl, Nat.le_of_ble_eq_true rfl⟩ dX4_readStep_32 (fun v w hw => ?_)
    obtain ⟨rfl, rfl⟩ := hw
    refine j_perm [0, 1, 2, 3, 4, 5, 6, 7] [(r, .inr (4, [.ref t, .ref q, .int (nI (if btA f n (sk f n (sk f n (pos + 1) + dg f n (sk f n (pos + 1)))) = 59 then sk f n ((sk f n (sk f n (pos + 1) + dg f n (sk f n (pos + 1)))) + 1) else (sk f n (sk f n (pos + 1) + dg f n (sk f n (pos + 1))))))])), (t, .inr (6, [.ref b, .int (nI n)])), (b, .inl (ay 0, 300, .inl f)), (q, .inr (3, [.ref le, .ref nu, .int (nI cn), .ref ls, .ref lt, .int (nI op)])), (le, .inl (ay 0, 200, .inl L)), (nu, .inl (ay 0, 200, .inl M)), (ls, .inl (ay 0, 4, .inl S)), (lt, .inl (ay 0, 4, .inl T))] rfl rfl ?_
    by_cases h2 : btA f n (sk f n (sk f n (pos + 1) + dg f n (sk f n (pos + 1)))) = 59
    · skip
      refine j_top 1 (if_pos h2) ?_
      refine j_ws [(r, .inr (4, [.ref t, .ref q, .int (nI (sk f n (sk f n (sk f n (pos + 1) + dg f n (sk f n (pos + 1))) + 1)))])), (t, .inr (6, [.ref b, .int (nI n)])), (b, .inl (ay 0, 300, .inl f)), (q, .inr (3, [.ref le, .ref nu, .int (nI cn), .ref ls, .ref lt, .int (nI op)])), (le, .inl (ay 0, 200, .inl L)), (nu, .inl (ay 0, 200, .inl M)), (ls, .inl (ay 0, 4, .inl S)), (lt, .inl (ay 0, 4, .inl T))] (by simp only [if_pos h2]) ?_
      refine j_if_ne F 40 dX4_readStep_35 (by decide) (fun c_35 => ?_) (fun c_35 => absurd c_35 (by decide))
      refine j_aload_n F 2 dX4_readStep_40 rfl ?_
      refine j_getf F fX4_21 0 rfl rfl dX4_readStep_41 ?_
      refine j_iload_n F 1 dX4_readStep_44 rfl ?_
      refine j_iload_n F 0 dX4_readStep_45 rfl ?_
      refine j_callV F kX4_68 (As := [.int (f pos), .int (vl f (sk f n (pos + 1)) (dg f n (sk f n (pos + 1))))]) (rest := []) (c_X3_addStep l D ay q le nu ls lt cn L M S T op (f pos) (vl f (sk f n (pos + 1)) (dg f n (sk f n (pos + 1)))) hc) 3 [3, 4, 5, 6, 7] [0, 1, 2] [(r, .inr (4, [.ref t, .ref q, .int (nI (sk f n (sk f n (sk f n (pos + 1) + dg f n (sk f n (pos + 1))) + 1)))])), (t, .inr (6, [.ref b, .int (nI n)])), (b, .inl (ay 0, 300, .inl f))] rfl rfl rfl rfl rfl rfl rfl ⟨Nat.le_of_ble_eq_true rfl, Nat.le_of_ble_eq_true rfl⟩ dX4_readStep_46 (fun v w hw => ?_)
      obtain ⟨rfl, rfl⟩ := hw
      refine j_perm [0, 1, 2, 3, 4, 5, 6, 7] [(r, .inr (4, [.ref t, .ref q, .int (nI (sk f n (sk f n (sk f n (pos + 1) + dg f n (sk f n (pos + 1))) + 1)))])), (t, .inr (6, [.ref b, .int (nI n)])), (b, .inl (ay 0, 300, .inl f)), (q, .inr (3, [.ref le, .ref nu, .int (nI (adN cn)), .ref ls, .ref lt, .int (nI op)])), (le, .inl (ay 0, 200, .inl (adF L cn (f pos)))), (nu, .inl (ay 0, 200, .inl (adF M cn (vl f (sk f n (pos + 1)) (dg f n (sk f n (pos + 1))))))), (ls, .inl (ay 0, 4, .inl S)), (lt, .inl (ay 0, 4, .inl T))] rfl rfl ?_
      refine j_iconst F (v := 1) dX4_readStep_49 (by decide) ?_
      exact j_zret F (Or.inr rfl) ⟨by rw [if_pos ⟨h1, h2⟩], by simp only [if_pos h1, if_pos h2, if_pos (show rdOK f n (sk f n (pos + 1)) 0 hi ∧ btA f n (sk f n (sk f n (pos + 1) + dg f n (sk f n (pos + 1)))) = 59 from ⟨h1, h2⟩)]⟩ dX4_readStep_50 (Nat.le_of_ble_eq_true rfl) (Nat.le_of_ble_eq_true rfl)
    · skip
      refine j_top 0 (if_neg h2) ?_
      refine j_ws [(r, .inr (4, [.ref t, .ref q, .int (nI (sk f n (sk f n (pos + 1) + dg f n (sk f n (pos + 1)))))])), (t, .inr (6, [.ref b, .int (nI n)])), (b, .inl (ay 0, 300, .inl f)), (q, .inr (3, [.ref le, .ref nu, .int (nI cn), .ref ls, .ref lt, .int (nI op)])), (le, .inl (ay 0, 200, .inl L)), (nu, .inl (ay 0, 200, .inl M)), (ls, .inl (ay 0, 4, .inl S)), (lt, .inl (ay 0, 4, .inl T))] (by simp only [if_neg h2]) ?_
      refine j_if_ne F 40 dX4_readStep_35 (by decide) (fun c_35 => absurd (by decide) c_35) (fun c_35 => ?_)
      refine j_iconst F (v := 0) dX4_readStep_38 (by decide) ?_
      exact j_zret F (Or.inl rfl) ⟨by rw [if_neg (fun h => h2 h.2)], by simp only [if_pos h1, if_neg h2, if_neg (show ¬ (rdOK f n (sk f n (pos + 1)) 0 hi ∧ btA f n (sk f n (sk f n (pos + 1) + dg f n (sk f n (pos + 1)))) = 59) from fun h => h2 h.2)]⟩ dX4_readStep_39 (Nat.le_of_ble_eq_true rfl) (Nat.le_of_ble_eq_true rfl)
  · skip
    refine j_top (-1) (if_neg h1) ?_
    refine j_ws [(r, .inr (4, [.ref t, .ref q, .int (nI (sk f n (pos + 1)))])), (t, .inr (6, [.ref b, .int (nI n)])), (b, .inl (ay 0, 300, .inl f)), (q, .inr (3, [.ref le, .ref nu, .int (nI cn), .ref ls, .ref lt, .int (nI op)])), (le, .inl (ay 0, 200, .inl L)), (nu, .inl (ay 0, 200, .inl M)), (ls, .inl (ay 0, 4, .inl S)), (lt, .inl (ay 0, 4, .inl T))] (by simp only [if_neg h1]) ?_
    refine j_istore_n F 3 [(3, .int (-1)), (2, .int (f pos)), (0, .ref r), (1, .int hi)] dX4_readStep_23 rfl (by decide) rfl ?_
    refine j_iload_n F 0 dX4_readStep_24 rfl ?_
    refine j_iconst F (v := (-1)) dX4_readStep_25 (by decide) ?_
    refine j_icmp_eq F 38 dX4_readStep_26 (by decide) (fun c_26 => ?_) (fun c_26 => absurd rfl c_26)
    refine j_iconst F (v := 0) dX4_readStep_38 (by decide) ?_
    exact j_zret F (Or.inl rfl) ⟨by rw [if_neg (fun h => h1 h.1)], by simp only [if_neg h1, if_neg (show ¬ (rdOK f n (sk f n (pos + 1)) 0 hi ∧ btA f n (sk f n (sk f n (pos + 1) + dg f n (sk f n (pos + 1)))) = 59) from fun h => h1 h.1)]⟩ dX4_readStep_39 (Nat.le_of_ble_eq_true rfl) (Nat.le_of_ble_eq_true rfl)

set_option maxHeartbeats 4000000 in
set_option maxRecDepth 100000 in
theorem c_X4_readLoopStart (l : Launch) (D : va_G) (ay : Nat → ClassId) (r : Nat) (t : Nat) (q : Nat) (pos : Nat) (b : Nat) (n : Nat) (f : Nat → Int32) (le : Nat) (nu : Nat) (ls : Nat) (lt : Nat) (cn : Nat) (L : Nat → Int32) (M : Nat → Int32) (S : Nat → Int32) (T : Nat → Int32) (op : Nat) (hn : n ≤ 300) (hp : pos < n) (ho : op ≤ 4) : jM l yX4_readLoopStart (jws yX4_readLoopStart cX4_readLoopStart 2 (some .boolean)) 3 67 0 0 D ay [.ref r] [(r, .inr (4, [.ref t, .ref q, .int (nI pos)])), (t, .inr (6, [.ref b, .int (nI n)])), (b, .inl (ay 0, 300, .inl f)), (q, .inr (3, [.ref le, .ref nu, .int (nI cn), .ref ls, .ref lt, .int (nI op)])), (le, .inl (ay 0, 200, .inl L)), (nu, .inl (ay 0, 200, .inl M)), (ls, .inl (ay 0, 4, .inl S)), (lt, .inl (ay 0, 4, .inl T))] (fun v w => v = some (.int (if rdOK f n (sk f n (pos + 1)) 1 9 ∧ op < 4 ∧ btA f n (sk f n (sk f n (pos + 1) + dg f n (sk f n (pos + 1)))) = 123 then 1 else 0)) ∧ w = [(r, .inr (4, [.ref t, .ref q, .int (nI (if rdOK f n (sk f n (pos + 1)) 1 9 then (if op < 4 ∧ btA f n (sk f n (sk f n (pos + 1) + dg f n (sk f n (pos + 1)))) = 123 then sk f n (sk f n (sk f n (pos + 1) + dg f n (sk f n (pos + 1))) + 1) else sk f n (sk f n (pos + 1) + dg f n (sk f n (pos + 1)))) else sk f n (pos + 1)))])), (t, .inr (6, [.ref b, .int (nI n)])), (b, .inl (ay 0, 300, .inl f)), (q, .inr (3, [.ref le, .ref nu, .int (nI cn), .ref ls, .ref lt, .int (nI (if rdOK f n (sk f n (pos + 1)) 1 9 ∧ op < 4 ∧ btA f n (sk f n (sk f n (pos + 1) + dg f n (sk f n (pos + 1)))) = 123 then op + 1 else op))])), (le, .inl (ay 0, 200, .inl L)), (nu, .inl (ay 0, 200, .inl M)), (ls, .inl (ay 0, 4, .inl (if rdOK f n (sk f n (pos + 1)) 1 9 ∧ op < 4 ∧ btA f n (sk f n (sk f n (pos + 1) + dg f n (sk f n (pos + 1)))) = 123 then upd S op (nI cn) else S))), (lt, .inl (ay 0, 4, .inl (if rdOK f n (sk f n (pos + 1)) 1 9 ∧ op < 4 ∧ btA f n (sk f n (sk f n (pos + 1) + dg f n (sk f n (pos + 1)))) = 123 then upd T op (vl f (sk f n (pos + 1)) (dg f n (sk f n (pos + 1)))) else T)))]) := by
  refine jM_of l (by decide) [(0, .ref r)] rfl rfl (fun p9 e9 s9 m9 a9 b9 me9 c9 A9 F => ?_)
  have hs1 : sk f n (pos + 1) ≤ n := sk_le (by omega)
  have hd1 := dg_le (f := f) hs1
  have hs2 : sk f n (sk f n (pos + 1) + dg f n (sk f n (pos + 1))) ≤ n := sk_le hd1
  refine j_aload_n F 0 dX4_readLoopStart_0 rfl ?_
  refine j_iconst F (v := 1) dX4_readLoopStart_1 (by decide) ?_
  refine j_callV F kX4_32 (As := [.int 1]) (rest := []) (c_X4_pass l D ay r t q pos b n f le nu ls lt cn L M S T op 1 hn (by omega)) 0 [0, 1, 2, 3, 4, 5, 6, 7] [] [] rfl rfl rfl rfl rfl rfl rfl ⟨Nat.le_of_ble_eq_true rfl, Nat.le_of_ble_eq_true rfl⟩ dX4_readLoopStart_2 (fun v w hw => ?_)
  obtain ⟨rfl, rfl⟩ := hw
  refine j_perm [0, 1, 2, 3, 4, 5, 6, 7] [(r, .inr (4, [.ref t, .ref q, .int (nI (sk f n (pos + 1)))])), (t, .inr (6, [.ref b, .int (nI n)])), (b, .inl (ay 0, 300, .inl f)), (q, .inr (3, [.ref le, .ref nu, .int (nI cn), .ref ls, .ref lt, .int (nI op)])), (le, .inl (ay 0, 200, .inl L)), (nu, .inl (ay 0, 200, .inl M)), (ls, .inl (ay 0, 4, .inl S)), (lt, .inl (ay 0, 4, .inl T))] rfl rfl ?_
  refine j_aload_n F 0 dX4_readLoopStart_5 rfl ?_
  refine j_iconst F (v := 1) dX4_readLoopStart_6 (by decide) ?_
  refine j_bipush F (v := 9) dX4_readLoopStart_7 (by decide) ?_
  refine j_callV F kX4_61 (As := [.int 1, .int 9]) (rest := []) (c_X4_readNumber l D ay r t q (sk f n (pos + 1)) b n f le nu ls lt cn L M S T op 1 9 hn hs1) 0 [0, 1, 2, 3, 4, 5, 6, 7] [] [] rfl rfl rfl rfl rfl rfl rfl ⟨Nat.le_of_ble_eq_true rfl, Nat.le_of_ble_eq_true rfl⟩ dX4_readLoopStart_9 (fun v w hw => ?_)
  obtain ⟨rfl, rfl⟩ := hw
  refine j_perm [0, 1, 2, 3, 4, 5, 6, 7] [(r, .inr (4, [.ref t, .ref q, .int (nI (if rdOK f n (sk f n (pos + 1)) 1 9 then sk f n ((sk f n (pos + 1)) + dg f n (sk f n (pos + 1))) else (sk f n (pos + 1))))])), (t, .inr (6, [.ref b, .int (nI n)])), (b, .inl (ay 0, 300, .inl f)), (q, .inr (3, [.ref le, .ref nu, .int (nI cn), .ref ls, .ref lt, .int (nI op)])), (le, .inl (ay 0, 200, .inl L)), (nu, .inl (ay 0, 200, .inl M)), (ls, .inl (ay 0, 4, .inl S)), (lt, .inl (ay 0, 4, .inl T))] rfl rfl ?_
  by_cases h1 : rdOK f n (sk f n (pos + 1)) 1 9
  · skip
    refine j_top (vl f (sk f n (pos + 1)) (dg f n (sk f n (pos + 1)))) (if_pos h1) ?_
    refine j_ws [(r, .inr (4, [.ref t, .ref q, .int (nI (sk f n (sk f n (pos + 1) + dg f n (sk f n (pos + 1)))))])), (t, .inr (6, [.ref b, .int (nI n)])), (b, .inl (ay 0, 300, .inl f)), (q, .inr (3, [.ref le, .ref nu, .int (nI cn), .ref ls, .ref lt, .int (nI op)])), (le, .inl (ay 0, 200, .inl L)), (nu, .inl (ay 0, 200, .inl M)), (ls, .inl (ay 0, 4, .inl S)), (lt, .inl (ay 0, 4, .inl T))] (by simp only [if_pos h1]) ?_
    refine j_istore_n F 1 [(1, .int (vl f (sk f n (pos + 1)) (dg f n (sk f n (pos + 1))))), (0, .ref r)] dX4_readLoopStart_12 rfl (by decide) rfl ?_
    refine j_iload_n F 0 dX4_readLoopStart_13 rfl ?_
    refine j_iconst F (v := (-1)) dX4_readLoopStart_14 (by decide) ?_
    refine j_icmp_eq F 37 dX4_readLoopStart_15 (by decide) (fun c_15 => absurd c_15 (fun e9 => h1.2.1 (by rw [e9]; decide))) (fun c_15 => ?_)
    refine j_aload_n F 1 dX4_readLoopStart_18 rfl ?_
    refine j_getf F fX4_21 0 rfl rfl dX4_readLoopStart_19 ?_
    refine j_callV F kX4_72 (As := []) (rest := []) (c_X3_canOpenLoop l D ay q le nu ls lt cn L M S T op ho) 3 [3, 4, 5, 6, 7] [0, 1, 2] [(r, .inr (4, [.ref t, .ref q, .int (nI (sk f n (sk f n (pos + 1) + dg f n (sk f n (pos + 1)))))])), (t, .inr (6, [.ref b, .int (nI n)])), (b, .inl (ay 0, 300, .inl f))] rfl rfl rfl rfl rfl rfl rfl ⟨Nat.le_of_ble_eq_true rfl, Nat.le_of_ble_eq_true rfl⟩ dX4_readLoopStart_22 (fun v w hw => ?_)
    obtain ⟨rfl, rfl⟩ := hw
    refine j_perm [0, 1, 2, 3, 4, 5, 6, 7] [(r, .inr (4, [.ref t, .ref q, .int (nI (sk f n (sk f n (pos + 1) + dg f n (sk f n (pos + 1)))))])), (t, .inr (6, [.ref b, .int (nI n)])), (b, .inl (ay 0, 300, .inl f)), (q, .inr (3, [.ref le, .ref nu, .int (nI cn), .ref ls, .ref lt, .int (nI op)])), (le, .inl (ay 0, 200, .inl L)), (nu, .inl (ay 0, 200, .inl M)), (ls, .inl (ay 0, 4, .inl S)), (lt, .inl (ay 0, 4, .inl T))] rfl rfl ?_
    by_cases h3 : op < 4
    · skip
      refine j_top 1 (if_pos h3) ?_
      refine j_if_eq F 37 dX4_readLoopStart_25 (by decide) (fun c_25 => absurd c_25 (by decide)) (fun c_25 => ?_)
      refine j_aload_n F 1 dX4_readLoopStart_28 rfl ?_
      refine j_bipush F (v := 123) dX4_readLoopStart_29 (by decide) ?_
      refine j_callV F kX4_65 (As := [.int 123]) (rest := []) (c_X4_readSign l D ay r t q (sk f n (sk f n (pos + 1) + dg f n (sk f n (pos + 1)))) b n f le nu ls lt cn L M S T op 123 hn hs2) 0 [0, 1, 2, 3, 4, 5, 6, 7] [] [] rfl rfl rfl rfl rfl rfl rfl ⟨Nat.le_of_ble_eq_true rfl, Nat.le_of_ble_eq_true rfl⟩ dX4_readLoopStart_31 (fun v w hw => ?_)
      obtain ⟨rfl, rfl⟩ := hw
      refine j_perm [0, 1, 2, 3, 4, 5, 6, 7] [(r, .inr (4, [.ref t, .ref q, .int (nI (if btA f n (sk f n (sk f n (pos + 1) + dg f n (sk f n (pos + 1)))) = 123 then sk f n ((sk f n (sk f n (pos + 1) + dg f n (sk f n (pos + 1)))) + 1) else (sk f n (sk f n (pos + 1) + dg f n (sk f n (pos + 1))))))])), (t, .inr (6, [.ref b, .int (nI n)])), (b, .inl (ay 0, 300, .inl f)), (q, .inr (3, [.ref le, .ref nu, .int (nI cn), .ref ls, .ref lt, .int (nI op)])), (le, .inl (ay 0, 200, .inl L)), (nu, .inl (ay 0, 200, .inl M)), (ls, .inl (ay 0, 4, .inl S)), (lt, .inl (ay 0, 4, .inl T))] rfl rfl ?_
      by_cases h2 : btA f n (sk f n (sk f n (pos + 1) + dg f n (sk f n (pos + 1)))) = 123
      · skip
        refine j_top 1 (if_pos h2) ?_
        refine j_ws [(r, .inr (4, [.ref t, .ref q, .int (nI (sk f n (sk f n (sk f n (pos + 1) + dg f n (sk f n (pos + 1))) + 1)))])), (t, .inr (6, [.ref b, .int (nI n)])), (b, .inl (ay 0, 300, .inl f)), (q, .inr (3, [.ref le, .ref nu, .int (nI cn), .ref ls, .ref lt, .int (nI op)])), (le, .inl (ay 0, 200, .inl L)), (nu, .inl (ay 0, 200, .inl M)), (ls, .inl (ay 0, 4, .inl S)), (lt, .inl (ay 0, 4, .inl T))] (by simp only [if_pos h2]) ?_
        refine j_if_ne F 39 dX4_readLoopStart_34 (by decide) (fun c_34 => ?_) (fun c_34 => absurd c_34 (by decide))
        refine j_aload_n F 1 dX4_readLoopStart_39 rfl ?_
        refine j_getf F fX4_21 0 rfl rfl dX4_readLoopStart_40 ?_
        refine j_iload_n F 0 dX4_readLoopStart_43 rfl ?_
        refine j_callV F kX4_75 (As := [.int (vl f (sk f n (pos + 1)) (dg f n (sk f n (pos + 1))))]) (rest := []) (c_X3_openLoop l D ay q le nu ls lt cn L M S T op (vl f (sk f n (pos + 1)) (dg f n (sk f n (pos + 1)))) h3) 3 [3, 4, 5, 6, 7] [0, 1, 2] [(r, .inr (4, [.ref t, .ref q, .int (nI (sk f n (sk f n (sk f n (pos + 1) + dg f n (sk f n (pos + 1))) + 1)))])), (t, .inr (6, [.ref b, .int (nI n)])), (b, .inl (ay 0, 300, .inl f))] rfl rfl rfl rfl rfl rfl rfl ⟨Nat.le_of_ble_eq_true rfl, Nat.le_of_ble_eq_true rfl⟩ dX4_readLoopStart_44 (fun v w hw => ?_)
        obtain ⟨rfl, rfl⟩ := hw
        refine j_perm [0, 1, 2, 3, 4, 5, 6, 7] [(r, .inr (4, [.ref t, .ref q, .int (nI (sk f n (sk f n (sk f n (pos + 1) + dg f n (sk f n (pos + 1))) + 1)))])), (t, .inr (6, [.ref b, .int (nI n)])), (b, .inl (ay 0, 300, .inl f)), (q, .inr (3, [.ref le, .ref nu, .int (nI cn), .ref ls, .ref lt, .int (nI (op + 1))])), (le, .inl (ay 0, 200, .inl L)), (nu, .inl (ay 0, 200, .inl M)), (ls, .inl (ay 0, 4, .inl (upd S op (nI cn)))), (lt, .inl (ay 0, 4, .inl (upd T op (vl f (sk f n (pos + 1)) (dg f n (sk f n (pos + 1)))))))] rfl rfl ?_
        refine j_iconst F (v := 1) dX4_readLoopStart_47 (by decide) ?_
        exact j_zret F (Or.inr rfl) ⟨by rw [if_pos ⟨h1, h3, h2⟩], by simp only [if_pos h1, if_pos (show (op < 4 ∧ btA f n (sk f n (sk f n (pos + 1) + dg f n (sk f n (pos + 1)))) = 123) from ⟨h3, h2⟩), if_pos (show (rdOK f n (sk f n (pos + 1)) 1 9 ∧ op < 4 ∧ btA f n (sk f n (sk f n (pos + 1) + dg f n (sk f n (pos + 1)))) = 123) from ⟨h1, h3, h2⟩)]⟩ dX4_readLoopStart_48 (Nat.le_of_ble_eq_true rfl) (Nat.le_of_ble_eq_true rfl)
      · skip
        refine j_top 0 (if_neg h2) ?_
        refine j_ws [(r, .inr (4, [.ref t, .ref q, .int (nI (sk f n (sk f n (pos + 1) + dg f n (sk f n (pos + 1)))))])), (t, .inr (6, [.ref b, .int (nI n)])), (b, .inl (ay 0, 300, .inl f)), (q, .inr (3, [.ref le, .ref nu, .int (nI cn), .ref ls, .ref lt, .int (nI op)])), (le, .inl (ay 0, 200, .inl L)), (nu, .inl (ay 0, 200, .inl M)), (ls, .inl (ay 0, 4, .inl S)), (lt, .inl (ay 0, 4, .inl T))] (by simp only [if_neg h2]) ?_
        refine j_if_ne F 39 dX4_readLoopStart_34 (by decide) (fun c_34 => absurd (by decide) c_34) (fun c_34 => ?_)
        refine j_iconst F (v := 0) dX4_readLoopStart_37 (by decide) ?_
        exact j_zret F (Or.inl rfl) ⟨by rw [if_neg (fun h => h2 h.2.2)], by simp only [if_pos h1, if_neg (show ¬ (op < 4 ∧ btA f n (sk f n (sk f n (pos + 1) + dg f n (sk f n (pos + 1)))) = 123) from fun h => h2 h.2), if_neg (show ¬ (rdOK f n (sk f n (pos + 1)) 1 9 ∧ op < 4 ∧ btA f n (sk f n (sk f n (pos + 1) + dg f n (sk f n (pos + 1)))) = 123) from fun h => h2 h.2.2)]⟩ dX4_readLoopStart_38 (Nat.le_of_ble_eq_true rfl) (Nat.le_of_ble_eq_true rfl)
    · skip
      refine j_top 0 (if_neg h3) ?_
      refine j_if_eq F 37 dX4_readLoopStart_25 (by decide) (fun c_25 => ?_) (fun c_25 => absurd (by decide) c_25)
      refine j_iconst F (v := 0) dX4_readLoopStart_37 (by decide) ?_
      exact j_zret F (Or.inl rfl) ⟨by rw [if_neg (fun h => h3 h.2.1)], by simp only [if_pos h1, if_neg (show ¬ (op < 4 ∧ btA f n (sk f n (sk f n (pos + 1) + dg f n (sk f n (pos + 1)))) = 123) from fun h => h3 h.1), if_neg (show ¬ (rdOK f n (sk f n (pos + 1)) 1 9 ∧ op < 4 ∧ btA f n (sk f n (sk f n (pos + 1) + dg f n (sk f n (pos + 1)))) = 123) from fun h => h3 h.2.1)]⟩ dX4_readLoopStart_38 (Nat.le_of_ble_eq_true rfl) (Nat.le_of_ble_eq_true rfl)
  · skip
    refine j_top (-1) (if_neg h1) ?_
    refine j_ws [(r, .inr (4, [.ref t, .ref q, .int (nI (sk f n (pos + 1)))])), (t, .inr (6, [.ref b, .int (nI n)])), (b, .inl (ay 0, 300, .inl f)), (q, .inr (3, [.ref le, .ref nu, .int (nI cn), .ref ls, .ref lt, .int (nI op)])), (le, .inl (ay 0, 200, .inl L)), (nu, .inl (ay 0, 200, .inl M)), (ls, .inl (ay 0, 4, .inl S)), (lt, .inl (ay 0, 4, .inl T))] (by simp only [if_neg h1]) ?_
    refine j_istore_n F 1 [(1, .int (-1)), (0, .ref r)] dX4_readLoopStart_12 rfl (by decide) rfl ?_
    refine j_iload_n F 0 dX4_readLoopStart_13 rfl ?_
    refine j_iconst F (v := (-1)) dX4_readLoopStart_14 (by decide) ?_
    refine j_icmp_eq F 37 dX4_readLoopStart_15 (by decide) (fun c_15 => ?_) (fun c_15 => absurd rfl c_15)
    refine j_iconst F (v := 0) dX4_readLoopStart_37 (by decide) ?_
    exact j_zret F (Or.inl rfl) ⟨by rw [if_neg (fun h => h1 h.1)], by simp only [if_neg h1, if_neg (show ¬ (rdOK f n (sk f n (pos + 1)) 1 9 ∧ op < 4 ∧ btA f n (sk f n (sk f n (pos + 1) + dg f n (sk f n (pos + 1)))) = 123) from fun h => h1 h.1)]⟩ dX4_readLoopStart_38 (Nat.le_of_ble_eq_true rfl) (Nat.le_of_ble_eq_true rfl)

set_option maxHeartbeats 4000000 in
set_option maxRecDepth 100000 in
theorem c_X4_readLoopEnd_none (l : Launch) (D : va_G) (ay : Nat → ClassId) (r : Nat) (t : Nat) (q : Nat) (pos : Nat) (b : Nat) (n : Nat) (f : Nat → Int32) (le : Nat) (nu : Nat) (ls : Nat) (lt : Nat) (cn : Nat) (L : Nat → Int32) (M : Nat → Int32) (S : Nat → Int32) (T : Nat → Int32) (op : Nat) : jM l yX4_readLoopEnd (jws yX4_readLoopEnd cX4_readLoopEnd 1 (some .boolean)) 2 46 0 0 D ay [.ref r] [(r, .inr (4, [.ref t, .ref q, .int (nI pos)])), (t, .inr (6, [.ref b, .int (nI n)])), (b, .inl (ay 0, 300, .inl f)), (q, .inr (3, [.ref le, .ref nu, .int (nI cn), .ref ls, .ref lt, .int (nI 0)])), (le, .inl (ay 0, 200, .inl L)), (nu, .inl (ay 0, 200, .inl M)), (ls, .inl (ay 0, 4, .inl S)), (lt, .inl (ay 0, 4, .inl T))] (fun v w => v = some (.int 0) ∧ w = [(r, .inr (4, [.ref t, .ref q, .int (nI pos)])), (t, .inr (6, [.ref b, .int (nI n)])), (b, .inl (ay 0, 300, .inl f)), (q, .inr (3, [.ref le, .ref nu, .int (nI cn), .ref ls, .ref lt, .int (nI 0)])), (le, .inl (ay 0, 200, .inl L)), (nu, .inl (ay 0, 200, .inl M)), (ls, .inl (ay 0, 4, .inl S)), (lt, .inl (ay 0, 4, .inl T))]) := by
  refine jM_of l (by decide) [(0, .ref r)] rfl rfl (fun p9 e9 s9 m9 a9 b9 me9 c9 A9 F => ?_)
  refine j_aload_n F 0 dX4_readLoopEnd_0 rfl ?_
  refine j_getf F fX4_21 0 rfl rfl dX4_readLoopEnd_1 ?_
  refine j_callV F kX4_44 (As := []) (rest := []) (c_X3_isInLoop l D ay q le nu ls lt cn L M S T 0 (by omega)) 3 [3, 4, 5, 6, 7] [0, 1, 2] [(r, .inr (4, [.ref t, .ref q, .int (nI pos)])), (t, .inr (6, [.ref b, .int (nI n)])), (b, .inl (ay 0, 300, .inl f))] rfl rfl rfl rfl rfl rfl rfl ⟨Nat.le_of_ble_eq_true rfl, Nat.le_of_ble_eq_true rfl⟩ dX4_readLoopEnd_4 (fun v w hw => ?_)
  obtain ⟨rfl, rfl⟩ := hw
  refine j_perm [0, 1, 2, 3, 4, 5, 6, 7] [(r, .inr (4, [.ref t, .ref q, .int (nI pos)])), (t, .inr (6, [.ref b, .int (nI n)])), (b, .inl (ay 0, 300, .inl f)), (q, .inr (3, [.ref le, .ref nu, .int (nI cn), .ref ls, .ref lt, .int (nI 0)])), (le, .inl (ay 0, 200, .inl L)), (nu, .inl (ay 0, 200, .inl M)), (ls, .inl (ay 0, 4, .inl S)), (lt, .inl (ay 0, 4, .inl T))] rfl rfl ?_
  refine j_top 0 (if_neg (by omega)) ?_
  refine j_if_ne F 12 dX4_readLoopEnd_7 (by decide) (fun c_7 => absurd (by decide) c_7) (fun c_7 => ?_)
  refine j_iconst F (v := 0) dX4_readLoopEnd_10 (by decide) ?_
  exact j_zret F (Or.inl rfl) ⟨rfl, rfl⟩ dX4_readLoopEnd_11 (Nat.le_of_ble_eq_true rfl) (Nat.le_of_ble_eq_true rfl)

set_option maxHeartbeats 4000000 in
set_option maxRecDepth 100000 in
theorem c_X4_readLoopEnd (l : Launch) (D : va_G) (ay : Nat → ClassId) (r : Nat) (t : Nat) (q : Nat) (pos : Nat) (b : Nat) (n : Nat) (f : Nat → Int32) (le : Nat) (nu : Nat) (ls : Nat) (lt : Nat) (cn : Nat) (L : Nat → Int32) (M : Nat → Int32) (S : Nat → Int32) (T : Nat → Int32) (op : Nat) (s : Nat) (d : Nat) (hn : n ≤ 300) (hp : pos < n) (hc : cn ≤ 200) (ho : 1 ≤ op ∧ op ≤ 4) (hs : S (op - 1) = nI s ∧ s ≤ cn) (hd : T (op - 1) = nI d ∧ 1 ≤ d ∧ d ≤ 9) : jM l yX4_readLoopEnd (jws yX4_readLoopEnd cX4_readLoopEnd 1 (some .boolean)) 2 46 0 0 D ay [.ref r] [(r, .inr (4, [.ref t, .ref q, .int (nI pos)])), (t, .inr (6, [.ref b, .int (nI n)])), (b, .inl (ay 0, 300, .inl f)), (q, .inr (3, [.ref le, .ref nu, .int (nI cn), .ref ls, .ref lt, .int (nI op)])), (le, .inl (ay 0, 200, .inl L)), (nu, .inl (ay 0, 200, .inl M)), (ls, .inl (ay 0, 4, .inl S)), (lt, .inl (ay 0, 4, .inl T))] (fun v w => v = some (.int 1) ∧ w = [(r, .inr (4, [.ref t, .ref q, .int (nI (sk f n (pos + 1)))])), (t, .inr (6, [.ref b, .int (nI n)])), (b, .inl (ay 0, 300, .inl f)), (q, .inr (3, [.ref le, .ref nu, .int (nI (rpN s cn d)), .ref ls, .ref lt, .int (nI (op - 1))])), (le, .inl (ay 0, 200, .inl (rpF L s cn (rpN s cn d)))), (nu, .inl (ay 0, 200, .inl (rpF M s cn (rpN s cn d)))), (ls, .inl (ay 0, 4, .inl S)), (lt, .inl (ay 0, 4, .inl T))]) := by
  refine jM_of l (by decide) [(0, .ref r)] rfl rfl (fun p9 e9 s9 m9 a9 b9 me9 c9 A9 F => ?_)
  refine j_aload_n F 0 dX4_readLoopEnd_0 rfl ?_
  refine j_getf F fX4_21 0 rfl rfl dX4_readLoopEnd_1 ?_
  refine j_callV F kX4_44 (As := []) (rest := []) (c_X3_isInLoop l D ay q le nu ls lt cn L M S T op ho.2) 3 [3, 4, 5, 6, 7] [0, 1, 2] [(r, .inr (4, [.ref t, .ref q, .int (nI pos)])), (t, .inr (6, [.ref b, .int (nI n)])), (b, .inl (ay 0, 300, .inl f))] rfl rfl rfl rfl rfl rfl rfl ⟨Nat.le_of_ble_eq_true rfl, Nat.le_of_ble_eq_true rfl⟩ dX4_readLoopEnd_4 (fun v w hw => ?_)
  obtain ⟨rfl, rfl⟩ := hw
  refine j_perm [0, 1, 2, 3, 4, 5, 6, 7] [(r, .inr (4, [.ref t, .ref q, .int (nI pos)])), (t, .inr (6, [.ref b, .int (nI n)])), (b, .inl (ay 0, 300, .inl f)), (q, .inr (3, [.ref le, .ref nu, .int (nI cn), .ref ls, .ref lt, .int (nI op)])), (le, .inl (ay 0, 200, .inl L)), (nu, .inl (ay 0, 200, .inl M)), (ls, .inl (ay 0, 4, .inl S)), (lt, .inl (ay 0, 4, .inl T))] rfl rfl ?_
  refine j_top 1 (if_pos (by omega)) ?_
  refine j_if_ne F 12 dX4_readLoopEnd_7 (by decide) (fun c_7 => ?_) (fun c_7 => absurd c_7 (by decide))
  refine j_aload_n F 0 dX4_readLoopEnd_12 rfl ?_
  refine j_getf F fX4_21 0 rfl rfl dX4_readLoopEnd_13 ?_
  refine j_callV F kX4_78 (As := []) (rest := []) (c_X3_closeLoop l D ay q le nu ls lt cn L M S T op s d hc ho hs hd) 3 [3, 4, 5, 6, 7] [0, 1, 2] [(r, .inr (4, [.ref t, .ref q, .int (nI pos)])), (t, .inr (6, [.ref b, .int (nI n)])), (b, .inl (ay 0, 300, .inl f))] rfl rfl rfl rfl rfl rfl rfl ⟨Nat.le_of_ble_eq_true rfl, Nat.le_of_ble_eq_true rfl⟩ dX4_readLoopEnd_16 (fun v w hw => ?_)
  obtain ⟨rfl, rfl⟩ := hw
  refine j_perm [0, 1, 2, 3, 4, 5, 6, 7] [(r, .inr (4, [.ref t, .ref q, .int (nI pos)])), (t, .inr (6, [.ref b, .int (nI n)])), (b, .inl (ay 0, 300, .inl f)), (q, .inr (3, [.ref le, .ref nu, .int (nI (rpN s cn d)), .ref ls, .ref lt, .int (nI (op - 1))])), (le, .inl (ay 0, 200, .inl (rpF L s cn (rpN s cn d)))), (nu, .inl (ay 0, 200, .inl (rpF M s cn (rpN s cn d)))), (ls, .inl (ay 0, 4, .inl S)), (lt, .inl (ay 0, 4, .inl T))] rfl rfl ?_
  refine j_aload_n F 0 dX4_readLoopEnd_19 rfl ?_
  refine j_iconst F (v := 1) dX4_readLoopEnd_20 (by decide) ?_
  refine j_callV F kX4_32 (As := [.int 1]) (rest := []) (c_X4_pass l D ay r t q pos b n f le nu ls lt (rpN s cn d) (rpF L s cn (rpN s cn d)) (rpF M s cn (rpN s cn d)) S T (op - 1) 1 hn (by omega)) 0 [0, 1, 2, 3, 4, 5, 6, 7] [] [] rfl rfl rfl rfl rfl rfl rfl ⟨Nat.le_of_ble_eq_true rfl, Nat.le_of_ble_eq_true rfl⟩ dX4_readLoopEnd_21 (fun v w hw => ?_)
  obtain ⟨rfl, rfl⟩ := hw
  refine j_perm [0, 1, 2, 3, 4, 5, 6, 7] [(r, .inr (4, [.ref t, .ref q, .int (nI (sk f n (pos + 1)))])), (t, .inr (6, [.ref b, .int (nI n)])), (b, .inl (ay 0, 300, .inl f)), (q, .inr (3, [.ref le, .ref nu, .int (nI (rpN s cn d)), .ref ls, .ref lt, .int (nI (op - 1))])), (le, .inl (ay 0, 200, .inl (rpF L s cn (rpN s cn d)))), (nu, .inl (ay 0, 200, .inl (rpF M s cn (rpN s cn d)))), (ls, .inl (ay 0, 4, .inl S)), (lt, .inl (ay 0, 4, .inl T))] rfl rfl ?_
  refine j_iconst F (v := 1) dX4_readLoopEnd_24 (by decide) ?_
  exact j_zret F (Or.inr rfl) ⟨rfl, rfl⟩ dX4_readLoopEnd_25 (Nat.le_of_ble_eq_true rfl) (Nat.le_of_ble_eq_true rfl)
