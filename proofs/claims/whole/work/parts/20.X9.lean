/-! ===== the desk's world ===== -/
abbrev DS : Type := (Nat → Nat) × (Nat → Int32) × (Nat → Nat → Int32)
def dW (ay : Nat → ClassId) (ad : Nat → Nat) (Z : DS) : va_W := [(ad 0, .inr (9, [.ref (ad 1), .ref (ad 6), .ref (ad 11), .ref (ad 36), .ref (ad 41), .ref (ad 49), .int (Z.2.1 0)])), (ad 1, .inr (7, [.ref (ad 2), .ref (ad 4), .ref (ad 5), .int (nI (Z.1 12)), .int (Z.2.1 4), .int (Z.2.1 5)])), (ad 2, .inr (8, [.ref (ad 3), .int (nI (Z.1 0))])), (ad 3, .inl (ay 0, 100, .inl (Z.2.2 0))), (ad 4, .inr (1, [.int (Z.2.1 1), .int (Z.2.1 2), .int (Z.2.1 3)])), (ad 5, .inl (ay 0, 100, .inl (Z.2.2 1))), (ad 6, .inr (7, [.ref (ad 7), .ref (ad 9), .ref (ad 10), .int (nI (Z.1 13)), .int (Z.2.1 9), .int (Z.2.1 10)])), (ad 7, .inr (8, [.ref (ad 8), .int (nI (Z.1 1))])), (ad 8, .inl (ay 0, 100, .inl (Z.2.2 2))), (ad 9, .inr (1, [.int (Z.2.1 6), .int (Z.2.1 7), .int (Z.2.1 8)])), (ad 10, .inl (ay 0, 100, .inl (Z.2.2 3))), (ad 11, .inl (ay 2, 8, .inr (.inr (.inr (.inr (fun i => some (ad (12 + 3 * i)))))))), (ad 12, .inr (0, [.ref (ad 13), .int (nI 1), .int (Z.2.1 11)])), (ad 13, .inr (8, [.ref (ad 14), .int (nI (Z.1 2))])), (ad 14, .inl (ay 0, 100, .inl (Z.2.2 4))), (ad 15, .inr (0, [.ref (ad 16), .int (nI 2), .int (Z.2.1 12)])), (ad 16, .inr (8, [.ref (ad 17), .int (nI (Z.1 3))])), (ad 17, .inl (ay 0, 100, .inl (Z.2.2 5))), (ad 18, .inr (0, [.ref (ad 19), .int (nI 3), .int (Z.2.1 13)])), (ad 19, .inr (8, [.ref (ad 20), .int (nI (Z.1 4))])), (ad 20, .inl (ay 0, 100, .inl (Z.2.2 6))), (ad 21, .inr (0, [.ref (ad 22), .int (nI 4), .int (Z.2.1 14)])), (ad 22, .inr (8, [.ref (ad 23), .int (nI (Z.1 5))])), (ad 23, .inl (ay 0, 100, .inl (Z.2.2 7))), (ad 24, .inr (0, [.ref (ad 25), .int (nI 5), .int (Z.2.1 15)])), (ad 25, .inr (8, [.ref (ad 26), .int (nI (Z.1 6))])), (ad 26, .inl (ay 0, 100, .inl (Z.2.2 8))), (ad 27, .inr (0, [.ref (ad 28), .int (nI 6), .int (Z.2.1 16)])), (ad 28, .inr (8, [.ref (ad 29), .int (nI (Z.1 7))])), (ad 29, .inl (ay 0, 100, .inl (Z.2.2 9))), (ad 30, .inr (0, [.ref (ad 31), .int (nI 7), .int (Z.2.1 17)])), (ad 31, .inr (8, [.ref (ad 32), .int (nI (Z.1 8))])), (ad 32, .inl (ay 0, 100, .inl (Z.2.2 10))), (ad 33, .inr (0, [.ref (ad 34), .int (nI 8), .int (Z.2.1 18)])), (ad 34, .inr (8, [.ref (ad 35), .int (nI (Z.1 9))])), (ad 35, .inl (ay 0, 100, .inl (Z.2.2 11))), (ad 36, .inr (5, [.ref (ad 37), .ref (ad 38), .ref (ad 39), .int (nI (Z.1 14))])), (ad 37, .inl (ay 0, 1000, .inl (Z.2.2 12))), (ad 38, .inl (ay 0, 1000, .inl (Z.2.2 13))), (ad 39, .inr (8, [.ref (ad 40), .int (nI (Z.1 10))])), (ad 40, .inl (ay 0, 100, .inl (Z.2.2 14))), (ad 41, .inr (4, [.ref (ad 42), .ref (ad 44), .int (nI (Z.1 16))])), (ad 42, .inr (6, [.ref (ad 43), .int (nI (Z.1 15))])), (ad 43, .inl (ay 0, 300, .inl (Z.2.2 15))), (ad 44, .inr (3, [.ref (ad 45), .ref (ad 46), .int (nI (Z.1 17)), .ref (ad 47), .ref (ad 48), .int (nI (Z.1 18))])), (ad 45, .inl (ay 0, 200, .inl (Z.2.2 16))), (ad 46, .inl (ay 0, 200, .inl (Z.2.2 17))), (ad 47, .inl (ay 0, 4, .inl (Z.2.2 18))), (ad 48, .inl (ay 0, 4, .inl (Z.2.2 19))), (ad 49, .inr (2, [.ref (ad 50), .ref (ad 51), .ref (ad 52), .ref (ad 53), .int (nI (Z.1 19)), .int (Z.2.1 19), .int (Z.2.1 20), .int (Z.2.1 21)])), (ad 50, .inl (ay 0, 64, .inl (Z.2.2 20))), (ad 51, .inl (ay 0, 64, .inl (Z.2.2 21))), (ad 52, .inl (ay 1, 16, .inl (Z.2.2 22))), (ad 53, .inr (8, [.ref (ad 54), .int (nI (Z.1 11))])), (ad 54, .inl (ay 0, 100, .inl (Z.2.2 23)))]
def mU (Z : DS) (m n : Nat) (f : Nat → Int32) (bg pl gv : Int32) (vf : Nat → Int32) (b : Nat) (oc ol : Int32) : DS := (ups (ups Z.1 m n) (12 + m) b, ups (ups (ups (ups (ups Z.2.1 (1 + 5 * m) bg) (2 + 5 * m) pl) (3 + 5 * m) gv) (4 + 5 * m) oc) (5 + 5 * m) ol, ups (ups Z.2.2 (2 * m) f) (2 * m + 1) vf)
def cU (Z : DS) (i n : Nat) (f : Nat → Int32) (hc : Int32) : DS := (ups Z.1 (2 + i) n, ups Z.2.1 (11 + i) hc, ups Z.2.2 (4 + i) f)
def lU (Z : DS) (c : Nat) (kr dr : Nat → Int32) (n : Nat) (f : Nat → Int32) : DS := (ups (ups Z.1 14 c) 10 n, Z.2.1, ups (ups (ups Z.2.2 12 kr) 13 dr) 14 f)
def tU (Z : DS) (n : Nat) (f : Nat → Int32) : DS := (ups Z.1 15 n, Z.2.1, ups Z.2.2 15 f)
def rU (Z : DS) (pos : Nat) (P : PS) : DS := (ups (ups (ups Z.1 16 pos) 17 P.1) 18 P.2.2.2.2.2, Z.2.1, ups (ups (ups (ups Z.2.2 16 P.2.1) 17 P.2.2.1) 18 P.2.2.2.1) 19 P.2.2.2.2.1)
def eU (Z : DS) (x : Int32) : DS := (Z.1, ups Z.2.1 0 x, Z.2.2)
def xU (Z : DS) (fr : Nat) (ac fc wc : Int32) (dd hh yy : Nat → Int32) (n : Nat) (f : Nat → Int32) : DS := (ups (ups Z.1 19 fr) 11 n, ups (ups (ups Z.2.1 19 ac) 20 fc) 21 wc, ups (ups (ups (ups Z.2.2 20 dd) 21 hh) 22 yy) 23 f)
theorem dW_mh (ay : Nat → ClassId) (ad : Nat → Nat) (Z : DS) {m : Nat} (h : m < 2) : 1 + 5 * m + 5 ≤ (dW ay ad Z).length := by
  show 1 + 5 * m + 5 ≤ 55
  omega
theorem dW_ch (ay : Nat → ClassId) (ad : Nat → Nat) (Z : DS) {i : Nat} (h : i < 8) : 12 + 3 * i + 3 ≤ (dW ay ad Z).length := by
  show 12 + 3 * i + 3 ≤ 55
  omega
theorem dW_mo (ay : Nat → ClassId) (ad : Nat → Nat) (Z : DS) {m : Nat} (h : m < 2) : slp (1 + 5 * m) 5 (dW ay ad Z) [(ad (1 + 5 * m), .inr (7, [.ref (ad (2 + 5 * m)), .ref (ad (4 + 5 * m)), .ref (ad (5 + 5 * m)), .int (nI (Z.1 (12 + m))), .int (Z.2.1 (4 + 5 * m)), .int (Z.2.1 (5 + 5 * m))])), (ad (2 + 5 * m), .inr (8, [.ref (ad (3 + 5 * m)), .int (nI (Z.1 m))])), (ad (3 + 5 * m), .inl (ay 0, 100, .inl (Z.2.2 (2 * m)))), (ad (4 + 5 * m), .inr (1, [.int (Z.2.1 (1 + 5 * m)), .int (Z.2.1 (2 + 5 * m)), .int (Z.2.1 (3 + 5 * m))])), (ad (5 + 5 * m), .inl (ay 0, 100, .inl (Z.2.2 (2 * m + 1))))] = dW ay ad Z := by
  match m, h with
  | 0, _ => rfl
  | 1, _ => rfl
theorem dW_co (ay : Nat → ClassId) (ad : Nat → Nat) (Z : DS) {i : Nat} (h : i < 8) : slp (12 + 3 * i) 3 (dW ay ad Z) [(ad (12 + 3 * i), .inr (0, [.ref (ad (13 + 3 * i)), .int (nI (i + 1)), .int (Z.2.1 (11 + i))])), (ad (13 + 3 * i), .inr (8, [.ref (ad (14 + 3 * i)), .int (nI (Z.1 (2 + i)))])), (ad (14 + 3 * i), .inl (ay 0, 100, .inl (Z.2.2 (4 + i))))] = dW ay ad Z := by
  match i, h with
  | 0, _ => rfl
  | 1, _ => rfl
  | 2, _ => rfl
  | 3, _ => rfl
  | 4, _ => rfl
  | 5, _ => rfl
  | 6, _ => rfl
  | 7, _ => rfl
theorem dW_mc (ay : Nat → ClassId) (ad : Nat → Nat) (Z : DS) {m : Nat} (h : m < 2) (n : Nat) (f : Nat → Int32) (bg pl gv : Int32) (vf : Nat → Int32) (b : Nat) (oc ol : Int32) : slp (1 + 5 * m) 5 (dW ay ad Z) [(ad (1 + 5 * m), .inr (7, [.ref (ad (2 + 5 * m)), .ref (ad (4 + 5 * m)), .ref (ad (5 + 5 * m)), .int (nI b), .int oc, .int ol])), (ad (2 + 5 * m), .inr (8, [.ref (ad (3 + 5 * m)), .int (nI n)])), (ad (3 + 5 * m), .inl (ay 0, 100, .inl f)), (ad (4 + 5 * m), .inr (1, [.int bg, .int pl, .int gv])), (ad (5 + 5 * m), .inl (ay 0, 100, .inl vf))] = dW ay ad (mU Z m n f bg pl gv vf b oc ol) := by
  match m, h with
  | 0, _ => rfl
  | 1, _ => rfl
theorem dW_cc (ay : Nat → ClassId) (ad : Nat → Nat) (Z : DS) {i : Nat} (h : i < 8) (n : Nat) (f : Nat → Int32) (hc : Int32) : slp (12 + 3 * i) 3 (dW ay ad Z) [(ad (12 + 3 * i), .inr (0, [.ref (ad (13 + 3 * i)), .int (nI (i + 1)), .int hc])), (ad (13 + 3 * i), .inr (8, [.ref (ad (14 + 3 * i)), .int (nI n)])), (ad (14 + 3 * i), .inl (ay 0, 100, .inl f))] = dW ay ad (cU Z i n f hc) := by
  match i, h with
  | 0, _ => rfl
  | 1, _ => rfl
  | 2, _ => rfl
  | 3, _ => rfl
  | 4, _ => rfl
  | 5, _ => rfl
  | 6, _ => rfl
  | 7, _ => rfl
theorem dW_l (ay : Nat → ClassId) (ad : Nat → Nat) (Z : DS) (c : Nat) (kr dr : Nat → Int32) (n : Nat) (f : Nat → Int32) : slp 36 5 (dW ay ad Z) [(ad 36, .inr (5, [.ref (ad 37), .ref (ad 38), .ref (ad 39), .int (nI c)])), (ad 37, .inl (ay 0, 1000, .inl kr)), (ad 38, .inl (ay 0, 1000, .inl dr)), (ad 39, .inr (8, [.ref (ad 40), .int (nI n)])), (ad 40, .inl (ay 0, 100, .inl f))] = dW ay ad (lU Z c kr dr n f) := rfl
theorem dW_t (ay : Nat → ClassId) (ad : Nat → Nat) (Z : DS) (n : Nat) (f : Nat → Int32) : slp 42 2 (dW ay ad Z) [(ad 42, .inr (6, [.ref (ad 43), .int (nI n)])), (ad 43, .inl (ay 0, 300, .inl f))] = dW ay ad (tU Z n f) := rfl
theorem dW_r (ay : Nat → ClassId) (ad : Nat → Nat) (Z : DS) (pos : Nat) (P : PS) : slp 41 8 (dW ay ad Z) [(ad 41, .inr (4, [.ref (ad 42), .ref (ad 44), .int (nI pos)])), (ad 42, .inr (6, [.ref (ad 43), .int (nI (Z.1 15))])), (ad 43, .inl (ay 0, 300, .inl (Z.2.2 15))), (ad 44, .inr (3, [.ref (ad 45), .ref (ad 46), .int (nI P.1), .ref (ad 47), .ref (ad 48), .int (nI P.2.2.2.2.2)])), (ad 45, .inl (ay 0, 200, .inl P.2.1)), (ad 46, .inl (ay 0, 200, .inl P.2.2.1)), (ad 47, .inl (ay 0, 4, .inl P.2.2.2.1)), (ad 48, .inl (ay 0, 4, .inl P.2.2.2.2.1))] = dW ay ad (rU Z pos P) := rfl
theorem dW_x (ay : Nat → ClassId) (ad : Nat → Nat) (Z : DS) (fr : Nat) (ac fc wc : Int32) (dd hh yy : Nat → Int32) (n : Nat) (f : Nat → Int32) : slp 49 6 (dW ay ad Z) [(ad 49, .inr (2, [.ref (ad 50), .ref (ad 51), .ref (ad 52), .ref (ad 53), .int (nI fr), .int ac, .int fc, .int wc])), (ad 50, .inl (ay 0, 64, .inl dd)), (ad 51, .inl (ay 0, 64, .inl hh)), (ad 52, .inl (ay 1, 16, .inl yy)), (ad 53, .inr (8, [.ref (ad 54), .int (nI n)])), (ad 54, .inl (ay 0, 100, .inl f))] = dW ay ad (xU Z fr ac fc wc dd hh yy n f) := rfl
theorem slp_all {W : va_W} (w : va_W) (n : Nat) (h : W.length = n) : slp 0 n W w = w := by
  rw [slp, List.take_zero, Nat.zero_add, List.drop_eq_nil_of_le (by omega), List.append_nil, List.nil_append]
theorem gk_IA : Cond.classLink RX9 196 eIA ∈ gw := gwm 454 (by decide +kernel) rfl
theorem gi_IA : Cond.initialized eIA ∈ gw := gwm 66 (by decide +kernel) rfl
theorem go_IA : ∀ w ∈ Cond.classLink RX9 196 eIA :: Cond.initialized eIA :: vx_atS RX9 200 eIA ["java/lang/RuntimeException", "java/lang/Exception"], vx_ot w = true := by decide +kernel
theorem gk_IS : Cond.classLink RX9 142 eIS ∈ gw := gwm 755 (by decide +kernel) rfl
theorem gi_IS : Cond.initialized eIS ∈ gw := gwm 68 (by decide +kernel) rfl
theorem go_IS : ∀ w ∈ Cond.classLink RX9 142 eIS :: Cond.initialized eIS :: vx_atS RX9 146 eIS ["java/lang/RuntimeException", "java/lang/Exception"], vx_ot w = true := by decide +kernel
theorem gk_IO : Cond.classLink RX9 278 eIO ∈ gw := gwm 673 (by decide +kernel) rfl
theorem gi_IO : Cond.initialized eIO ∈ gw := gwm 67 (by decide +kernel) rfl
theorem go_IO : ∀ w ∈ Cond.classLink RX9 278 eIO :: Cond.initialized eIO :: vx_atS RX9 282 eIO ["java/lang/RuntimeException", "java/lang/Exception"], vx_ot w = true := by decide +kernel
def oob (x lo hi : Int32) : Prop := x < lo ∨ hi < x
def oop (x : Int32) (n : Nat) : Prop := x < 0 ∨ nI n ≤ x
theorem nI_rng2 {x : Int32} {n : Nat} (hn : n < 2 ^ 31) (h0 : ¬ x < 0) (h1 : x < nI n) : ∃ j, j < n ∧ x = nI j := by
  obtain ⟨j, hj, rfl⟩ := nI_rng n hn h0 (fun h => Int32.lt_irrefl (Int32.lt_trans h h1))
  exact ⟨j, (nI_ltI (by omega) hn).mp h1, rfl⟩
set_option maxHeartbeats 4000000 in
set_option maxRecDepth 100000 in
theorem c_X9_requireRange (l : Launch) (hfl : l.stackTraces = false) (D : va_G) (ay : Nat → ClassId) (sa : Nat → Nat) (x : Int32) (lo : Int32) (hi : Int32) : jMx l yX9_requireRange (jws yX9_requireRange cX9_requireRange 3 none) 6 100 1 6 D ay sa [.int x, .int lo, .int hi] [] (fun v w => ¬ oob x lo hi ∧ v = none ∧ w = []) (fun E w => (E = eIA ∧ (oob x lo hi) ∧ w = [])) := by
  refine jMx_of l hfl (by decide) [(0, .int x), (1, .int lo), (2, .int hi)] rfl rfl (fun p9 e9 s9 m9 a9 b9 me9 c9 A9 F hX hT => ?_)
  refine j_iload_n F 0 dX9_requireRange_0 rfl ?_
  refine j_iload_n F 1 dX9_requireRange_1 rfl ?_
  refine j_icmp_lt F 10 dX9_requireRange_2 (by decide) (fun c_2 => ?_) (fun c_2 => ?_)
  · skip
    exact j_throw F hfl hX hT (E := eIA) (text := "a number is out of range") (names := ["java/lang/RuntimeException", "java/lang/Exception"]) (ik := 196) (is := 198) (ic := 200) (a9 := sa 7) rfl (by decide) gk_IA gi_IA hX.2.2.1.2.2.2.2.2.2.2.1 gx_IA gb_IA hX.2.2.2.2.2.2.1 go_IA dX9_requireRange_10 dX9_requireRange_13 dX9_requireRange_14 dX9_requireRange_16 dX9_requireRange_19 ⟨Nat.le_of_ble_eq_true rfl, Nat.le_of_ble_eq_true rfl, Nat.le_of_ble_eq_true rfl, Nat.le_of_ble_eq_true rfl⟩ ⟨Nat.le_of_ble_eq_true rfl, Nat.le_of_ble_eq_true rfl⟩ ⟨rfl, (Or.inl c_2), rfl⟩
  · skip
    refine j_iload_n F 0 dX9_requireRange_5 rfl ?_
    refine j_iload_n F 2 dX9_requireRange_6 rfl ?_
    refine j_icmp_le F 20 dX9_requireRange_7 (by decide) (fun c_7 => ?_) (fun c_7 => ?_)
    · skip
      exact j_xr (j_vret F ⟨fun h => h.elim c_2 (fun h => absurd h (Int32.not_lt.mpr c_7)), rfl, rfl⟩ dX9_requireRange_20 (Nat.le_of_ble_eq_true rfl) (Nat.le_of_ble_eq_true rfl))
    · skip
      exact j_throw F hfl hX hT (E := eIA) (text := "a number is out of range") (names := ["java/lang/RuntimeException", "java/lang/Exception"]) (ik := 196) (is := 198) (ic := 200) (a9 := sa 7) rfl (by decide) gk_IA gi_IA hX.2.2.1.2.2.2.2.2.2.2.1 gx_IA gb_IA hX.2.2.2.2.2.2.1 go_IA dX9_requireRange_10 dX9_requireRange_13 dX9_requireRange_14 dX9_requireRange_16 dX9_requireRange_19 ⟨Nat.le_of_ble_eq_true rfl, Nat.le_of_ble_eq_true rfl, Nat.le_of_ble_eq_true rfl, Nat.le_of_ble_eq_true rfl⟩ ⟨Nat.le_of_ble_eq_true rfl, Nat.le_of_ble_eq_true rfl⟩ ⟨rfl, (Or.inr (Int32.not_le.mp c_7)), rfl⟩

set_option maxHeartbeats 4000000 in
set_option maxRecDepth 100000 in
theorem c_X9_requirePlace (l : Launch) (hfl : l.stackTraces = false) (D : va_G) (ay : Nat → ClassId) (sa : Nat → Nat) (x : Int32) (n : Nat) (hn : n < 2 ^ 31) : jMx l yX9_requirePlace (jws yX9_requirePlace cX9_requirePlace 2 none) 6 100 1 6 D ay sa [.int x, .int (nI n)] [] (fun v w => ∃ (j : Nat), j < n ∧ x = nI j ∧ v = none ∧ w = []) (fun E w => (E = eIO ∧ (oop x n) ∧ w = [])) := by
  refine jMx_of l hfl (by decide) [(0, .int x), (1, .int (nI n))] rfl rfl (fun p9 e9 s9 m9 a9 b9 me9 c9 A9 F hX hT => ?_)
  refine j_iload_n F 0 dX9_requirePlace_0 rfl ?_
  refine j_if_lt F 9 dX9_requirePlace_1 (by decide) (fun c_1 => ?_) (fun c_1 => ?_)
  · skip
    exact j_throwW F hfl hX hT (E := eIO) (text := "there is no such place") (names := ["java/lang/RuntimeException", "java/lang/Exception"]) (ik := 278) (is := 280) (ic := 282) (a9 := sa 8) rfl (by decide) gk_IO gi_IO hX.2.2.1.2.2.2.2.2.2.2.2 gx_IO gb_IO hX.2.2.2.2.2.2.2.2.1 go_IO dX9_requirePlace_9 dX9_requirePlace_12 dX9_requirePlace_13 dX9_requirePlace_16 dX9_requirePlace_19 ⟨Nat.le_of_ble_eq_true rfl, Nat.le_of_ble_eq_true rfl, Nat.le_of_ble_eq_true rfl, Nat.le_of_ble_eq_true rfl⟩ ⟨Nat.le_of_ble_eq_true rfl, Nat.le_of_ble_eq_true rfl⟩ ⟨rfl, (Or.inl c_1), rfl⟩
  · skip
    refine j_iload_n F 0 dX9_requirePlace_4 rfl ?_
    refine j_iload_n F 1 dX9_requirePlace_5 rfl ?_
    refine j_icmp_lt F 20 dX9_requirePlace_6 (by decide) (fun c_6 => ?_) (fun c_6 => ?_)
    · skip
      exact j_xr (j_vret F (by
      obtain ⟨j, hj, rfl⟩ := nI_rng2 hn c_1 c_6
      exact ⟨j, hj, rfl, rfl, rfl⟩) dX9_requirePlace_20 (Nat.le_of_ble_eq_true rfl) (Nat.le_of_ble_eq_true rfl))
    · skip
      exact j_throwW F hfl hX hT (E := eIO) (text := "there is no such place") (names := ["java/lang/RuntimeException", "java/lang/Exception"]) (ik := 278) (is := 280) (ic := 282) (a9 := sa 8) rfl (by decide) gk_IO gi_IO hX.2.2.1.2.2.2.2.2.2.2.2 gx_IO gb_IO hX.2.2.2.2.2.2.2.2.1 go_IO dX9_requirePlace_9 dX9_requirePlace_12 dX9_requirePlace_13 dX9_requirePlace_16 dX9_requirePlace_19 ⟨Nat.le_of_ble_eq_true rfl, Nat.le_of_ble_eq_true rfl, Nat.le_of_ble_eq_true rfl, Nat.le_of_ble_eq_true rfl⟩ ⟨Nat.le_of_ble_eq_true rfl, Nat.le_of_ble_eq_true rfl⟩ ⟨rfl, (Or.inr (Int32.not_lt.mp c_6)), rfl⟩

set_option maxHeartbeats 4000000 in
set_option maxRecDepth 100000 in
theorem c_X9_requireKey (l : Launch) (hfl : l.stackTraces = false) (D : va_G) (ay : Nat → ClassId) (sa : Nat → Nat) (x : Int32) : jMx l yX9_requireKey (jws yX9_requireKey cX9_requireKey 1 none) 7 122 1 6 D ay sa [.int x] [] (fun v w => ∃ (y : Nat), y < 100 ∧ x = nI y ∧ v = none ∧ w = []) (fun E w => (E = eIA ∧ (oob x 0 99) ∧ w = [])) := by
  refine jMx_of l hfl (by decide) [(0, .int x)] rfl rfl (fun p9 e9 s9 m9 a9 b9 me9 c9 A9 F hX hT => ?_)
  refine j_iload_n F 0 dX9_requireKey_0 rfl ?_
  refine j_iconst F (v := 0) dX9_requireKey_1 (by decide) ?_
  refine j_bipush F (v := 99) dX9_requireKey_2 (by decide) ?_
  refine j_excallS F hX hT kX9_81 (As := [.int x, .int 0, .int 99]) (rest := []) (c_X9_requireRange l hfl D ay sa x 0 99) rfl rfl rfl rfl ⟨Nat.le_of_ble_eq_true rfl, Nat.le_of_ble_eq_true rfl⟩ dX9_requireKey_4 ⟨Nat.le_of_ble_eq_true rfl, Nat.le_of_ble_eq_true rfl⟩ (fun E w h => ⟨h.2.2, ⟨h.1, h.2.1, rfl⟩⟩) (fun v w hw => ?_)
  obtain ⟨h4_0, rfl, rfl⟩ := hw
  refine ⟨rfl, ?_⟩
  exact j_xr (j_vret F (by
    obtain ⟨y, hy, rfl⟩ := nI_rng 99 (by decide) (fun h => h4_0 (Or.inl h)) (fun h => h4_0 (Or.inr h))
    exact ⟨y, by omega, rfl, rfl, rfl⟩) dX9_requireKey_7 (Nat.le_of_ble_eq_true rfl) (Nat.le_of_ble_eq_true rfl))

set_option maxHeartbeats 4000000 in
set_option maxRecDepth 100000 in
theorem c_X9_requireValue (l : Launch) (hfl : l.stackTraces = false) (D : va_G) (ay : Nat → ClassId) (sa : Nat → Nat) (x : Int32) : jMx l yX9_requireValue (jws yX9_requireValue cX9_requireValue 1 none) 7 122 1 6 D ay sa [.int x] [] (fun v w => ∃ (z : Nat), z < 1000 ∧ x = nI z ∧ v = none ∧ w = []) (fun E w => (E = eIA ∧ (oob x 0 999) ∧ w = [])) := by
  refine jMx_of l hfl (by decide) [(0, .int x)] rfl rfl (fun p9 e9 s9 m9 a9 b9 me9 c9 A9 F hX hT => ?_)
  refine j_iload_n F 0 dX9_requireValue_0 rfl ?_
  refine j_iconst F (v := 0) dX9_requireValue_1 (by decide) ?_
  refine j_sipush F (v := 999) dX9_requireValue_2 (by decide) ?_
  refine j_excallS F hX hT kX9_81 (As := [.int x, .int 0, .int 999]) (rest := []) (c_X9_requireRange l hfl D ay sa x 0 999) rfl rfl rfl rfl ⟨Nat.le_of_ble_eq_true rfl, Nat.le_of_ble_eq_true rfl⟩ dX9_requireValue_5 ⟨Nat.le_of_ble_eq_true rfl, Nat.le_of_ble_eq_true rfl⟩ (fun E w h => ⟨h.2.2, ⟨h.1, h.2.1, rfl⟩⟩) (fun v w hw => ?_)
  obtain ⟨h5_0, rfl, rfl⟩ := hw
  refine ⟨rfl, ?_⟩
  exact j_xr (j_vret F (by
    obtain ⟨y, hy, rfl⟩ := nI_rng 999 (by decide) (fun h => h5_0 (Or.inl h)) (fun h => h5_0 (Or.inr h))
    exact ⟨y, by omega, rfl, rfl, rfl⟩) dX9_requireValue_8 (Nat.le_of_ble_eq_true rfl) (Nat.le_of_ble_eq_true rfl))

set_option maxHeartbeats 4000000 in
set_option maxRecDepth 100000 in
theorem c_X9_chosenMap (l : Launch) (hfl : l.stackTraces = false) (D : va_G) (ay : Nat → ClassId) (sa : Nat → Nat) (ad : Nat → Nat) (Z : DS) (x : Int32) : jMx l yX9_chosenMap (jws yX9_chosenMap cX9_chosenMap 2 (some (.object "LastUseDesk$UseMap"))) 7 122 1 6 D ay sa [.ref (ad 0), .int x] (dW ay ad Z) (fun v w => ∃ (m : Nat), m < 2 ∧ x = nI m ∧ v = some (.ref (ad (1 + 5 * m))) ∧ w = (dW ay ad Z)) (fun E w => (E = eIA ∧ (oob x 0 1) ∧ w = (dW ay ad Z))) := by
  refine jMx_of l hfl (by decide) [(0, .ref (ad 0)), (1, .int x)] rfl rfl (fun p9 e9 s9 m9 a9 b9 me9 c9 A9 F hX hT => ?_)
  refine j_iload_n F 1 dX9_chosenMap_0 rfl ?_
  refine j_iconst F (v := 0) dX9_chosenMap_1 (by decide) ?_
  refine j_iconst F (v := 1) dX9_chosenMap_2 (by decide) ?_
  refine j_excallS F hX hT kX9_81 (As := [.int x, .int 0, .int 1]) (rest := []) (c_X9_requireRange l hfl D ay sa x 0 1) rfl rfl rfl rfl ⟨Nat.le_of_ble_eq_true rfl, Nat.le_of_ble_eq_true rfl⟩ dX9_chosenMap_3 ⟨Nat.le_of_ble_eq_true rfl, Nat.le_of_ble_eq_true rfl⟩ (fun E w h => ⟨h.2.2, ⟨h.1, h.2.1, rfl⟩⟩) (fun v w hw => ?_)
  obtain ⟨h3_0, rfl, rfl⟩ := hw
  refine ⟨rfl, ?_⟩
  refine j_iload_n F 1 dX9_chosenMap_6 rfl ?_
  refine j_if_ne F 17 dX9_chosenMap_7 (by decide) (fun c_7 => ?_) (fun c_7 => ?_)
  · skip
    refine j_aload_n F 0 dX9_chosenMap_17 rfl ?_
    refine j_getf F fX9_18 0 rfl rfl dX9_chosenMap_18 ?_
    exact j_xr (j_aret F ⟨1, by decide, (by
      obtain ⟨y, hy, rfl⟩ := nI_rng 1 (by decide) (fun h => h3_0 (Or.inl h)) (fun h => h3_0 (Or.inr h))
      have : y = 1 := by
        rcases (show y = 0 ∨ y = 1 by omega) with rfl | rfl
        · exact absurd rfl c_7
        · rfl
      rw [this]), rfl, rfl⟩ dX9_chosenMap_21 (Nat.le_of_ble_eq_true rfl) (Nat.le_of_ble_eq_true rfl))
  · skip
    refine j_aload_n F 0 dX9_chosenMap_10 rfl ?_
    refine j_getf F fX9_14 0 rfl rfl dX9_chosenMap_11 ?_
    refine j_goto F 21 dX9_chosenMap_14 (by decide) ?_
    exact j_xr (j_aret F ⟨0, by decide, c_7, rfl, rfl⟩ dX9_chosenMap_21 (Nat.le_of_ble_eq_true rfl) (Nat.le_of_ble_eq_true rfl))

set_option maxHeartbeats 4000000 in
set_option maxRecDepth 100000 in
theorem c_X9_chosenCache (l : Launch) (hfl : l.stackTraces = false) (D : va_G) (ay : Nat → ClassId) (sa : Nat → Nat) (ad : Nat → Nat) (Z : DS) (x : Int32) : jMx l yX9_chosenCache (jws yX9_chosenCache cX9_chosenCache 2 (some (.object "LastUseDesk$Cache"))) 7 122 1 6 D ay sa [.ref (ad 0), .int x] (dW ay ad Z) (fun v w => ∃ (i : Nat), i < 8 ∧ x = nI (i + 1) ∧ v = some (.ref (ad (12 + 3 * i))) ∧ w = (dW ay ad Z)) (fun E w => (E = eIA ∧ (oob x 1 8) ∧ w = (dW ay ad Z))) := by
  refine jMx_of l hfl (by decide) [(0, .ref (ad 0)), (1, .int x)] rfl rfl (fun p9 e9 s9 m9 a9 b9 me9 c9 A9 F hX hT => ?_)
  refine j_iload_n F 1 dX9_chosenCache_0 rfl ?_
  refine j_iconst F (v := 1) dX9_chosenCache_1 (by decide) ?_
  refine j_bipush F (v := 8) dX9_chosenCache_2 (by decide) ?_
  refine j_excallS F hX hT kX9_81 (As := [.int x, .int 1, .int 8]) (rest := []) (c_X9_requireRange l hfl D ay sa x 1 8) rfl rfl rfl rfl ⟨Nat.le_of_ble_eq_true rfl, Nat.le_of_ble_eq_true rfl⟩ dX9_chosenCache_4 ⟨Nat.le_of_ble_eq_true rfl, Nat.le_of_ble_eq_true rfl⟩ (fun E w h => ⟨h.2.2, ⟨h.1, h.2.1, rfl⟩⟩) (fun v w hw => ?_)
  obtain ⟨h4_0, rfl, rfl⟩ := hw
  refine ⟨rfl, ?_⟩
  obtain ⟨i, hi, rfl⟩ : ∃ i, i < 8 ∧ x = nI (i + 1) := by
    obtain ⟨y, hy, rfl⟩ := nI_rng 8 (by decide) (fun h => h4_0 (Or.inl (Int32.lt_trans h (by decide)))) (fun h => h4_0 (Or.inr h))
    have h1 : ¬ nI y < 1 := fun h => h4_0 (Or.inl h)
    have h2 : ¬ y < 1 := fun h => h1 ((nI_ltI (by omega) (by decide)).mpr h)
    exact ⟨y - 1, by omega, by rw [show y - 1 + 1 = y by omega]⟩
  refine j_aload_n F 0 dX9_chosenCache_7 rfl ?_
  refine j_getf F fX9_23 0 rfl rfl dX9_chosenCache_8 ?_
  refine j_iload_n F 1 dX9_chosenCache_11 rfl ?_
  refine j_iconst F (v := 1) dX9_chosenCache_12 (by decide) ?_
  refine j_isub F dX9_chosenCache_13 ?_
  refine j_top (nI i) (pk_sub (a := i + 1) (b := 1) (by omega)) ?_
  refine j_aald F 11 i (ad (12 + 3 * i)) rfl rfl hi (Nat.le_of_ble_eq_true rfl) rfl dX9_chosenCache_14 ?_
  exact j_xr (j_aret F ⟨i, hi, rfl, rfl, rfl⟩ dX9_chosenCache_15 (Nat.le_of_ble_eq_true rfl) (Nat.le_of_ble_eq_true rfl))

