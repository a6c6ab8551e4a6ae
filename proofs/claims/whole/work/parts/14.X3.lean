-- ---- Program
/-- a step comes behind cn steps, if there is room -/
def adN (cn : Nat) : Nat := if cn < 200 then cn + 1 else cn
def adF (L : Nat → Int32) (cn : Nat) (x : Int32) : Nat → Int32 := if cn < 200 then upd L cn x else L
/-- the steps from s to e, once more d - 1 times, while there is room -/
def rpN (s e d : Nat) : Nat := min 200 (e + (d - 1) * (e - s))
def rpF (L : Nat → Int32) (s e z : Nat) : Nat → Int32 := fun j => if e ≤ j ∧ j < z then L (s + (j - e) % (e - s)) else L j
theorem rpF_0 (L : Nat → Int32) (s e : Nat) : rpF L s e e = L := by
  funext j
  show (if e ≤ j ∧ j < e then L (s + (j - e) % (e - s)) else L j) = L j
  rw [if_neg (by omega)]
theorem rpF_in {L : Nat → Int32} {s e z j : Nat} (h : j < e) : rpF L s e z j = L j := by
  show (if e ≤ j ∧ j < z then L (s + (j - e) % (e - s)) else L j) = L j
  rw [if_neg (by omega)]
theorem rpF_step {L : Nat → Int32} {s e t i : Nat} (hi : s ≤ i) (hi2 : i < e) : upd (rpF L s e (e + t * (e - s) + (i - s))) (e + t * (e - s) + (i - s)) (L i) = rpF L s e (e + t * (e - s) + (i - s) + 1) := by
  have hm : (e + t * (e - s) + (i - s) - e) % (e - s) = i - s := by
    rw [show e + t * (e - s) + (i - s) - e = (i - s) + (e - s) * t by rw [Nat.mul_comm t]; omega, Nat.add_mul_mod_self_left, Nat.mod_eq_of_lt (by omega)]
  funext j
  show (if j = e + t * (e - s) + (i - s) then L i else (if e ≤ j ∧ j < e + t * (e - s) + (i - s) then L (s + (j - e) % (e - s)) else L j)) = (if e ≤ j ∧ j < e + t * (e - s) + (i - s) + 1 then L (s + (j - e) % (e - s)) else L j)
  by_cases h : j = e + t * (e - s) + (i - s)
  · rw [if_pos h, if_pos (by omega), h, hm, show s + (i - s) = i by omega]
  · rw [if_neg h]
    by_cases h2 : e ≤ j ∧ j < e + t * (e - s) + (i - s)
    · rw [if_pos h2, if_pos (by omega)]
    · rw [if_neg h2, if_neg (by omega)]
set_option maxHeartbeats 4000000 in
set_option maxRecDepth 100000 in
theorem c_X3_restart (l : Launch) (D : va_G) (ay : Nat → ClassId) (q : Nat) (le : Nat) (nu : Nat) (ls : Nat) (lt : Nat) (cn : Nat) (L : Nat → Int32) (M : Nat → Int32) (S : Nat → Int32) (T : Nat → Int32) (op : Nat) : jM l yX3_restart (jws yX3_restart cX3_restart 1 none) 0 0 0 0 D ay [.ref q] [(q, .inr (3, [.ref le, .ref nu, .int (nI cn), .ref ls, .ref lt, .int (nI op)])), (le, .inl (ay 0, 200, .inl L)), (nu, .inl (ay 0, 200, .inl M)), (ls, .inl (ay 0, 4, .inl S)), (lt, .inl (ay 0, 4, .inl T))] (fun v w => v = none ∧ w = [(q, .inr (3, [.ref le, .ref nu, .int (nI 0), .ref ls, .ref lt, .int (nI 0)])), (le, .inl (ay 0, 200, .inl L)), (nu, .inl (ay 0, 200, .inl M)), (ls, .inl (ay 0, 4, .inl S)), (lt, .inl (ay 0, 4, .inl T))]) := by
  refine jM_of l (by decide) [(0, .ref q)] rfl rfl (fun p9 e9 s9 m9 a9 b9 me9 c9 A9 F => ?_)
  refine j_aload_n F 0 dX3_restart_0 rfl ?_
  refine j_iconst F (v := 0) dX3_restart_1 (by decide) ?_
  refine j_putf F fX3_18 0 [(q, .inr (3, [.ref le, .ref nu, .int 0, .ref ls, .ref lt, .int (nI op)])), (le, .inl (ay 0, 200, .inl L)), (nu, .inl (ay 0, 200, .inl M)), (ls, .inl (ay 0, 4, .inl S)), (lt, .inl (ay 0, 4, .inl T))] rfl rfl rfl rfl rfl (Nat.le_of_ble_eq_true rfl) dX3_restart_2 ?_
  refine j_aload_n F 0 dX3_restart_5 rfl ?_
  refine j_iconst F (v := 0) dX3_restart_6 (by decide) ?_
  refine j_putf F fX3_28 0 [(q, .inr (3, [.ref le, .ref nu, .int 0, .ref ls, .ref lt, .int 0])), (le, .inl (ay 0, 200, .inl L)), (nu, .inl (ay 0, 200, .inl M)), (ls, .inl (ay 0, 4, .inl S)), (lt, .inl (ay 0, 4, .inl T))] rfl rfl rfl rfl rfl (Nat.le_of_ble_eq_true rfl) dX3_restart_7 ?_
  exact j_vret F ⟨rfl, rfl⟩ dX3_restart_10 (Nat.le_of_ble_eq_true rfl) (Nat.le_of_ble_eq_true rfl)

set_option maxHeartbeats 4000000 in
set_option maxRecDepth 100000 in
theorem c_X3_length (l : Launch) (D : va_G) (ay : Nat → ClassId) (q : Nat) (le : Nat) (nu : Nat) (ls : Nat) (lt : Nat) (cn : Nat) (L : Nat → Int32) (M : Nat → Int32) (S : Nat → Int32) (T : Nat → Int32) (op : Nat) : jM l yX3_length (jws yX3_length cX3_length 1 (some .int)) 0 0 0 0 D ay [.ref q] [(q, .inr (3, [.ref le, .ref nu, .int (nI cn), .ref ls, .ref lt, .int (nI op)])), (le, .inl (ay 0, 200, .inl L)), (nu, .inl (ay 0, 200, .inl M)), (ls, .inl (ay 0, 4, .inl S)), (lt, .inl (ay 0, 4, .inl T))] (fun v w => v = some (.int (nI cn)) ∧ w = [(q, .inr (3, [.ref le, .ref nu, .int (nI cn), .ref ls, .ref lt, .int (nI op)])), (le, .inl (ay 0, 200, .inl L)), (nu, .inl (ay 0, 200, .inl M)), (ls, .inl (ay 0, 4, .inl S)), (lt, .inl (ay 0, 4, .inl T))]) := by
  refine jM_of l (by decide) [(0, .ref q)] rfl rfl (fun p9 e9 s9 m9 a9 b9 me9 c9 A9 F => ?_)
  refine j_aload_n F 0 dX3_length_0 rfl ?_
  refine j_getf F fX3_18 0 rfl rfl dX3_length_1 ?_
  exact j_iret F ⟨rfl, rfl⟩ dX3_length_4 (Nat.le_of_ble_eq_true rfl) (Nat.le_of_ble_eq_true rfl)

set_option maxHeartbeats 4000000 in
set_option maxRecDepth 100000 in
theorem c_X3_letterIn (l : Launch) (D : va_G) (ay : Nat → ClassId) (q : Nat) (le : Nat) (nu : Nat) (ls : Nat) (lt : Nat) (cn : Nat) (L : Nat → Int32) (M : Nat → Int32) (S : Nat → Int32) (T : Nat → Int32) (op : Nat) (j : Nat) (hc : cn ≤ 200) (hj : j < cn) : jM l yX3_letterIn (jws yX3_letterIn cX3_letterIn 2 (some .int)) 0 0 0 0 D ay [.ref q, .int (nI j)] [(q, .inr (3, [.ref le, .ref nu, .int (nI cn), .ref ls, .ref lt, .int (nI op)])), (le, .inl (ay 0, 200, .inl L)), (nu, .inl (ay 0, 200, .inl M)), (ls, .inl (ay 0, 4, .inl S)), (lt, .inl (ay 0, 4, .inl T))] (fun v w => v = some (.int (L j)) ∧ w = [(q, .inr (3, [.ref le, .ref nu, .int (nI cn), .ref ls, .ref lt, .int (nI op)])), (le, .inl (ay 0, 200, .inl L)), (nu, .inl (ay 0, 200, .inl M)), (ls, .inl (ay 0, 4, .inl S)), (lt, .inl (ay 0, 4, .inl T))]) := by
  refine jM_of l (by decide) [(0, .ref q), (1, .int (nI j))] rfl rfl (fun p9 e9 s9 m9 a9 b9 me9 c9 A9 F => ?_)
  refine j_iload_n F 1 dX3_letterIn_0 rfl ?_
  refine j_if_lt F 21 dX3_letterIn_1 (by decide) (fun c_1 => absurd c_1 (nI_pos (by omega))) (fun c_1 => ?_)
  refine j_iload_n F 1 dX3_letterIn_4 rfl ?_
  refine j_aload_n F 0 dX3_letterIn_5 rfl ?_
  refine j_getf F fX3_18 0 rfl rfl dX3_letterIn_6 ?_
  refine j_icmp_ge F 21 dX3_letterIn_9 (by decide) (fun c_9 => absurd c_9 (nI_ge hj (by omega))) (fun c_9 => ?_)
  refine j_aload_n F 0 dX3_letterIn_12 rfl ?_
  refine j_getf F fX3_9 0 rfl rfl dX3_letterIn_13 ?_
  refine j_iload_n F 1 dX3_letterIn_16 rfl ?_
  refine j_iald F 1 j rfl rfl (by omega) (Nat.le_of_ble_eq_true rfl) dX3_letterIn_17 ?_
  refine j_goto F 22 dX3_letterIn_18 (by decide) ?_
  exact j_iret F ⟨rfl, rfl⟩ dX3_letterIn_22 (Nat.le_of_ble_eq_true rfl) (Nat.le_of_ble_eq_true rfl)

set_option maxHeartbeats 4000000 in
set_option maxRecDepth 100000 in
theorem c_X3_numberIn (l : Launch) (D : va_G) (ay : Nat → ClassId) (q : Nat) (le : Nat) (nu : Nat) (ls : Nat) (lt : Nat) (cn : Nat) (L : Nat → Int32) (M : Nat → Int32) (S : Nat → Int32) (T : Nat → Int32) (op : Nat) (j : Nat) (hc : cn ≤ 200) (hj : j < cn) : jM l yX3_numberIn (jws yX3_numberIn cX3_numberIn 2 (some .int)) 0 0 0 0 D ay [.ref q, .int (nI j)] [(q, .inr (3, [.ref le, .ref nu, .int (nI cn), .ref ls, .ref lt, .int (nI op)])), (le, .inl (ay 0, 200, .inl L)), (nu, .inl (ay 0, 200, .inl M)), (ls, .inl (ay 0, 4, .inl S)), (lt, .inl (ay 0, 4, .inl T))] (fun v w => v = some (.int (M j)) ∧ w = [(q, .inr (3, [.ref le, .ref nu, .int (nI cn), .ref ls, .ref lt, .int (nI op)])), (le, .inl (ay 0, 200, .inl L)), (nu, .inl (ay 0, 200, .inl M)), (ls, .inl (ay 0, 4, .inl S)), (lt, .inl (ay 0, 4, .inl T))]) := by
  refine jM_of l (by decide) [(0, .ref q), (1, .int (nI j))] rfl rfl (fun p9 e9 s9 m9 a9 b9 me9 c9 A9 F => ?_)
  refine j_iload_n F 1 dX3_numberIn_0 rfl ?_
  refine j_if_lt F 21 dX3_numberIn_1 (by decide) (fun c_1 => absurd c_1 (nI_pos (by omega))) (fun c_1 => ?_)
  refine j_iload_n F 1 dX3_numberIn_4 rfl ?_
  refine j_aload_n F 0 dX3_numberIn_5 rfl ?_
  refine j_getf F fX3_18 0 rfl rfl dX3_numberIn_6 ?_
  refine j_icmp_ge F 21 dX3_numberIn_9 (by decide) (fun c_9 => absurd c_9 (nI_ge hj (by omega))) (fun c_9 => ?_)
  refine j_aload_n F 0 dX3_numberIn_12 rfl ?_
  refine j_getf F fX3_15 0 rfl rfl dX3_numberIn_13 ?_
  refine j_iload_n F 1 dX3_numberIn_16 rfl ?_
  refine j_iald F 2 j rfl rfl (by omega) (Nat.le_of_ble_eq_true rfl) dX3_numberIn_17 ?_
  refine j_goto F 22 dX3_numberIn_18 (by decide) ?_
  exact j_iret F ⟨rfl, rfl⟩ dX3_numberIn_22 (Nat.le_of_ble_eq_true rfl) (Nat.le_of_ble_eq_true rfl)

set_option maxHeartbeats 4000000 in
set_option maxRecDepth 100000 in
theorem c_X3_isInLoop (l : Launch) (D : va_G) (ay : Nat → ClassId) (q : Nat) (le : Nat) (nu : Nat) (ls : Nat) (lt : Nat) (cn : Nat) (L : Nat → Int32) (M : Nat → Int32) (S : Nat → Int32) (T : Nat → Int32) (op : Nat) (ho : op ≤ 4) : jM l yX3_isInLoop (jws yX3_isInLoop cX3_isInLoop 1 (some .boolean)) 0 0 0 0 D ay [.ref q] [(q, .inr (3, [.ref le, .ref nu, .int (nI cn), .ref ls, .ref lt, .int (nI op)])), (le, .inl (ay 0, 200, .inl L)), (nu, .inl (ay 0, 200, .inl M)), (ls, .inl (ay 0, 4, .inl S)), (lt, .inl (ay 0, 4, .inl T))] (fun v w => v = some (.int (if 0 < op then 1 else 0)) ∧ w = [(q, .inr (3, [.ref le, .ref nu, .int (nI cn), .ref ls, .ref lt, .int (nI op)])), (le, .inl (ay 0, 200, .inl L)), (nu, .inl (ay 0, 200, .inl M)), (ls, .inl (ay 0, 4, .inl S)), (lt, .inl (ay 0, 4, .inl T))]) := by
  refine jM_of l (by decide) [(0, .ref q)] rfl rfl (fun p9 e9 s9 m9 a9 b9 me9 c9 A9 F => ?_)
  refine j_aload_n F 0 dX3_isInLoop_0 rfl ?_
  refine j_getf F fX3_28 0 rfl rfl dX3_isInLoop_1 ?_
  refine j_if_le F 11 dX3_isInLoop_4 (by decide) (fun c_4 => ?_) (fun c_4 => ?_)
  · skip
    have n_4 := (n_le op 0 rfl rfl (by omega) (by omega)).mp c_4
    refine j_iconst F (v := 0) dX3_isInLoop_11 (by decide) ?_
    exact j_zret F (Or.inl rfl) ⟨by rw [if_neg (show ¬ 0 < op by omega)], rfl⟩ dX3_isInLoop_12 (Nat.le_of_ble_eq_true rfl) (Nat.le_of_ble_eq_true rfl)
  · skip
    have n_4 := mt (n_le op 0 rfl rfl (by omega) (by omega)).mpr c_4
    refine j_iconst F (v := 1) dX3_isInLoop_7 (by decide) ?_
    refine j_goto F 12 dX3_isInLoop_8 (by decide) ?_
    exact j_zret F (Or.inr rfl) ⟨by rw [if_pos (show 0 < op by omega)], rfl⟩ dX3_isInLoop_12 (Nat.le_of_ble_eq_true rfl) (Nat.le_of_ble_eq_true rfl)

set_option maxHeartbeats 4000000 in
set_option maxRecDepth 100000 in
theorem c_X3_canOpenLoop (l : Launch) (D : va_G) (ay : Nat → ClassId) (q : Nat) (le : Nat) (nu : Nat) (ls : Nat) (lt : Nat) (cn : Nat) (L : Nat → Int32) (M : Nat → Int32) (S : Nat → Int32) (T : Nat → Int32) (op : Nat) (ho : op ≤ 4) : jM l yX3_canOpenLoop (jws yX3_canOpenLoop cX3_canOpenLoop 1 (some .boolean)) 0 0 0 0 D ay [.ref q] [(q, .inr (3, [.ref le, .ref nu, .int (nI cn), .ref ls, .ref lt, .int (nI op)])), (le, .inl (ay 0, 200, .inl L)), (nu, .inl (ay 0, 200, .inl M)), (ls, .inl (ay 0, 4, .inl S)), (lt, .inl (ay 0, 4, .inl T))] (fun v w => v = some (.int (if op < 4 then 1 else 0)) ∧ w = [(q, .inr (3, [.ref le, .ref nu, .int (nI cn), .ref ls, .ref lt, .int (nI op)])), (le, .inl (ay 0, 200, .inl L)), (nu, .inl (ay 0, 200, .inl M)), (ls, .inl (ay 0, 4, .inl S)), (lt, .inl (ay 0, 4, .inl T))]) := by
  refine jM_of l (by decide) [(0, .ref q)] rfl rfl (fun p9 e9 s9 m9 a9 b9 me9 c9 A9 F => ?_)
  refine j_aload_n F 0 dX3_canOpenLoop_0 rfl ?_
  refine j_getf F fX3_28 0 rfl rfl dX3_canOpenLoop_1 ?_
  refine j_iconst F (v := 4) dX3_canOpenLoop_4 (by decide) ?_
  refine j_icmp_ge F 12 dX3_canOpenLoop_5 (by decide) (fun c_5 => ?_) (fun c_5 => ?_)
  · skip
    have n_5 := (n_le 4 op rfl rfl (by omega) (by omega)).mp c_5
    refine j_iconst F (v := 0) dX3_canOpenLoop_12 (by decide) ?_
    exact j_zret F (Or.inl rfl) ⟨by rw [if_neg (show ¬ op < 4 by omega)], rfl⟩ dX3_canOpenLoop_13 (Nat.le_of_ble_eq_true rfl) (Nat.le_of_ble_eq_true rfl)
  · skip
    have n_5 := mt (n_le 4 op rfl rfl (by omega) (by omega)).mpr c_5
    refine j_iconst F (v := 1) dX3_canOpenLoop_8 (by decide) ?_
    refine j_goto F 13 dX3_canOpenLoop_9 (by decide) ?_
    exact j_zret F (Or.inr rfl) ⟨by rw [if_pos (show op < 4 by omega)], rfl⟩ dX3_canOpenLoop_13 (Nat.le_of_ble_eq_true rfl) (Nat.le_of_ble_eq_true rfl)

set_option maxHeartbeats 4000000 in
set_option maxRecDepth 100000 in
theorem c_X3_addStep (l : Launch) (D : va_G) (ay : Nat → ClassId) (q : Nat) (le : Nat) (nu : Nat) (ls : Nat) (lt : Nat) (cn : Nat) (L : Nat → Int32) (M : Nat → Int32) (S : Nat → Int32) (T : Nat → Int32) (op : Nat) (x : Int32) (y : Int32) (hc : cn ≤ 200) : jM l yX3_addStep (jws yX3_addStep cX3_addStep 3 none) 0 0 0 0 D ay [.ref q, .int x, .int y] [(q, .inr (3, [.ref le, .ref nu, .int (nI cn), .ref ls, .ref lt, .int (nI op)])), (le, .inl (ay 0, 200, .inl L)), (nu, .inl (ay 0, 200, .inl M)), (ls, .inl (ay 0, 4, .inl S)), (lt, .inl (ay 0, 4, .inl T))] (fun v w => v = none ∧ w = [(q, .inr (3, [.ref le, .ref nu, .int (nI (adN cn)), .ref ls, .ref lt, .int (nI op)])), (le, .inl (ay 0, 200, .inl (adF L cn x))), (nu, .inl (ay 0, 200, .inl (adF M cn y))), (ls, .inl (ay 0, 4, .inl S)), (lt, .inl (ay 0, 4, .inl T))]) := by
  refine jM_of l (by decide) [(0, .ref q), (1, .int x), (2, .int y)] rfl rfl (fun p9 e9 s9 m9 a9 b9 me9 c9 A9 F => ?_)
  refine j_aload_n F 0 dX3_addStep_0 rfl ?_
  refine j_getf F fX3_18 0 rfl rfl dX3_addStep_1 ?_
  refine j_sipush F (v := 200) dX3_addStep_4 (by decide) ?_
  refine j_icmp_ge F 40 dX3_addStep_7 (by decide) (fun c_7 => ?_) (fun c_7 => ?_)
  · skip
    have n_7 := (n_le 200 cn rfl rfl (by omega) (by omega)).mp c_7
    exact j_vret F ⟨rfl, by simp only [adN, adF, if_neg (show ¬ cn < 200 by omega)]⟩ dX3_addStep_40 (Nat.le_of_ble_eq_true rfl) (Nat.le_of_ble_eq_true rfl)
  · skip
    have n_7 := mt (n_le 200 cn rfl rfl (by omega) (by omega)).mpr c_7
    refine j_aload_n F 0 dX3_addStep_10 rfl ?_
    refine j_getf F fX3_9 0 rfl rfl dX3_addStep_11 ?_
    refine j_aload_n F 0 dX3_addStep_14 rfl ?_
    refine j_getf F fX3_18 0 rfl rfl dX3_addStep_15 ?_
    refine j_iload_n F 1 dX3_addStep_18 rfl ?_
    refine j_iast F 1 [(q, .inr (3, [.ref le, .ref nu, .int (nI cn), .ref ls, .ref lt, .int (nI op)])), (le, .inl (ay 0, 200, .inl (upd L cn x))), (nu, .inl (ay 0, 200, .inl M)), (ls, .inl (ay 0, 4, .inl S)), (lt, .inl (ay 0, 4, .inl T))] cn rfl rfl (by omega) (Nat.le_of_ble_eq_true rfl) rfl dX3_addStep_19 ?_
    refine j_aload_n F 0 dX3_addStep_20 rfl ?_
    refine j_getf F fX3_15 0 rfl rfl dX3_addStep_21 ?_
    refine j_aload_n F 0 dX3_addStep_24 rfl ?_
    refine j_getf F fX3_18 0 rfl rfl dX3_addStep_25 ?_
    refine j_iload_n F 2 dX3_addStep_28 rfl ?_
    refine j_iast F 2 [(q, .inr (3, [.ref le, .ref nu, .int (nI cn), .ref ls, .ref lt, .int (nI op)])), (le, .inl (ay 0, 200, .inl (upd L cn x))), (nu, .inl (ay 0, 200, .inl (upd M cn y))), (ls, .inl (ay 0, 4, .inl S)), (lt, .inl (ay 0, 4, .inl T))] cn rfl rfl (by omega) (Nat.le_of_ble_eq_true rfl) rfl dX3_addStep_29 ?_
    refine j_aload_n F 0 dX3_addStep_30 rfl ?_
    refine j_dup F dX3_addStep_31 rfl ?_
    refine j_getf F fX3_18 0 rfl rfl dX3_addStep_32 ?_
    refine j_iconst F (v := 1) dX3_addStep_35 (by decide) ?_
    refine j_iadd F dX3_addStep_36 ?_
    refine j_top (nI (cn + 1)) (nI_add _ _) ?_
    refine j_putf F fX3_18 0 [(q, .inr (3, [.ref le, .ref nu, .int (nI (cn + 1)), .ref ls, .ref lt, .int (nI op)])), (le, .inl (ay 0, 200, .inl (upd L cn x))), (nu, .inl (ay 0, 200, .inl (upd M cn y))), (ls, .inl (ay 0, 4, .inl S)), (lt, .inl (ay 0, 4, .inl T))] rfl rfl rfl rfl rfl (Nat.le_of_ble_eq_true rfl) dX3_addStep_37 ?_
    exact j_vret F ⟨rfl, by simp only [adN, adF, if_pos (show cn < 200 by omega)]⟩ dX3_addStep_40 (Nat.le_of_ble_eq_true rfl) (Nat.le_of_ble_eq_true rfl)

set_option maxHeartbeats 4000000 in
set_option maxRecDepth 100000 in
theorem c_X3_openLoop (l : Launch) (D : va_G) (ay : Nat → ClassId) (q : Nat) (le : Nat) (nu : Nat) (ls : Nat) (lt : Nat) (cn : Nat) (L : Nat → Int32) (M : Nat → Int32) (S : Nat → Int32) (T : Nat → Int32) (op : Nat) (x : Int32) (ho : op < 4) : jM l yX3_openLoop (jws yX3_openLoop cX3_openLoop 2 none) 0 0 0 0 D ay [.ref q, .int x] [(q, .inr (3, [.ref le, .ref nu, .int (nI cn), .ref ls, .ref lt, .int (nI op)])), (le, .inl (ay 0, 200, .inl L)), (nu, .inl (ay 0, 200, .inl M)), (ls, .inl (ay 0, 4, .inl S)), (lt, .inl (ay 0, 4, .inl T))] (fun v w => v = none ∧ w = [(q, .inr (3, [.ref le, .ref nu, .int (nI cn), .ref ls, .ref lt, .int (nI (op + 1))])), (le, .inl (ay 0, 200, .inl L)), (nu, .inl (ay 0, 200, .inl M)), (ls, .inl (ay 0, 4, .inl (upd S op (nI cn)))), (lt, .inl (ay 0, 4, .inl (upd T op x)))]) := by
  refine jM_of l (by decide) [(0, .ref q), (1, .int x)] rfl rfl (fun p9 e9 s9 m9 a9 b9 me9 c9 A9 F => ?_)
  refine j_aload_n F 0 dX3_openLoop_0 rfl ?_
  refine j_getf F fX3_28 0 rfl rfl dX3_openLoop_1 ?_
  refine j_iconst F (v := 4) dX3_openLoop_4 (by decide) ?_
  refine j_icmp_ge F 41 dX3_openLoop_5 (by decide) (fun c_5 => absurd c_5 (nI_ge (b := 4) ho (by decide))) (fun c_5 => ?_)
  refine j_aload_n F 0 dX3_openLoop_8 rfl ?_
  refine j_getf F fX3_22 0 rfl rfl dX3_openLoop_9 ?_
  refine j_aload_n F 0 dX3_openLoop_12 rfl ?_
  refine j_getf F fX3_28 0 rfl rfl dX3_openLoop_13 ?_
  refine j_aload_n F 0 dX3_openLoop_16 rfl ?_
  refine j_getf F fX3_18 0 rfl rfl dX3_openLoop_17 ?_
  refine j_iast F 3 [(q, .inr (3, [.ref le, .ref nu, .int (nI cn), .ref ls, .ref lt, .int (nI op)])), (le, .inl (ay 0, 200, .inl L)), (nu, .inl (ay 0, 200, .inl M)), (ls, .inl (ay 0, 4, .inl (upd S op (nI cn)))), (lt, .inl (ay 0, 4, .inl T))] op rfl rfl (by omega) (Nat.le_of_ble_eq_true rfl) rfl dX3_openLoop_20 ?_
  refine j_aload_n F 0 dX3_openLoop_21 rfl ?_
  refine j_getf F fX3_25 0 rfl rfl dX3_openLoop_22 ?_
  refine j_aload_n F 0 dX3_openLoop_25 rfl ?_
  refine j_getf F fX3_28 0 rfl rfl dX3_openLoop_26 ?_
  refine j_iload_n F 1 dX3_openLoop_29 rfl ?_
  refine j_iast F 4 [(q, .inr (3, [.ref le, .ref nu, .int (nI cn), .ref ls, .ref lt, .int (nI op)])), (le, .inl (ay 0, 200, .inl L)), (nu, .inl (ay 0, 200, .inl M)), (ls, .inl (ay 0, 4, .inl (upd S op (nI cn)))), (lt, .inl (ay 0, 4, .inl (upd T op x)))] op rfl rfl (by omega) (Nat.le_of_ble_eq_true rfl) rfl dX3_openLoop_30 ?_
  refine j_aload_n F 0 dX3_openLoop_31 rfl ?_
  refine j_dup F dX3_openLoop_32 rfl ?_
  refine j_getf F fX3_28 0 rfl rfl dX3_openLoop_33 ?_
  refine j_iconst F (v := 1) dX3_openLoop_36 (by decide) ?_
  refine j_iadd F dX3_openLoop_37 ?_
  refine j_top (nI (op + 1)) (nI_add _ _) ?_
  refine j_putf F fX3_28 0 [(q, .inr (3, [.ref le, .ref nu, .int (nI cn), .ref ls, .ref lt, .int (nI (op + 1))])), (le, .inl (ay 0, 200, .inl L)), (nu, .inl (ay 0, 200, .inl M)), (ls, .inl (ay 0, 4, .inl (upd S op (nI cn)))), (lt, .inl (ay 0, 4, .inl (upd T op x)))] rfl rfl rfl rfl rfl (Nat.le_of_ble_eq_true rfl) dX3_openLoop_38 ?_
  exact j_vret F ⟨rfl, rfl⟩ dX3_openLoop_41 (Nat.le_of_ble_eq_true rfl) (Nat.le_of_ble_eq_true rfl)

set_option maxHeartbeats 4000000 in
set_option maxRecDepth 100000 in
theorem c_X3_closeLoop (l : Launch) (D : va_G) (ay : Nat → ClassId) (q : Nat) (le : Nat) (nu : Nat) (ls : Nat) (lt : Nat) (cn : Nat) (L : Nat → Int32) (M : Nat → Int32) (S : Nat → Int32) (T : Nat → Int32) (op : Nat) (s : Nat) (d : Nat) (hc : cn ≤ 200) (ho : 1 ≤ op ∧ op ≤ 4) (hs : S (op - 1) = nI s ∧ s ≤ cn) (hd : T (op - 1) = nI d ∧ 1 ≤ d ∧ d ≤ 9) : jM l yX3_closeLoop (jws yX3_closeLoop cX3_closeLoop 5 none) 1 22 0 0 D ay [.ref q] [(q, .inr (3, [.ref le, .ref nu, .int (nI cn), .ref ls, .ref lt, .int (nI op)])), (le, .inl (ay 0, 200, .inl L)), (nu, .inl (ay 0, 200, .inl M)), (ls, .inl (ay 0, 4, .inl S)), (lt, .inl (ay 0, 4, .inl T))] (fun v w => v = none ∧ w = [(q, .inr (3, [.ref le, .ref nu, .int (nI (rpN s cn d)), .ref ls, .ref lt, .int (nI (op - 1))])), (le, .inl (ay 0, 200, .inl (rpF L s cn (rpN s cn d)))), (nu, .inl (ay 0, 200, .inl (rpF M s cn (rpN s cn d)))), (ls, .inl (ay 0, 4, .inl S)), (lt, .inl (ay 0, 4, .inl T))]) := by
  refine jM_of l (by decide) [(0, .ref q)] rfl rfl (fun p9 e9 s9 m9 a9 b9 me9 c9 A9 F => ?_)
  refine j_aload_n F 0 dX3_closeLoop_0 rfl ?_
  refine j_getf F fX3_28 0 rfl rfl dX3_closeLoop_1 ?_
  refine j_if_gt F 8 dX3_closeLoop_4 (by decide) (fun c_4 => ?_) (fun c_4 => absurd (show (0 : Int32) < nI op from nI_lt (a := 0) (by omega) (by omega)) c_4)
  refine j_aload_n F 0 dX3_closeLoop_8 rfl ?_
  refine j_dup F dX3_closeLoop_9 rfl ?_
  refine j_getf F fX3_28 0 rfl rfl dX3_closeLoop_10 ?_
  refine j_iconst F (v := 1) dX3_closeLoop_13 (by decide) ?_
  refine j_isub F dX3_closeLoop_14 ?_
  refine j_top (nI (op - 1)) (pk_sub (a := op) (b := 1) (by omega)) ?_
  refine j_putf F fX3_28 0 [(q, .inr (3, [.ref le, .ref nu, .int (nI cn), .ref ls, .ref lt, .int (nI (op - 1))])), (le, .inl (ay 0, 200, .inl L)), (nu, .inl (ay 0, 200, .inl M)), (ls, .inl (ay 0, 4, .inl S)), (lt, .inl (ay 0, 4, .inl T))] rfl rfl rfl rfl rfl (Nat.le_of_ble_eq_true rfl) dX3_closeLoop_15 ?_
  refine j_aload_n F 0 dX3_closeLoop_18 rfl ?_
  refine j_getf F fX3_22 0 rfl rfl dX3_closeLoop_19 ?_
  refine j_aload_n F 0 dX3_closeLoop_22 rfl ?_
  refine j_getf F fX3_28 0 rfl rfl dX3_closeLoop_23 ?_
  refine j_iald F 3 (op - 1) rfl rfl (by omega) (Nat.le_of_ble_eq_true rfl) dX3_closeLoop_26 ?_
  refine j_top (nI s) hs.1 ?_
  refine j_istore_n F 1 [(1, .int (nI s)), (0, .ref q)] dX3_closeLoop_27 rfl (by decide) rfl ?_
  refine j_aload_n F 1 dX3_closeLoop_28 rfl ?_
  refine j_getf F fX3_18 0 rfl rfl dX3_closeLoop_29 ?_
  refine j_istore_n F 2 [(2, .int (nI cn)), (1, .int (nI s)), (0, .ref q)] dX3_closeLoop_32 rfl (by decide) rfl ?_
  refine j_iconst F (v := 1) dX3_closeLoop_33 (by decide) ?_
  refine j_istore_n F 3 [(3, .int 1), (2, .int (nI cn)), (1, .int (nI s)), (0, .ref q)] dX3_closeLoop_34 rfl (by decide) rfl ?_
  refine j_loop (σ := Nat) (fun t1 => 1 ≤ t1 ∧ t1 ≤ d) (fun t1 => d - t1) (fun t1 => [(3, .int (nI t1)), (2, .int (nI cn)), (1, .int (nI s)), (0, .ref q)]) (fun t1 => [(q, .inr (3, [.ref le, .ref nu, .int (nI (rpN s cn t1)), .ref ls, .ref lt, .int (nI (op - 1))])), (le, .inl (ay 0, 200, .inl (rpF L s cn (rpN s cn t1)))), (nu, .inl (ay 0, 200, .inl (rpF M s cn (rpN s cn t1)))), (ls, .inl (ay 0, 4, .inl S)), (lt, .inl (ay 0, 4, .inl T))]) 1 ⟨Nat.le_refl _, hd.2.1⟩ rfl (by rw [show rpN s cn 1 = cn by unfold rpN; omega, rpF_0, rpF_0]) (fun t1 hI ih => ?_)
  obtain ⟨ht, ht2⟩ := hI
  refine j_iload_n F 0 dX3_closeLoop_35 rfl ?_
  refine j_aload_n F 3 dX3_closeLoop_36 rfl ?_
  refine j_getf F fX3_25 0 rfl rfl dX3_closeLoop_37 ?_
  refine j_aload_n F 3 dX3_closeLoop_40 rfl ?_
  refine j_getf F fX3_28 0 rfl rfl dX3_closeLoop_41 ?_
  refine j_iald F 4 (op - 1) rfl rfl (by omega) (Nat.le_of_ble_eq_true rfl) dX3_closeLoop_44 ?_
  refine j_top (nI d) hd.1 ?_
  refine j_icmp_ge F 85 dX3_closeLoop_45 (by decide) (fun c_45 => ?_) (fun c_45 => ?_)
  · skip
    have n_45 := (n_le d t1 rfl rfl (by omega) (by omega)).mp c_45
    exact j_vret F ⟨rfl, by rw [show t1 = d by omega]⟩ dX3_closeLoop_85 (Nat.le_of_ble_eq_true rfl) (Nat.le_of_ble_eq_true rfl)
  · skip
    have n_45 := mt (n_le d t1 rfl rfl (by omega) (by omega)).mpr c_45
    refine j_iload_n F 2 dX3_closeLoop_48 rfl ?_
    refine j_istore F 4 [(4, .int (nI s)), (3, .int (nI t1)), (2, .int (nI cn)), (1, .int (nI s)), (0, .ref q)] dX3_closeLoop_49 (by decide) rfl ?_
    refine j_loop (σ := Nat) (fun i => s ≤ i ∧ i ≤ cn) (fun i => cn - i) (fun i => [(4, .int (nI i)), (3, .int (nI t1)), (2, .int (nI cn)), (1, .int (nI s)), (0, .ref q)]) (fun i => [(q, .inr (3, [.ref le, .ref nu, .int (nI (min 200 (cn + (t1 - 1) * (cn - s) + (i - s)))), .ref ls, .ref lt, .int (nI (op - 1))])), (le, .inl (ay 0, 200, .inl (rpF L s cn (min 200 (cn + (t1 - 1) * (cn - s) + (i - s)))))), (nu, .inl (ay 0, 200, .inl (rpF M s cn (min 200 (cn + (t1 - 1) * (cn - s) + (i - s)))))), (ls, .inl (ay 0, 4, .inl S)), (lt, .inl (ay 0, 4, .inl T))]) s ⟨Nat.le_refl _, hs.2⟩ rfl (by rw [Nat.sub_self, Nat.add_zero]; rfl) (fun i hI ih2 => ?_)
    obtain ⟨hi, hi2⟩ := hI
    refine j_iload F 0 dX3_closeLoop_51 rfl ?_
    refine j_iload_n F 2 dX3_closeLoop_53 rfl ?_
    refine j_icmp_ge F 79 dX3_closeLoop_54 (by decide) (fun c_54 => ?_) (fun c_54 => ?_)
    · skip
      have n_54 := (n_le cn i rfl rfl (by omega) (by omega)).mp c_54
      refine j_iinc F 1 (nI (t1 + 1)) [(3, .int (nI (t1 + 1))), (4, .int (nI i)), (2, .int (nI cn)), (1, .int (nI s)), (0, .ref q)] dX3_closeLoop_79 rfl (nI_1 _) (by decide) rfl ?_
      refine j_goto F 35 dX3_closeLoop_82 (by decide) ?_
      have e9 : min 200 (cn + (t1 - 1) * (cn - s) + (i - s)) = rpN s cn (t1 + 1) := by unfold rpN; rw [show i = cn by omega, show t1 + 1 - 1 = (t1 - 1) + 1 by omega, Nat.add_mul, Nat.one_mul]; omega
      rw [e9]
      refine j_sub [0, 2, 3, 4] [(3, .int (nI (t1 + 1))), (2, .int (nI cn)), (1, .int (nI s)), (0, .ref q)] rfl ?_
      exact ih (t1 + 1) ⟨by omega, by omega⟩ (by show d - (t1 + 1) < d - t1; omega)
    · skip
      have n_54 := mt (n_le cn i rfl rfl (by omega) (by omega)).mpr c_54
      refine j_aload_n F 4 dX3_closeLoop_57 rfl ?_
      refine j_aload_n F 4 dX3_closeLoop_58 rfl ?_
      refine j_iload F 0 dX3_closeLoop_59 rfl ?_
      refine j_callV F kX3_31 (As := [.int (nI i)]) (rest := [.ref q]) (c_X3_letterIn l D ay q le nu ls lt (min 200 (cn + (t1 - 1) * (cn - s) + (i - s))) (rpF L s cn (min 200 (cn + (t1 - 1) * (cn - s) + (i - s)))) (rpF M s cn (min 200 (cn + (t1 - 1) * (cn - s) + (i - s)))) S T (op - 1) i (by omega) (by omega)) 0 [0, 1, 2, 3, 4] [] [] rfl rfl rfl rfl rfl rfl rfl ⟨Nat.le_of_ble_eq_true rfl, Nat.le_of_ble_eq_true rfl⟩ dX3_closeLoop_61 (fun v w hw => ?_)
      obtain ⟨rfl, rfl⟩ := hw
      refine j_perm [0, 1, 2, 3, 4] [(q, .inr (3, [.ref le, .ref nu, .int (nI (min 200 (cn + (t1 - 1) * (cn - s) + (i - s)))), .ref ls, .ref lt, .int (nI (op - 1))])), (le, .inl (ay 0, 200, .inl (rpF L s cn (min 200 (cn + (t1 - 1) * (cn - s) + (i - s)))))), (nu, .inl (ay 0, 200, .inl (rpF M s cn (min 200 (cn + (t1 - 1) * (cn - s) + (i - s)))))), (ls, .inl (ay 0, 4, .inl S)), (lt, .inl (ay 0, 4, .inl T))] rfl rfl ?_
      refine j_aload_n F 4 dX3_closeLoop_64 rfl ?_
      refine j_iload F 0 dX3_closeLoop_65 rfl ?_
      refine j_callV F kX3_35 (As := [.int (nI i)]) (rest := [.int ((rpF L s cn (min 200 (cn + (t1 - 1) * (cn - s) + (i - s)))) i), .ref q]) (c_X3_numberIn l D ay q le nu ls lt (min 200 (cn + (t1 - 1) * (cn - s) + (i - s))) (rpF L s cn (min 200 (cn + (t1 - 1) * (cn - s) + (i - s)))) (rpF M s cn (min 200 (cn + (t1 - 1) * (cn - s) + (i - s)))) S T (op - 1) i (by omega) (by omega)) 0 [0, 1, 2, 3, 4] [] [] rfl rfl rfl rfl rfl rfl rfl ⟨Nat.le_of_ble_eq_true rfl, Nat.le_of_ble_eq_true rfl⟩ dX3_closeLoop_67 (fun v w hw => ?_)
      obtain ⟨rfl, rfl⟩ := hw
      refine j_perm [0, 1, 2, 3, 4] [(q, .inr (3, [.ref le, .ref nu, .int (nI (min 200 (cn + (t1 - 1) * (cn - s) + (i - s)))), .ref ls, .ref lt, .int (nI (op - 1))])), (le, .inl (ay 0, 200, .inl (rpF L s cn (min 200 (cn + (t1 - 1) * (cn - s) + (i - s)))))), (nu, .inl (ay 0, 200, .inl (rpF M s cn (min 200 (cn + (t1 - 1) * (cn - s) + (i - s)))))), (ls, .inl (ay 0, 4, .inl S)), (lt, .inl (ay 0, 4, .inl T))] rfl rfl ?_
      refine j_callV F kX3_38 (As := [.int ((rpF L s cn (min 200 (cn + (t1 - 1) * (cn - s) + (i - s)))) i), .int ((rpF M s cn (min 200 (cn + (t1 - 1) * (cn - s) + (i - s)))) i)]) (rest := []) (c_X3_addStep l D ay q le nu ls lt (min 200 (cn + (t1 - 1) * (cn - s) + (i - s))) (rpF L s cn (min 200 (cn + (t1 - 1) * (cn - s) + (i - s)))) (rpF M s cn (min 200 (cn + (t1 - 1) * (cn - s) + (i - s)))) S T (op - 1) ((rpF L s cn (min 200 (cn + (t1 - 1) * (cn - s) + (i - s)))) i) ((rpF M s cn (min 200 (cn + (t1 - 1) * (cn - s) + (i - s)))) i) (by omega)) 0 [0, 1, 2, 3, 4] [] [] rfl rfl rfl rfl rfl rfl rfl ⟨Nat.le_of_ble_eq_true rfl, Nat.le_of_ble_eq_true rfl⟩ dX3_closeLoop_70 (fun v w hw => ?_)
      obtain ⟨rfl, rfl⟩ := hw
      refine j_perm [0, 1, 2, 3, 4] [(q, .inr (3, [.ref le, .ref nu, .int (nI (adN (min 200 (cn + (t1 - 1) * (cn - s) + (i - s))))), .ref ls, .ref lt, .int (nI (op - 1))])), (le, .inl (ay 0, 200, .inl (adF (rpF L s cn (min 200 (cn + (t1 - 1) * (cn - s) + (i - s)))) (min 200 (cn + (t1 - 1) * (cn - s) + (i - s))) ((rpF L s cn (min 200 (cn + (t1 - 1) * (cn - s) + (i - s)))) i)))), (nu, .inl (ay 0, 200, .inl (adF (rpF M s cn (min 200 (cn + (t1 - 1) * (cn - s) + (i - s)))) (min 200 (cn + (t1 - 1) * (cn - s) + (i - s))) ((rpF M s cn (min 200 (cn + (t1 - 1) * (cn - s) + (i - s)))) i)))), (ls, .inl (ay 0, 4, .inl S)), (lt, .inl (ay 0, 4, .inl T))] rfl rfl ?_
      refine j_iinc F 0 (nI (i + 1)) [(4, .int (nI (i + 1))), (3, .int (nI t1)), (2, .int (nI cn)), (1, .int (nI s)), (0, .ref q)] dX3_closeLoop_73 rfl (nI_1 _) (by decide) rfl ?_
      refine j_goto F 51 dX3_closeLoop_76 (by decide) ?_
      have e0 : cn + (t1 - 1) * (cn - s) + (i + 1 - s) = (cn + (t1 - 1) * (cn - s) + (i - s)) + 1 := by omega
      have e1 : adN (min 200 (cn + (t1 - 1) * (cn - s) + (i - s))) = min 200 (cn + (t1 - 1) * (cn - s) + (i + 1 - s)) := by rw [e0]; unfold adN; split <;> omega
      have eL : adF (rpF L s cn (min 200 (cn + (t1 - 1) * (cn - s) + (i - s)))) (min 200 (cn + (t1 - 1) * (cn - s) + (i - s))) (rpF L s cn (min 200 (cn + (t1 - 1) * (cn - s) + (i - s))) i) = rpF L s cn (min 200 (cn + (t1 - 1) * (cn - s) + (i + 1 - s))) := by
        rw [rpF_in (by omega), e0]
        unfold adF
        by_cases h2 : (cn + (t1 - 1) * (cn - s) + (i - s)) < 200
        · rw [if_pos (by omega), show min 200 (cn + (t1 - 1) * (cn - s) + (i - s)) = (cn + (t1 - 1) * (cn - s) + (i - s)) by omega, show min 200 ((cn + (t1 - 1) * (cn - s) + (i - s)) + 1) = (cn + (t1 - 1) * (cn - s) + (i - s)) + 1 by omega]; exact rpF_step hi (by omega)
        · rw [if_neg (by omega), show min 200 (cn + (t1 - 1) * (cn - s) + (i - s)) = 200 by omega, show min 200 ((cn + (t1 - 1) * (cn - s) + (i - s)) + 1) = 200 by omega]
      have eM : adF (rpF M s cn (min 200 (cn + (t1 - 1) * (cn - s) + (i - s)))) (min 200 (cn + (t1 - 1) * (cn - s) + (i - s))) (rpF M s cn (min 200 (cn + (t1 - 1) * (cn - s) + (i - s))) i) = rpF M s cn (min 200 (cn + (t1 - 1) * (cn - s) + (i + 1 - s))) := by
        rw [rpF_in (by omega), e0]
        unfold adF
        by_cases h2 : (cn + (t1 - 1) * (cn - s) + (i - s)) < 200
        · rw [if_pos (by omega), show min 200 (cn + (t1 - 1) * (cn - s) + (i - s)) = (cn + (t1 - 1) * (cn - s) + (i - s)) by omega, show min 200 ((cn + (t1 - 1) * (cn - s) + (i - s)) + 1) = (cn + (t1 - 1) * (cn - s) + (i - s)) + 1 by omega]; exact rpF_step hi (by omega)
        · rw [if_neg (by omega), show min 200 (cn + (t1 - 1) * (cn - s) + (i - s)) = 200 by omega, show min 200 ((cn + (t1 - 1) * (cn - s) + (i - s)) + 1) = 200 by omega]
      rw [e1, eL, eM]
      exact ih2 (i + 1) ⟨by omega, by omega⟩ (by show cn - (i + 1) < cn - i; omega)
