/-- 1 while nothing was found wrong with cache i + 1 -/
def gd (Z : DS) (i k : Nat) : Int32 := if Z.2.1 (11 + i) = nI (cb (Z.2.2 13) (nI (i + 1)) (Z.1 14)) ∧ ¬ fx (lkF (Z.2.2 (4 + i)) (Z.2.2 (4 + (i + 1))) (Z.1 (2 + (i + 1)))) 0 k < k then 1 else 0
theorem gd_0 (Z : DS) (i : Nat) : gd Z i 0 = if Z.2.1 (11 + i) = nI (cb (Z.2.2 13) (nI (i + 1)) (Z.1 14)) then 1 else 0 := by
  unfold gd
  by_cases h : Z.2.1 (11 + i) = nI (cb (Z.2.2 13) (nI (i + 1)) (Z.1 14))
  · rw [if_pos h, if_pos ⟨h, Nat.not_lt_zero _⟩]
  · rw [if_neg h, if_neg (fun q => h q.1)]
theorem gd_01 (Z : DS) (i k : Nat) : gd Z i k = 0 ∨ gd Z i k = 1 := ite01
theorem fx_succ {f : Nat → Int32} {key : Int32} {k : Nat} : fx f key (k + 1) < k + 1 ↔ fx f key k < k ∨ f k = key := by
  show (if fx f key k < k then fx f key k else if f k = key then k else k + 1) < k + 1 ↔ _
  by_cases h : fx f key k < k
  · rw [if_pos h]; exact ⟨fun _ => Or.inl h, fun _ => by omega⟩
  · rw [if_neg h]
    by_cases h2 : f k = key
    · rw [if_pos h2]; exact ⟨fun _ => Or.inr h2, fun _ => by omega⟩
    · rw [if_neg h2]; exact ⟨fun h3 => by omega, fun h3 => h3.elim (fun h4 => absurd h4 h) (fun h4 => absurd h4 h2)⟩
theorem gd_s1 {Z : DS} {i k : Nat} (h : (lkF (Z.2.2 (4 + i)) (Z.2.2 (4 + (i + 1))) (Z.1 (2 + (i + 1)))) k = 1) : gd Z i k &&& 1 = gd Z i (k + 1) := by
  have e : gd Z i (k + 1) = gd Z i k := by
    unfold gd
    by_cases c : Z.2.1 (11 + i) = nI (cb (Z.2.2 13) (nI (i + 1)) (Z.1 14)) ∧ ¬ fx (lkF (Z.2.2 (4 + i)) (Z.2.2 (4 + (i + 1))) (Z.1 (2 + (i + 1)))) 0 k < k
    · rw [if_pos c, if_pos ⟨c.1, fun q => (fx_succ.mp q).elim c.2 (fun q => by rw [h] at q; exact absurd q (by decide))⟩]
    · rw [if_neg c, if_neg (fun q => c ⟨q.1, fun q2 => q.2 (fx_succ.mpr (Or.inl q2))⟩)]
  rw [e]
  rcases gd_01 Z i k with g | g <;> rw [g] <;> rfl
theorem gd_s0 {Z : DS} {i k : Nat} (h : (lkF (Z.2.2 (4 + i)) (Z.2.2 (4 + (i + 1))) (Z.1 (2 + (i + 1)))) k = 0) : gd Z i k &&& 0 = gd Z i (k + 1) := by
  have e : gd Z i (k + 1) = 0 := by
    unfold gd
    rw [if_neg (fun q => q.2 (fx_succ.mpr (Or.inr h)))]
  rw [e]
  rcases gd_01 Z i k with g | g <;> rw [g] <;> rfl
theorem er_ok {Z : DS} {i k : Nat} (h1 : i + 1 < 8 → k = Z.1 (2 + i)) (h : ¬ gd Z i k = 0) : erN Z i + 0 = erN Z (i + 1) := by
  unfold gd at h
  have c : Z.2.1 (11 + i) = nI (cb (Z.2.2 13) (nI (i + 1)) (Z.1 14)) ∧ ¬ fx (lkF (Z.2.2 (4 + i)) (Z.2.2 (4 + (i + 1))) (Z.1 (2 + (i + 1)))) 0 k < k := by
    refine Decidable.byContradiction fun c => ?_
    rw [if_neg c] at h; exact h rfl
  show erN Z i + 0 = (if Z.2.1 (11 + i) = nI (cb (Z.2.2 13) (nI (i + 1)) (Z.1 14)) then (if i + 1 < 8 ∧ fx (lkF (Z.2.2 (4 + i)) (Z.2.2 (4 + (i + 1))) (Z.1 (2 + (i + 1)))) 0 (Z.1 (2 + i)) < Z.1 (2 + i) then erN Z i + 1 else erN Z i) else erN Z i + 1)
  rw [if_pos c.1, if_neg (fun q => c.2 (by rw [h1 q.1]; exact q.2))]
  rfl
theorem er_no {Z : DS} {i k : Nat} (h1 : i + 1 < 8 → k = Z.1 (2 + i)) (h2 : ¬ i + 1 < 8 → k = 0) (h : gd Z i k = 0) : erN Z i + 1 = erN Z (i + 1) := by
  unfold gd at h
  have c : ¬ (Z.2.1 (11 + i) = nI (cb (Z.2.2 13) (nI (i + 1)) (Z.1 14)) ∧ ¬ fx (lkF (Z.2.2 (4 + i)) (Z.2.2 (4 + (i + 1))) (Z.1 (2 + (i + 1)))) 0 k < k) := fun c => by
    rw [if_pos c] at h; exact absurd h (by decide)
  show erN Z i + 1 = (if Z.2.1 (11 + i) = nI (cb (Z.2.2 13) (nI (i + 1)) (Z.1 14)) then (if i + 1 < 8 ∧ fx (lkF (Z.2.2 (4 + i)) (Z.2.2 (4 + (i + 1))) (Z.1 (2 + (i + 1)))) 0 (Z.1 (2 + i)) < Z.1 (2 + i) then erN Z i + 1 else erN Z i) else erN Z i + 1)
  by_cases e : Z.2.1 (11 + i) = nI (cb (Z.2.2 13) (nI (i + 1)) (Z.1 14))
  · rw [if_pos e]
    have f9 : fx (lkF (Z.2.2 (4 + i)) (Z.2.2 (4 + (i + 1))) (Z.1 (2 + (i + 1)))) 0 k < k := Decidable.byContradiction fun q => c ⟨e, q⟩
    have h8 : i + 1 < 8 := Decidable.byContradiction fun q => by rw [h2 q] at f9; exact absurd f9 (Nat.not_lt_zero _)
    rw [if_pos ⟨h8, by rw [← h1 h8]; exact f9⟩]
  · rw [if_neg e]
set_option maxHeartbeats 4000000 in
set_option maxRecDepth 100000 in
theorem c_X10_errors_ok (l : Launch) (D : va_G) (ay : Nat → ClassId) (ad : Nat → Nat) (vi : Nat → Int32) (ga : Nat → Nat → Int32) (Z : DS) (hG : GI Z vi ga) : jM l yX10_errors (jws yX10_errors cX10_errors 5 (some .int)) 2 47 0 0 D ay [.ref (ad 0)] (mW ay ad vi ga) (fun v w => ∃ (vi' : Nat → Int32) (ga' : Nat → Nat → Int32), GI Z vi' ga' ∧ vi' 0 = 0 ∧ v = some (.int (nI (erN Z 8))) ∧ w = mW ay ad vi' ga') := by
  refine jM_of l (by decide) [(0, .ref (ad 0))] rfl rfl (fun p9 e9 s9 m9 a9 b9 me9 c9 A9 F => ?_)
  have hL5 := hG.2.2.2.2.1
  have h13 := hL5.1
  have hle := hG.2.2.1.2.2
  refine j_aload_n F 0 dX10_errors_0 rfl ?_
  refine j_iconst F (v := 0) dX10_errors_1 (by decide) ?_
  refine j_putf F fX10_1 0 (mW ay ad (ups vi 0 0) ga) rfl rfl rfl rfl rfl (Nat.le_of_ble_eq_true rfl) dX10_errors_2 ?_
  refine j_iconst F (v := 0) dX10_errors_5 (by decide) ?_
  refine j_istore_n F 1 [(1, .int 0), (0, .ref (ad 0))] dX10_errors_6 rfl (by decide) rfl ?_
  refine j_iconst F (v := 1) dX10_errors_7 (by decide) ?_
  refine j_istore_n F 2 [(2, .int 1), (1, .int 0), (0, .ref (ad 0))] dX10_errors_8 rfl (by decide) rfl ?_
  refine j_loop (σ := Nat × (Nat → Int32)) (fun z => z.1 ≤ 8) (fun z => 8 - z.1) (fun z => [(2, .int (nI (z.1 + 1))), (1, .int (nI (erN Z z.1))), (0, .ref (ad 0))]) (fun z => mW ay ad (ups vi 0 0) (ups ga 9 z.2)) (0, ga 9) (Nat.zero_le _) rfl (by rw [show ups ga 9 (ga 9) = ga from ups_self]) (fun z hz ih => ?_)
  obtain ⟨i, g1⟩ := z
  replace hz : i ≤ 8 := hz
  have her := erN_le Z i
  refine j_nf (mW ay ad (ups vi 0 0) (ups ga 9 g1)) [(2, .int (nI (i + 1))), (1, .int (nI (erN Z i))), (0, .ref (ad 0))] rfl rfl ?_
  refine j_iload_n F 0 dX10_errors_9 rfl ?_
  refine j_bipush F (v := 8) dX10_errors_10 (by decide) ?_
  refine j_icmp_gt F 110 dX10_errors_12 (by decide) (fun c_12 => ?_) (fun c_12 => ?_)
  · skip
    have n_12 := (n_lt 8 (i + 1) rfl rfl (by omega) (by omega)).mp c_12
    refine j_iload_n F 1 dX10_errors_110 rfl ?_
    exact j_iret F ⟨ups vi 0 0, ups ga 9 g1, (GI_id hG (fun q hq => (ups_ne (by omega)).trans rfl) (fun q hq => (ups_ne (by omega)).trans rfl)), rfl, (by rw [show (8 : Nat) = i by omega]), rfl⟩ dX10_errors_111 (Nat.le_of_ble_eq_true rfl) (Nat.le_of_ble_eq_true rfl)
  · skip
    have n_12 := mt (n_lt 8 (i + 1) rfl rfl (by omega) (by omega)).mpr c_12
    have hi8 : i < 8 := by omega
    have hc1 := hG.2.2.2.1 i hi8
    have hcn := hc1.1
    refine j_aload_n F 2 dX10_errors_15 rfl ?_
    refine j_getf F fX10_42 0 (v := .ref (ad 8)) rfl rfl dX10_errors_16 ?_
    refine j_iload_n F 0 dX10_errors_19 rfl ?_
    refine j_iald F 8 (i + 1) (f := ga 7) rfl rfl (by omega) (Nat.le_of_ble_eq_true rfl) dX10_errors_20 ?_
    refine j_top (Z.2.1 (11 + i)) hc1.2.2.1 ?_
    refine j_aload_n F 2 dX10_errors_21 rfl ?_
    refine j_iload_n F 0 dX10_errors_22 rfl ?_
    refine j_scallV F kX10_150 (As := [.int (nI (i + 1))]) (rest := [.int (Z.2.1 (11 + i))]) (c_X10_nearerThan l D ay ad (ups vi 0 0) (ups ga 9 g1) Z (nI (i + 1)) (show GI Z (ups vi 0 0) (ups ga 9 g1) from GI_id hG (fun q hq => (ups_ne (by omega)).trans rfl) (fun q hq => (ups_ne (by omega)).trans rfl))) 0 0 20 rfl rfl rfl rfl rfl rfl ⟨Nat.le_of_ble_eq_true rfl, Nat.le_of_ble_eq_true rfl⟩ dX10_errors_23 (fun v w hw => ?_)
    obtain ⟨g9_23, rfl, rfl⟩ := hw
    refine ⟨rfl, (mW ay ad (ups vi 0 0) (ups ga 9 g9_23)), (slp_all _ _ rfl).trans rfl, ?_⟩
    refine j_top (nI (cb (Z.2.2 13) (nI (i + 1)) (Z.1 14))) rfl ?_
    refine j_icmp_ne F 33 dX10_errors_26 (by decide) (fun c_26 => ?_) (fun c_26 => ?_)
    · skip
      refine j_iconst F (v := 0) dX10_errors_33 (by decide) ?_
      refine j_istore_n F 3 [(3, .int 0), (2, .int (nI (i + 1))), (1, .int (nI (erN Z i))), (0, .ref (ad 0))] dX10_errors_34 rfl (by decide) rfl ?_
      refine j_iconst F (v := 0) dX10_errors_35 (by decide) ?_
      refine j_istore F 4 [(4, .int 0), (3, .int 0), (2, .int (nI (i + 1))), (1, .int (nI (erN Z i))), (0, .ref (ad 0))] dX10_errors_36 (by decide) rfl ?_
      have hg0 : 0 = gd Z i 0 := by rw [gd_0, if_neg c_26]
      refine j_sub [0, 1, 2, 3, 4] [(4, .int 0), (3, .int 0), (2, .int (nI (i + 1))), (1, .int (nI (erN Z i))), (0, .ref (ad 0))] rfl ?_
      refine j_loop (σ := Nat) (fun k => k ≤ Z.1 (2 + i) ∧ (¬ i + 1 < 8 → k = 0)) (fun k => Z.1 (2 + i) - k) (fun k => [(4, .int (nI k)), (3, .int (gd Z i k)), (2, .int (nI (i + 1))), (1, .int (nI (erN Z i))), (0, .ref (ad 0))]) (fun _ => (mW ay ad (ups vi 0 0) (ups ga 9 g9_23))) 0 ⟨Nat.zero_le _, fun _ => rfl⟩ (by rw [← hg0] <;> rfl) rfl (fun k hk9 ih2 => ?_)
      obtain ⟨hk, hk0⟩ := hk9
      refine j_iload F 0 dX10_errors_38 rfl ?_
      refine j_aload_n F 4 dX10_errors_40 rfl ?_
      refine j_getf F fX10_39 0 (v := .ref (ad 7)) rfl rfl dX10_errors_41 ?_
      refine j_iload_n F 2 dX10_errors_44 rfl ?_
      refine j_iald F 7 (i + 1) (f := ga 6) rfl rfl (by omega) (Nat.le_of_ble_eq_true rfl) dX10_errors_45 ?_
      refine j_top (nI (Z.1 (2 + i))) hc1.2.1 ?_
      refine j_icmp_ge F 92 dX10_errors_46 (by decide) (fun c_46 => ?_) (fun c_46 => ?_)
      · skip
        have n_46 := (n_le (Z.1 (2 + i)) k rfl rfl (by omega) (by omega)).mp c_46
        refine j_iload_n F 3 dX10_errors_92 rfl ?_
        refine j_iload_n F 1 dX10_errors_93 rfl ?_
        refine j_if_eq F 101 dX10_errors_94 (by decide) (fun c_94 => ?_) (fun c_94 => ?_)
        · skip
          refine j_iconst F (v := 1) dX10_errors_101 (by decide) ?_
          refine j_iadd F dX10_errors_102 ?_
          refine j_top (nI (erN Z i + 1)) (nI_add _ _) ?_
          refine j_istore_n F 1 [(1, .int (nI (erN Z i + 1))), (4, .int (nI k)), (3, .int (gd Z i k)), (2, .int (nI (i + 1))), (0, .ref (ad 0))] dX10_errors_103 rfl (by decide) rfl ?_
          refine j_iinc F 3 (nI (i + 1 + 1)) [(2, .int (nI (i + 1 + 1))), (1, .int (nI (erN Z i + 1))), (4, .int (nI k)), (3, .int (gd Z i k)), (0, .ref (ad 0))] dX10_errors_104 rfl (nI_1 _) (by decide) rfl ?_
          refine j_goto F 9 dX10_errors_107 (by decide) ?_
          have e1 : (erN Z i + 1) = erN Z (i + 1) := er_no (fun _ => by omega) (fun h => hk0 h) c_94
          refine j_sub [0, 1, 4] [(2, .int (nI (i + 1 + 1))), (1, .int (nI (erN Z i + 1))), (0, .ref (ad 0))] rfl ?_
          refine j_nf (mW ay ad (ups vi 0 0) (ups ga 9 g9_23)) [(2, .int (nI ((i + 1) + 1))), (1, .int (nI (erN Z (i + 1)))), (0, .ref (ad 0))] rfl (by rw [← e1]) ?_
          exact ih (i + 1, g9_23) (by show i + 1 ≤ 8; omega) (by show 8 - (i + 1) < 8 - i; omega)
        · skip
          refine j_iconst F (v := 0) dX10_errors_97 (by decide) ?_
          refine j_goto F 102 dX10_errors_98 (by decide) ?_
          refine j_iadd F dX10_errors_102 ?_
          refine j_top (nI (erN Z i + 0)) (nI_add _ _) ?_
          refine j_istore_n F 1 [(1, .int (nI (erN Z i + 0))), (4, .int (nI k)), (3, .int (gd Z i k)), (2, .int (nI (i + 1))), (0, .ref (ad 0))] dX10_errors_103 rfl (by decide) rfl ?_
          refine j_iinc F 3 (nI (i + 1 + 1)) [(2, .int (nI (i + 1 + 1))), (1, .int (nI (erN Z i + 0))), (4, .int (nI k)), (3, .int (gd Z i k)), (0, .ref (ad 0))] dX10_errors_104 rfl (nI_1 _) (by decide) rfl ?_
          refine j_goto F 9 dX10_errors_107 (by decide) ?_
          have e1 : (erN Z i + 0) = erN Z (i + 1) := er_ok (fun _ => by omega) c_94
          refine j_sub [0, 1, 4] [(2, .int (nI (i + 1 + 1))), (1, .int (nI (erN Z i + 0))), (0, .ref (ad 0))] rfl ?_
          refine j_nf (mW ay ad (ups vi 0 0) (ups ga 9 g9_23)) [(2, .int (nI ((i + 1) + 1))), (1, .int (nI (erN Z (i + 1)))), (0, .ref (ad 0))] rfl (by rw [← e1]) ?_
          exact ih (i + 1, g9_23) (by show i + 1 ≤ 8; omega) (by show 8 - (i + 1) < 8 - i; omega)
      · skip
        have n_46 := mt (n_le (Z.1 (2 + i)) k rfl rfl (by omega) (by omega)).mpr c_46
        refine j_iload_n F 2 dX10_errors_49 rfl ?_
        refine j_bipush F (v := 8) dX10_errors_50 (by decide) ?_
        refine j_icmp_ge F 92 dX10_errors_52 (by decide) (fun c_52 => ?_) (fun c_52 => ?_)
        · skip
          have n_52 := (n_le 8 (i + 1) rfl rfl (by omega) (by omega)).mp c_52
          refine j_iload_n F 3 dX10_errors_92 rfl ?_
          refine j_iload_n F 1 dX10_errors_93 rfl ?_
          refine j_if_eq F 101 dX10_errors_94 (by decide) (fun c_94 => ?_) (fun c_94 => ?_)
          · skip
            refine j_iconst F (v := 1) dX10_errors_101 (by decide) ?_
            refine j_iadd F dX10_errors_102 ?_
            refine j_top (nI (erN Z i + 1)) (nI_add _ _) ?_
            refine j_istore_n F 1 [(1, .int (nI (erN Z i + 1))), (4, .int (nI k)), (3, .int (gd Z i k)), (2, .int (nI (i + 1))), (0, .ref (ad 0))] dX10_errors_103 rfl (by decide) rfl ?_
            refine j_iinc F 3 (nI (i + 1 + 1)) [(2, .int (nI (i + 1 + 1))), (1, .int (nI (erN Z i + 1))), (4, .int (nI k)), (3, .int (gd Z i k)), (0, .ref (ad 0))] dX10_errors_104 rfl (nI_1 _) (by decide) rfl ?_
            refine j_goto F 9 dX10_errors_107 (by decide) ?_
            have e1 : (erN Z i + 1) = erN Z (i + 1) := er_no (fun _ => by omega) (fun h => hk0 h) c_94
            refine j_sub [0, 1, 4] [(2, .int (nI (i + 1 + 1))), (1, .int (nI (erN Z i + 1))), (0, .ref (ad 0))] rfl ?_
            refine j_nf (mW ay ad (ups vi 0 0) (ups ga 9 g9_23)) [(2, .int (nI ((i + 1) + 1))), (1, .int (nI (erN Z (i + 1)))), (0, .ref (ad 0))] rfl (by rw [← e1]) ?_
            exact ih (i + 1, g9_23) (by show i + 1 ≤ 8; omega) (by show 8 - (i + 1) < 8 - i; omega)
          · skip
            refine j_iconst F (v := 0) dX10_errors_97 (by decide) ?_
            refine j_goto F 102 dX10_errors_98 (by decide) ?_
            refine j_iadd F dX10_errors_102 ?_
            refine j_top (nI (erN Z i + 0)) (nI_add _ _) ?_
            refine j_istore_n F 1 [(1, .int (nI (erN Z i + 0))), (4, .int (nI k)), (3, .int (gd Z i k)), (2, .int (nI (i + 1))), (0, .ref (ad 0))] dX10_errors_103 rfl (by decide) rfl ?_
            refine j_iinc F 3 (nI (i + 1 + 1)) [(2, .int (nI (i + 1 + 1))), (1, .int (nI (erN Z i + 0))), (4, .int (nI k)), (3, .int (gd Z i k)), (0, .ref (ad 0))] dX10_errors_104 rfl (nI_1 _) (by decide) rfl ?_
            refine j_goto F 9 dX10_errors_107 (by decide) ?_
            have e1 : (erN Z i + 0) = erN Z (i + 1) := er_ok (fun _ => by omega) c_94
            refine j_sub [0, 1, 4] [(2, .int (nI (i + 1 + 1))), (1, .int (nI (erN Z i + 0))), (0, .ref (ad 0))] rfl ?_
            refine j_nf (mW ay ad (ups vi 0 0) (ups ga 9 g9_23)) [(2, .int (nI ((i + 1) + 1))), (1, .int (nI (erN Z (i + 1)))), (0, .ref (ad 0))] rfl (by rw [← e1]) ?_
            exact ih (i + 1, g9_23) (by show i + 1 ≤ 8; omega) (by show 8 - (i + 1) < 8 - i; omega)
        · skip
          have n_52 := mt (n_le 8 (i + 1) rfl rfl (by omega) (by omega)).mpr c_52
          have h7 : i + 1 < 8 := by omega
          have hc2 := hG.2.2.2.1 (i + 1) h7
          have hcn2 := hc2.1
          refine j_iload_n F 1 dX10_errors_55 rfl ?_
          refine j_aload_n F 4 dX10_errors_56 rfl ?_
          refine j_iload_n F 2 dX10_errors_57 rfl ?_
          refine j_iconst F (v := 1) dX10_errors_58 (by decide) ?_
          refine j_iadd F dX10_errors_59 ?_
          refine j_top (nI (i + 1 + 1)) (nI_add _ _) ?_
          refine j_aload_n F 4 dX10_errors_60 rfl ?_
          refine j_getf F fX10_36 0 (v := .ref (ad 6)) rfl rfl dX10_errors_61 ?_
          refine j_bipush F (v := 9) dX10_errors_64 (by decide) ?_
          refine j_iload_n F 2 dX10_errors_66 rfl ?_
          refine j_imul F dX10_errors_67 ?_
          refine j_top (nI (9 * (i + 1))) (pk_mul 9 _) ?_
          refine j_iload F 0 dX10_errors_68 rfl ?_
          refine j_iadd F dX10_errors_70 ?_
          refine j_top (nI (9 * (i + 1) + k)) (nI_add _ _) ?_
          refine j_iald F 6 (9 * (i + 1) + k) (f := ga 5) rfl rfl (by omega) (Nat.le_of_ble_eq_true rfl) dX10_errors_71 ?_
          refine j_top (Z.2.2 (4 + i) k) (hc1.2.2.2 k (by omega)) ?_
          refine j_scallV F kX10_130 (As := [.int (nI (i + 1 + 1)), .int (Z.2.2 (4 + i) k)]) (rest := [.int (gd Z i k)]) (c_X10_cachePlace l D ay ad (ups vi 0 0) (ups ga 9 g9_23) (i + 1 + 1) (Z.1 (2 + (i + 1))) (Z.2.2 (4 + i) k) (show 1 ≤ (i + 1 + 1) ∧ (i + 1 + 1) ≤ 8 from by omega) (show ga 6 (i + 1 + 1) = nI (Z.1 (2 + (i + 1))) from hc2.2.1) (show (Z.1 (2 + (i + 1))) ≤ 9 from by omega)) 0 0 20 rfl rfl rfl rfl rfl rfl ⟨Nat.le_of_ble_eq_true rfl, Nat.le_of_ble_eq_true rfl⟩ dX10_errors_72 (fun v w hw => ?_)
          obtain ⟨rfl, rfl⟩ := hw
          refine ⟨rfl, (mW ay ad (ups vi 0 0) (ups ga 9 g9_23)), (slp_all _ _ rfl).trans rfl, ?_⟩
          refine j_top (fxI (Z.2.2 (4 + (i + 1))) (Z.2.2 (4 + i) k) (Z.1 (2 + (i + 1)))) (fxI_c hc2.2.2.2) ?_
          by_cases hf : fx (Z.2.2 (4 + (i + 1))) (Z.2.2 (4 + i) k) (Z.1 (2 + (i + 1))) < Z.1 (2 + (i + 1))
          · skip
            refine j_top (nI (fx (Z.2.2 (4 + (i + 1))) (Z.2.2 (4 + i) k) (Z.1 (2 + (i + 1))))) (if_pos hf) ?_
            refine j_iconst F (v := (-1)) dX10_errors_75 (by decide) ?_
            refine j_icmp_eq F 83 dX10_errors_76 (by decide) (fun c_76 => absurd c_76 (nI_m1 (by omega))) (fun c_76 => ?_)
            refine j_iconst F (v := 1) dX10_errors_79 (by decide) ?_
            refine j_goto F 84 dX10_errors_80 (by decide) ?_
            refine j_iand F dX10_errors_84 ?_
            refine j_top (gd Z i (k + 1)) (gd_s1 (if_pos hf)) ?_
            refine j_istore_n F 3 [(3, .int (gd Z i (k + 1))), (4, .int (nI k)), (2, .int (nI (i + 1))), (1, .int (nI (erN Z i))), (0, .ref (ad 0))] dX10_errors_85 rfl (by decide) rfl ?_
            refine j_iinc F 1 (nI (k + 1)) [(4, .int (nI (k + 1))), (3, .int (gd Z i (k + 1))), (2, .int (nI (i + 1))), (1, .int (nI (erN Z i))), (0, .ref (ad 0))] dX10_errors_86 rfl (nI_1 _) (by decide) rfl ?_
            refine j_goto F 38 dX10_errors_89 (by decide) ?_
            exact ih2 (k + 1) ⟨by omega, fun h => absurd h (by omega)⟩ (by show Z.1 (2 + i) - (k + 1) < Z.1 (2 + i) - k; omega)
          · skip
            refine j_top (-1) (if_neg hf) ?_
            refine j_iconst F (v := (-1)) dX10_errors_75 (by decide) ?_
            refine j_icmp_eq F 83 dX10_errors_76 (by decide) (fun c_76 => ?_) (fun c_76 => absurd (by decide) c_76)
            refine j_iconst F (v := 0) dX10_errors_83 (by decide) ?_
            refine j_iand F dX10_errors_84 ?_
            refine j_top (gd Z i (k + 1)) (gd_s0 (if_neg hf)) ?_
            refine j_istore_n F 3 [(3, .int (gd Z i (k + 1))), (4, .int (nI k)), (2, .int (nI (i + 1))), (1, .int (nI (erN Z i))), (0, .ref (ad 0))] dX10_errors_85 rfl (by decide) rfl ?_
            refine j_iinc F 1 (nI (k + 1)) [(4, .int (nI (k + 1))), (3, .int (gd Z i (k + 1))), (2, .int (nI (i + 1))), (1, .int (nI (erN Z i))), (0, .ref (ad 0))] dX10_errors_86 rfl (nI_1 _) (by decide) rfl ?_
            refine j_goto F 38 dX10_errors_89 (by decide) ?_
            exact ih2 (k + 1) ⟨by omega, fun h => absurd h (by omega)⟩ (by show Z.1 (2 + i) - (k + 1) < Z.1 (2 + i) - k; omega)
    · skip
      refine j_iconst F (v := 1) dX10_errors_29 (by decide) ?_
      refine j_goto F 34 dX10_errors_30 (by decide) ?_
      refine j_istore_n F 3 [(3, .int 1), (2, .int (nI (i + 1))), (1, .int (nI (erN Z i))), (0, .ref (ad 0))] dX10_errors_34 rfl (by decide) rfl ?_
      refine j_iconst F (v := 0) dX10_errors_35 (by decide) ?_
      refine j_istore F 4 [(4, .int 0), (3, .int 1), (2, .int (nI (i + 1))), (1, .int (nI (erN Z i))), (0, .ref (ad 0))] dX10_errors_36 (by decide) rfl ?_
      have hg0 : 1 = gd Z i 0 := by rw [gd_0, if_pos c_26]
      refine j_sub [0, 1, 2, 3, 4] [(4, .int 0), (3, .int 1), (2, .int (nI (i + 1))), (1, .int (nI (erN Z i))), (0, .ref (ad 0))] rfl ?_
      refine j_loop (σ := Nat) (fun k => k ≤ Z.1 (2 + i) ∧ (¬ i + 1 < 8 → k = 0)) (fun k => Z.1 (2 + i) - k) (fun k => [(4, .int (nI k)), (3, .int (gd Z i k)), (2, .int (nI (i + 1))), (1, .int (nI (erN Z i))), (0, .ref (ad 0))]) (fun _ => (mW ay ad (ups vi 0 0) (ups ga 9 g9_23))) 0 ⟨Nat.zero_le _, fun _ => rfl⟩ (by rw [← hg0] <;> rfl) rfl (fun k hk9 ih2 => ?_)
      obtain ⟨hk, hk0⟩ := hk9
      refine j_iload F 0 dX10_errors_38 rfl ?_
      refine j_aload_n F 4 dX10_errors_40 rfl ?_
      refine j_getf F fX10_39 0 (v := .ref (ad 7)) rfl rfl dX10_errors_41 ?_
      refine j_iload_n F 2 dX10_errors_44 rfl ?_
      refine j_iald F 7 (i + 1) (f := ga 6) rfl rfl (by omega) (Nat.le_of_ble_eq_true rfl) dX10_errors_45 ?_
      refine j_top (nI (Z.1 (2 + i))) hc1.2.1 ?_
      refine j_icmp_ge F 92 dX10_errors_46 (by decide) (fun c_46 => ?_) (fun c_46 => ?_)
      · skip
        have n_46 := (n_le (Z.1 (2 + i)) k rfl rfl (by omega) (by omega)).mp c_46
        refine j_iload_n F 3 dX10_errors_92 rfl ?_
        refine j_iload_n F 1 dX10_errors_93 rfl ?_
        refine j_if_eq F 101 dX10_errors_94 (by decide) (fun c_94 => ?_) (fun c_94 => ?_)
        · skip
          refine j_iconst F (v := 1) dX10_errors_101 (by decide) ?_
          refine j_iadd F dX10_errors_102 ?_
          refine j_top (nI (erN Z i + 1)) (nI_add _ _) ?_
          refine j_istore_n F 1 [(1, .int (nI (erN Z i + 1))), (4, .int (nI k)), (3, .int (gd Z i k)), (2, .int (nI (i + 1))), (0, .ref (ad 0))] dX10_errors_103 rfl (by decide) rfl ?_
          refine j_iinc F 3 (nI (i + 1 + 1)) [(2, .int (nI (i + 1 + 1))), (1, .int (nI (erN Z i + 1))), (4, .int (nI k)), (3, .int (gd Z i k)), (0, .ref (ad 0))] dX10_errors_104 rfl (nI_1 _) (by decide) rfl ?_
          refine j_goto F 9 dX10_errors_107 (by decide) ?_
          have e1 : (erN Z i + 1) = erN Z (i + 1) := er_no (fun _ => by omega) (fun h => hk0 h) c_94
          refine j_sub [0, 1, 4] [(2, .int (nI (i + 1 + 1))), (1, .int (nI (erN Z i + 1))), (0, .ref (ad 0))] rfl ?_
          refine j_nf (mW ay ad (ups vi 0 0) (ups ga 9 g9_23)) [(2, .int (nI ((i + 1) + 1))), (1, .int (nI (erN Z (i + 1)))), (0, .ref (ad 0))] rfl (by rw [← e1]) ?_
          exact ih (i + 1, g9_23) (by show i + 1 ≤ 8; omega) (by show 8 - (i + 1) < 8 - i; omega)
        · skip
          refine j_iconst F (v := 0) dX10_errors_97 (by decide) ?_
          refine j_goto F 102 dX10_errors_98 (by decide) ?_
          refine j_iadd F dX10_errors_102 ?_
          refine j_top (nI (erN Z i + 0)) (nI_add _ _) ?_
          refine j_istore_n F 1 [(1, .int (nI (erN Z i + 0))), (4, .int (nI k)), (3, .int (gd Z i k)), (2, .int (nI (i + 1))), (0, .ref (ad 0))] dX10_errors_103 rfl (by decide) rfl ?_
          refine j_iinc F 3 (nI (i + 1 + 1)) [(2, .int (nI (i + 1 + 1))), (1, .int (nI (erN Z i + 0))), (4, .int (nI k)), (3, .int (gd Z i k)), (0, .ref (ad 0))] dX10_errors_104 rfl (nI_1 _) (by decide) rfl ?_
          refine j_goto F 9 dX10_errors_107 (by decide) ?_
          have e1 : (erN Z i + 0) = erN Z (i + 1) := er_ok (fun _ => by omega) c_94
          refine j_sub [0, 1, 4] [(2, .int (nI (i + 1 + 1))), (1, .int (nI (erN Z i + 0))), (0, .ref (ad 0))] rfl ?_
          refine j_nf (mW ay ad (ups vi 0 0) (ups ga 9 g9_23)) [(2, .int (nI ((i + 1) + 1))), (1, .int (nI (erN Z (i + 1)))), (0, .ref (ad 0))] rfl (by rw [← e1]) ?_
          exact ih (i + 1, g9_23) (by show i + 1 ≤ 8; omega) (by show 8 - (i + 1) < 8 - i; omega)
      · skip
        have n_46 := mt (n_le (Z.1 (2 + i)) k rfl rfl (by omega) (by omega)).mpr c_46
        refine j_iload_n F 2 dX10_errors_49 rfl ?_
        refine j_bipush F (v := 8) dX10_errors_50 (by decide) ?_
        refine j_icmp_ge F 92 dX10_errors_52 (by decide) (fun c_52 => ?_) (fun c_52 => ?_)
        · skip
          have n_52 := (n_le 8 (i + 1) rfl rfl (by omega) (by omega)).mp c_52
          refine j_iload_n F 3 dX10_errors_92 rfl ?_
          refine j_iload_n F 1 dX10_errors_93 rfl ?_
          refine j_if_eq F 101 dX10_errors_94 (by decide) (fun c_94 => ?_) (fun c_94 => ?_)
          · skip
            refine j_iconst F (v := 1) dX10_errors_101 (by decide) ?_
            refine j_iadd F dX10_errors_102 ?_
            refine j_top (nI (erN Z i + 1)) (nI_add _ _) ?_
            refine j_istore_n F 1 [(1, .int (nI (erN Z i + 1))), (4, .int (nI k)), (3, .int (gd Z i k)), (2, .int (nI (i + 1))), (0, .ref (ad 0))] dX10_errors_103 rfl (by decide) rfl ?_
            refine j_iinc F 3 (nI (i + 1 + 1)) [(2, .int (nI (i + 1 + 1))), (1, .int (nI (erN Z i + 1))), (4, .int (nI k)), (3, .int (gd Z i k)), (0, .ref (ad 0))] dX10_errors_104 rfl (nI_1 _) (by decide) rfl ?_
            refine j_goto F 9 dX10_errors_107 (by decide) ?_
            have e1 : (erN Z i + 1) = erN Z (i + 1) := er_no (fun _ => by omega) (fun h => hk0 h) c_94
            refine j_sub [0, 1, 4] [(2, .int (nI (i + 1 + 1))), (1, .int (nI (erN Z i + 1))), (0, .ref (ad 0))] rfl ?_
            refine j_nf (mW ay ad (ups vi 0 0) (ups ga 9 g9_23)) [(2, .int (nI ((i + 1) + 1))), (1, .int (nI (erN Z (i + 1)))), (0, .ref (ad 0))] rfl (by rw [← e1]) ?_
            exact ih (i + 1, g9_23) (by show i + 1 ≤ 8; omega) (by show 8 - (i + 1) < 8 - i; omega)
          · skip
            refine j_iconst F (v := 0) dX10_errors_97 (by decide) ?_
            refine j_goto F 102 dX10_errors_98 (by decide) ?_
            refine j_iadd F dX10_errors_102 ?_
            refine j_top (nI (erN Z i + 0)) (nI_add _ _) ?_
            refine j_istore_n F 1 [(1, .int (nI (erN Z i + 0))), (4, .int (nI k)), (3, .int (gd Z i k)), (2, .int (nI (i + 1))), (0, .ref (ad 0))] dX10_errors_103 rfl (by decide) rfl ?_
            refine j_iinc F 3 (nI (i + 1 + 1)) [(2, .int (nI (i + 1 + 1))), (1, .int (nI (erN Z i + 0))), (4, .int (nI k)), (3, .int (gd Z i k)), (0, .ref (ad 0))] dX10_errors_104 rfl (nI_1 _) (by decide) rfl ?_
            refine j_goto F 9 dX10_errors_107 (by decide) ?_
            have e1 : (erN Z i + 0) = erN Z (i + 1) := er_ok (fun _ => by omega) c_94
            refine j_sub [0, 1, 4] [(2, .int (nI (i + 1 + 1))), (1, .int (nI (erN Z i + 0))), (0, .ref (ad 0))] rfl ?_
            refine j_nf (mW ay ad (ups vi 0 0) (ups ga 9 g9_23)) [(2, .int (nI ((i + 1) + 1))), (1, .int (nI (erN Z (i + 1)))), (0, .ref (ad 0))] rfl (by rw [← e1]) ?_
            exact ih (i + 1, g9_23) (by show i + 1 ≤ 8; omega) (by show 8 - (i + 1) < 8 - i; omega)
        · skip
          have n_52 := mt (n_le 8 (i + 1) rfl rfl (by omega) (by omega)).mpr c_52
          have h7 : i + 1 < 8 := by omega
          have hc2 := hG.2.2.2.1 (i + 1) h7
          have hcn2 := hc2.1
          refine j_iload_n F 1 dX10_errors_55 rfl ?_
          refine j_aload_n F 4 dX10_errors_56 rfl ?_
          refine j_iload_n F 2 dX10_errors_57 rfl ?_
          refine j_iconst F (v := 1) dX10_errors_58 (by decide) ?_
          refine j_iadd F dX10_errors_59 ?_
          refine j_top (nI (i + 1 + 1)) (nI_add _ _) ?_
          refine j_aload_n F 4 dX10_errors_60 rfl ?_
          refine j_getf F fX10_36 0 (v := .ref (ad 6)) rfl rfl dX10_errors_61 ?_
          refine j_bipush F (v := 9) dX10_errors_64 (by decide) ?_
          refine j_iload_n F 2 dX10_errors_66 rfl ?_
          refine j_imul F dX10_errors_67 ?_
          refine j_top (nI (9 * (i + 1))) (pk_mul 9 _) ?_
          refine j_iload F 0 dX10_errors_68 rfl ?_
          refine j_iadd F dX10_errors_70 ?_
          refine j_top (nI (9 * (i + 1) + k)) (nI_add _ _) ?_
          refine j_iald F 6 (9 * (i + 1) + k) (f := ga 5) rfl rfl (by omega) (Nat.le_of_ble_eq_true rfl) dX10_errors_71 ?_
          refine j_top (Z.2.2 (4 + i) k) (hc1.2.2.2 k (by omega)) ?_
          refine j_scallV F kX10_130 (As := [.int (nI (i + 1 + 1)), .int (Z.2.2 (4 + i) k)]) (rest := [.int (gd Z i k)]) (c_X10_cachePlace l D ay ad (ups vi 0 0) (ups ga 9 g9_23) (i + 1 + 1) (Z.1 (2 + (i + 1))) (Z.2.2 (4 + i) k) (show 1 ≤ (i + 1 + 1) ∧ (i + 1 + 1) ≤ 8 from by omega) (show ga 6 (i + 1 + 1) = nI (Z.1 (2 + (i + 1))) from hc2.2.1) (show (Z.1 (2 + (i + 1))) ≤ 9 from by omega)) 0 0 20 rfl rfl rfl rfl rfl rfl ⟨Nat.le_of_ble_eq_true rfl, Nat.le_of_ble_eq_true rfl⟩ dX10_errors_72 (fun v w hw => ?_)
          obtain ⟨rfl, rfl⟩ := hw
          refine ⟨rfl, (mW ay ad (ups vi 0 0) (ups ga 9 g9_23)), (slp_all _ _ rfl).trans rfl, ?_⟩
          refine j_top (fxI (Z.2.2 (4 + (i + 1))) (Z.2.2 (4 + i) k) (Z.1 (2 + (i + 1)))) (fxI_c hc2.2.2.2) ?_
          by_cases hf : fx (Z.2.2 (4 + (i + 1))) (Z.2.2 (4 + i) k) (Z.1 (2 + (i + 1))) < Z.1 (2 + (i + 1))
          · skip
            refine j_top (nI (fx (Z.2.2 (4 + (i + 1))) (Z.2.2 (4 + i) k) (Z.1 (2 + (i + 1))))) (if_pos hf) ?_
            refine j_iconst F (v := (-1)) dX10_errors_75 (by decide) ?_
            refine j_icmp_eq F 83 dX10_errors_76 (by decide) (fun c_76 => absurd c_76 (nI_m1 (by omega))) (fun c_76 => ?_)
            refine j_iconst F (v := 1) dX10_errors_79 (by decide) ?_
            refine j_goto F 84 dX10_errors_80 (by decide) ?_
            refine j_iand F dX10_errors_84 ?_
            refine j_top (gd Z i (k + 1)) (gd_s1 (if_pos hf)) ?_
            refine j_istore_n F 3 [(3, .int (gd Z i (k + 1))), (4, .int (nI k)), (2, .int (nI (i + 1))), (1, .int (nI (erN Z i))), (0, .ref (ad 0))] dX10_errors_85 rfl (by decide) rfl ?_
            refine j_iinc F 1 (nI (k + 1)) [(4, .int (nI (k + 1))), (3, .int (gd Z i (k + 1))), (2, .int (nI (i + 1))), (1, .int (nI (erN Z i))), (0, .ref (ad 0))] dX10_errors_86 rfl (nI_1 _) (by decide) rfl ?_
            refine j_goto F 38 dX10_errors_89 (by decide) ?_
            exact ih2 (k + 1) ⟨by omega, fun h => absurd h (by omega)⟩ (by show Z.1 (2 + i) - (k + 1) < Z.1 (2 + i) - k; omega)
          · skip
            refine j_top (-1) (if_neg hf) ?_
            refine j_iconst F (v := (-1)) dX10_errors_75 (by decide) ?_
            refine j_icmp_eq F 83 dX10_errors_76 (by decide) (fun c_76 => ?_) (fun c_76 => absurd (by decide) c_76)
            refine j_iconst F (v := 0) dX10_errors_83 (by decide) ?_
            refine j_iand F dX10_errors_84 ?_
            refine j_top (gd Z i (k + 1)) (gd_s0 (if_neg hf)) ?_
            refine j_istore_n F 3 [(3, .int (gd Z i (k + 1))), (4, .int (nI k)), (2, .int (nI (i + 1))), (1, .int (nI (erN Z i))), (0, .ref (ad 0))] dX10_errors_85 rfl (by decide) rfl ?_
            refine j_iinc F 1 (nI (k + 1)) [(4, .int (nI (k + 1))), (3, .int (gd Z i (k + 1))), (2, .int (nI (i + 1))), (1, .int (nI (erN Z i))), (0, .ref (ad 0))] dX10_errors_86 rfl (nI_1 _) (by decide) rfl ?_
            refine j_goto F 38 dX10_errors_89 (by decide) ?_
            exact ih2 (k + 1) ⟨by omega, fun h => absurd h (by omega)⟩ (by show Z.1 (2 + i) - (k + 1) < Z.1 (2 + i) - k; omega)

