set_option maxHeartbeats 4000000 in
set_option maxRecDepth 100000 in
theorem c_X10_isSign (l : Launch) (D : va_G) (ay : Nat → ClassId) (x : Int32) : jM l yX10_isSign (jws yX10_isSign cX10_isSign 1 (some .boolean)) 0 0 0 0 D ay [.int x] [] (fun v w => v = some (.int (if isS x then 1 else 0)) ∧ w = []) := by
  refine jM_of l (by decide) [(0, .int x)] rfl rfl (fun p9 e9 s9 m9 a9 b9 me9 c9 A9 F => ?_)
  refine j_iload_n F 0 dX10_isSign_0 rfl ?_
  refine j_bipush F (v := 108) dX10_isSign_1 (by decide) ?_
  refine j_icmp_eq F 48 dX10_isSign_3 (by decide) (fun c_3 => ?_) (fun c_3 => ?_)
  · skip
    refine j_iconst F (v := 1) dX10_isSign_48 (by decide) ?_
    refine j_goto F 53 dX10_isSign_49 (by decide) ?_
    exact j_zret F (Or.inr rfl) ⟨by rw [if_pos (show isS x from Or.inl c_3)], rfl⟩ dX10_isSign_53 (Nat.le_of_ble_eq_true rfl) (Nat.le_of_ble_eq_true rfl)
  · skip
    refine j_iload_n F 0 dX10_isSign_6 rfl ?_
    refine j_bipush F (v := 115) dX10_isSign_7 (by decide) ?_
    refine j_icmp_eq F 48 dX10_isSign_9 (by decide) (fun c_9 => ?_) (fun c_9 => ?_)
    · skip
      refine j_iconst F (v := 1) dX10_isSign_48 (by decide) ?_
      refine j_goto F 53 dX10_isSign_49 (by decide) ?_
      exact j_zret F (Or.inr rfl) ⟨by rw [if_pos (show isS x from Or.inr (Or.inl c_9))], rfl⟩ dX10_isSign_53 (Nat.le_of_ble_eq_true rfl) (Nat.le_of_ble_eq_true rfl)
    · skip
      refine j_iload_n F 0 dX10_isSign_12 rfl ?_
      refine j_bipush F (v := 97) dX10_isSign_13 (by decide) ?_
      refine j_icmp_eq F 48 dX10_isSign_15 (by decide) (fun c_15 => ?_) (fun c_15 => ?_)
      · skip
        refine j_iconst F (v := 1) dX10_isSign_48 (by decide) ?_
        refine j_goto F 53 dX10_isSign_49 (by decide) ?_
        exact j_zret F (Or.inr rfl) ⟨by rw [if_pos (show isS x from Or.inr (Or.inr (Or.inl c_15)))], rfl⟩ dX10_isSign_53 (Nat.le_of_ble_eq_true rfl) (Nat.le_of_ble_eq_true rfl)
      · skip
        refine j_iload_n F 0 dX10_isSign_18 rfl ?_
        refine j_bipush F (v := 99) dX10_isSign_19 (by decide) ?_
        refine j_icmp_eq F 48 dX10_isSign_21 (by decide) (fun c_21 => ?_) (fun c_21 => ?_)
        · skip
          refine j_iconst F (v := 1) dX10_isSign_48 (by decide) ?_
          refine j_goto F 53 dX10_isSign_49 (by decide) ?_
          exact j_zret F (Or.inr rfl) ⟨by rw [if_pos (show isS x from Or.inr (Or.inr (Or.inr (Or.inl c_21))))], rfl⟩ dX10_isSign_53 (Nat.le_of_ble_eq_true rfl) (Nat.le_of_ble_eq_true rfl)
        · skip
          refine j_iload_n F 0 dX10_isSign_24 rfl ?_
          refine j_bipush F (v := 120) dX10_isSign_25 (by decide) ?_
          refine j_icmp_eq F 48 dX10_isSign_27 (by decide) (fun c_27 => ?_) (fun c_27 => ?_)
          · skip
            refine j_iconst F (v := 1) dX10_isSign_48 (by decide) ?_
            refine j_goto F 53 dX10_isSign_49 (by decide) ?_
            exact j_zret F (Or.inr rfl) ⟨by rw [if_pos (show isS x from Or.inr (Or.inr (Or.inr (Or.inr (Or.inl c_27)))))], rfl⟩ dX10_isSign_53 (Nat.le_of_ble_eq_true rfl) (Nat.le_of_ble_eq_true rfl)
          · skip
            refine j_iload_n F 0 dX10_isSign_30 rfl ?_
            refine j_bipush F (v := 59) dX10_isSign_31 (by decide) ?_
            refine j_icmp_eq F 48 dX10_isSign_33 (by decide) (fun c_33 => ?_) (fun c_33 => ?_)
            · skip
              refine j_iconst F (v := 1) dX10_isSign_48 (by decide) ?_
              refine j_goto F 53 dX10_isSign_49 (by decide) ?_
              exact j_zret F (Or.inr rfl) ⟨by rw [if_pos (show isS x from Or.inr (Or.inr (Or.inr (Or.inr (Or.inr (Or.inl c_33))))))], rfl⟩ dX10_isSign_53 (Nat.le_of_ble_eq_true rfl) (Nat.le_of_ble_eq_true rfl)
            · skip
              refine j_iload_n F 0 dX10_isSign_36 rfl ?_
              refine j_bipush F (v := 123) dX10_isSign_37 (by decide) ?_
              refine j_icmp_eq F 48 dX10_isSign_39 (by decide) (fun c_39 => ?_) (fun c_39 => ?_)
              · skip
                refine j_iconst F (v := 1) dX10_isSign_48 (by decide) ?_
                refine j_goto F 53 dX10_isSign_49 (by decide) ?_
                exact j_zret F (Or.inr rfl) ⟨by rw [if_pos (show isS x from Or.inr (Or.inr (Or.inr (Or.inr (Or.inr (Or.inr (Or.inl c_39)))))))], rfl⟩ dX10_isSign_53 (Nat.le_of_ble_eq_true rfl) (Nat.le_of_ble_eq_true rfl)
              · skip
                refine j_iload_n F 0 dX10_isSign_42 rfl ?_
                refine j_bipush F (v := 125) dX10_isSign_43 (by decide) ?_
                refine j_icmp_ne F 52 dX10_isSign_45 (by decide) (fun c_45 => ?_) (fun c_45 => ?_)
                · skip
                  refine j_iconst F (v := 0) dX10_isSign_52 (by decide) ?_
                  exact j_zret F (Or.inl rfl) ⟨by rw [if_neg (fun h : isS x => h.elim c_3 (fun h => h.elim c_9 (fun h => h.elim c_15 (fun h => h.elim c_21 (fun h => h.elim c_27 (fun h => h.elim c_33 (fun h => h.elim c_39 (fun h => c_45 h))))))))], rfl⟩ dX10_isSign_53 (Nat.le_of_ble_eq_true rfl) (Nat.le_of_ble_eq_true rfl)
                · skip
                  refine j_iconst F (v := 1) dX10_isSign_48 (by decide) ?_
                  refine j_goto F 53 dX10_isSign_49 (by decide) ?_
                  exact j_zret F (Or.inr rfl) ⟨by rw [if_pos (show isS x from Or.inr (Or.inr (Or.inr (Or.inr (Or.inr (Or.inr (Or.inr (c_45))))))))], rfl⟩ dX10_isSign_53 (Nat.le_of_ble_eq_true rfl) (Nat.le_of_ble_eq_true rfl)

set_option maxHeartbeats 4000000 in
set_option maxRecDepth 100000 in
theorem c_X10_reads (l : Launch) (D : va_G) (ay : Nat → ClassId) (ad : Nat → Nat) (vi : Nat → Int32) (ga : Nat → Nat → Int32) (n : Nat) (p : Nat) (h16 : vi 16 = nI n) (hn : n ≤ 300) (h20 : vi 20 = nI p) (hp : p ≤ n) : jM l yX10_reads (jws yX10_reads cX10_reads 2 none) 1 22 0 0 D ay [.ref (ad 0)] (mW ay ad vi ga) (fun v w => ∃ (tk : Int32), ∃ (va : Int32), ∃ (pb : Int32), TK (ga 10) n (sk (ga 10) n p) tk va pb ∧ v = none ∧ w = (mW ay ad (ups (ups (ups (ups vi 17 tk) 18 (nI (sk (ga 10) n p))) 19 va) 20 pb) ga)) := by
  refine jM_of l (by decide) [(0, .ref (ad 0))] rfl rfl (fun p9 e9 s9 m9 a9 b9 me9 c9 A9 F => ?_)
  refine j_loop (σ := Nat) (fun i => p ≤ i ∧ i ≤ n ∧ sk (ga 10) n i = sk (ga 10) n p) (fun i => n - i) (fun _ => [(0, .ref (ad 0))]) (fun i => (mW ay ad (ups vi 20 (nI i)) ga)) p ⟨Nat.le_refl _, hp, rfl⟩ rfl (by rw [← h20, show ups vi 20 (vi 20) = vi from ups_self]) (fun i hI ih => ?_)
  obtain ⟨hpi, hi, hsk⟩ := hI
  refine j_aload_n F 0 dX10_reads_0 rfl ?_
  refine j_getf F fX10_162 0 (v := .int (nI i)) rfl rfl dX10_reads_1 ?_
  refine j_aload_n F 0 dX10_reads_4 rfl ?_
  refine j_getf F fX10_153 0 (v := .int (vi 16)) rfl rfl dX10_reads_5 ?_
  refine j_top (nI n) h16 ?_
  refine j_icmp_ge F 52 dX10_reads_8 (by decide) (fun c_8 => ?_) (fun c_8 => ?_)
  · skip
    have n_8 := (n_le n i rfl rfl (by omega) (by omega)).mp c_8
    have hq : sk (ga 10) n p = i := by rw [← hsk]; exact sk_end (by omega)
    refine j_aload_n F 0 dX10_reads_52 rfl ?_
    refine j_aload_n F 0 dX10_reads_53 rfl ?_
    refine j_getf F fX10_162 0 (v := .int (nI i)) rfl rfl dX10_reads_54 ?_
    refine j_putf F fX10_165 0 (mW ay ad (ups (ups vi 18 (nI i)) 20 (nI i)) ga) rfl rfl rfl rfl rfl (Nat.le_of_ble_eq_true rfl) dX10_reads_57 ?_
    refine j_aload_n F 0 dX10_reads_60 rfl ?_
    refine j_iconst F (v := 0) dX10_reads_61 (by decide) ?_
    refine j_putf F fX10_168 0 (mW ay ad (ups (ups (ups vi 17 0) 18 (nI i)) 20 (nI i)) ga) rfl rfl rfl rfl rfl (Nat.le_of_ble_eq_true rfl) dX10_reads_62 ?_
    refine j_aload_n F 0 dX10_reads_65 rfl ?_
    refine j_getf F fX10_162 0 (v := .int (nI i)) rfl rfl dX10_reads_66 ?_
    refine j_aload_n F 0 dX10_reads_69 rfl ?_
    refine j_getf F fX10_153 0 (v := .int (vi 16)) rfl rfl dX10_reads_70 ?_
    refine j_top (nI n) h16 ?_
    refine j_icmp_ne F 77 dX10_reads_73 (by decide) (fun c_73 => ?_) (fun c_73 => ?_)
    · skip
      have n_73 := mt (n_eq i n rfl rfl (by omega) (by omega)).mpr c_73
      exact absurd (show i = n by omega) n_73
    · skip
      have n_73 := (n_eq i n rfl rfl (by omega) (by omega)).mp c_73
      exact j_vret F ⟨0, vi 19, nI i, by rw [hq, n_73]; exact Or.inl ⟨rfl, rfl, rfl⟩, rfl, by rw [hq] <;> rfl⟩ dX10_reads_76 (Nat.le_of_ble_eq_true rfl) (Nat.le_of_ble_eq_true rfl)
  · skip
    have n_8 := mt (n_le n i rfl rfl (by omega) (by omega)).mpr c_8
    refine j_aload_n F 0 dX10_reads_11 rfl ?_
    refine j_getf F fX10_51 0 (v := .ref (ad 11)) rfl rfl dX10_reads_12 ?_
    refine j_aload_n F 0 dX10_reads_15 rfl ?_
    refine j_getf F fX10_162 0 (v := .int (nI i)) rfl rfl dX10_reads_16 ?_
    refine j_iald F 11 i (f := ga 10) rfl rfl (by omega) (Nat.le_of_ble_eq_true rfl) dX10_reads_19 ?_
    refine j_bipush F (v := 32) dX10_reads_20 (by decide) ?_
    refine j_icmp_eq F 39 dX10_reads_22 (by decide) (fun c_22 => ?_) (fun c_22 => ?_)
    · skip
      refine j_aload_n F 0 dX10_reads_39 rfl ?_
      refine j_dup F dX10_reads_40 rfl ?_
      refine j_getf F fX10_162 0 (v := .int (nI i)) rfl rfl dX10_reads_41 ?_
      refine j_iconst F (v := 1) dX10_reads_44 (by decide) ?_
      refine j_iadd F dX10_reads_45 ?_
      refine j_top (nI (i + 1)) (nI_add _ _) ?_
      refine j_putf F fX10_162 0 (mW ay ad (ups vi 20 (nI (i + 1))) ga) rfl rfl rfl rfl rfl (Nat.le_of_ble_eq_true rfl) dX10_reads_46 ?_
      refine j_goto F 0 dX10_reads_49 (by decide) ?_
      exact ih (i + 1) ⟨by omega, by omega, by rw [← hsk]; exact (sk_blank (by omega) (Or.inl c_22)).symm⟩ (by show n - (i + 1) < n - i; omega)
    · skip
      refine j_aload_n F 0 dX10_reads_25 rfl ?_
      refine j_getf F fX10_51 0 (v := .ref (ad 11)) rfl rfl dX10_reads_26 ?_
      refine j_aload_n F 0 dX10_reads_29 rfl ?_
      refine j_getf F fX10_162 0 (v := .int (nI i)) rfl rfl dX10_reads_30 ?_
      refine j_iald F 11 i (f := ga 10) rfl rfl (by omega) (Nat.le_of_ble_eq_true rfl) dX10_reads_33 ?_
      refine j_bipush F (v := 10) dX10_reads_34 (by decide) ?_
      refine j_icmp_ne F 52 dX10_reads_36 (by decide) (fun c_36 => ?_) (fun c_36 => ?_)
      · skip
        have hq : sk (ga 10) n p = i := by rw [← hsk]; exact sk_stop (by omega) (fun h => h.elim c_22 c_36)
        refine j_aload_n F 0 dX10_reads_52 rfl ?_
        refine j_aload_n F 0 dX10_reads_53 rfl ?_
        refine j_getf F fX10_162 0 (v := .int (nI i)) rfl rfl dX10_reads_54 ?_
        refine j_putf F fX10_165 0 (mW ay ad (ups (ups vi 18 (nI i)) 20 (nI i)) ga) rfl rfl rfl rfl rfl (Nat.le_of_ble_eq_true rfl) dX10_reads_57 ?_
        refine j_aload_n F 0 dX10_reads_60 rfl ?_
        refine j_iconst F (v := 0) dX10_reads_61 (by decide) ?_
        refine j_putf F fX10_168 0 (mW ay ad (ups (ups (ups vi 17 0) 18 (nI i)) 20 (nI i)) ga) rfl rfl rfl rfl rfl (Nat.le_of_ble_eq_true rfl) dX10_reads_62 ?_
        refine j_aload_n F 0 dX10_reads_65 rfl ?_
        refine j_getf F fX10_162 0 (v := .int (nI i)) rfl rfl dX10_reads_66 ?_
        refine j_aload_n F 0 dX10_reads_69 rfl ?_
        refine j_getf F fX10_153 0 (v := .int (vi 16)) rfl rfl dX10_reads_70 ?_
        refine j_top (nI n) h16 ?_
        refine j_icmp_ne F 77 dX10_reads_73 (by decide) (fun c_73 => ?_) (fun c_73 => ?_)
        · skip
          have n_73 := mt (n_eq i n rfl rfl (by omega) (by omega)).mpr c_73
          have hin : i < n := by omega
          refine j_aload_n F 0 dX10_reads_77 rfl ?_
          refine j_aload_n F 0 dX10_reads_78 rfl ?_
          refine j_getf F fX10_51 0 (v := .ref (ad 11)) rfl rfl dX10_reads_79 ?_
          refine j_aload_n F 0 dX10_reads_82 rfl ?_
          refine j_getf F fX10_162 0 (v := .int (nI i)) rfl rfl dX10_reads_83 ?_
          refine j_iald F 11 i (f := ga 10) rfl rfl (by omega) (Nat.le_of_ble_eq_true rfl) dX10_reads_86 ?_
          refine j_putf F fX10_171 0 (mW ay ad (ups (ups (ups (ups vi 17 0) 18 (nI i)) 19 ((ga 10) i)) 20 (nI i)) ga) rfl rfl rfl rfl rfl (Nat.le_of_ble_eq_true rfl) dX10_reads_87 ?_
          refine j_aload_n F 0 dX10_reads_90 rfl ?_
          refine j_aload_n F 0 dX10_reads_91 rfl ?_
          refine j_getf F fX10_171 0 (v := .int ((ga 10) i)) rfl rfl dX10_reads_92 ?_
          refine j_ecallS F kX10_174 (As := [.int ((ga 10) i)]) (rest := [.ref (ad 0)]) (c_X10_isSign l D ay ((ga 10) i)) rfl rfl rfl rfl ⟨Nat.le_of_ble_eq_true rfl, Nat.le_of_ble_eq_true rfl⟩ dX10_reads_95 (fun v w hw => ?_)
          obtain ⟨rfl, rfl⟩ := hw
          refine ⟨rfl, ?_⟩
          refine j_top (if isS ((ga 10) i) then 1 else 0) rfl ?_
          by_cases hs : isS (ga 10 i)
          · skip
            refine j_top 1 (if_pos hs) ?_
            refine j_if_eq F 105 dX10_reads_98 (by decide) (fun c_98 => absurd c_98 (by decide)) (fun c_98 => ?_)
            refine j_iconst F (v := 1) dX10_reads_101 (by decide) ?_
            refine j_goto F 106 dX10_reads_102 (by decide) ?_
            refine j_putf F fX10_168 0 (mW ay ad (ups (ups (ups (ups vi 17 1) 18 (nI i)) 19 ((ga 10) i)) 20 (nI i)) ga) rfl rfl rfl rfl rfl (Nat.le_of_ble_eq_true rfl) dX10_reads_106 ?_
            by_cases hd : oob (ga 10 i) 48 57
            · skip
              refine j_aload_n F 0 dX10_reads_109 rfl ?_
              refine j_getf F fX10_171 0 (v := .int ((ga 10) i)) rfl rfl dX10_reads_110 ?_
              refine j_bipush F (v := 48) dX10_reads_113 (by decide) ?_
              refine j_bipush F (v := 57) dX10_reads_115 (by decide) ?_
              refine j_ecallS F kX10_84 (As := [.int ((ga 10) i), .int 48, .int 57]) (rest := []) (c_X10_in_no l D ay ((ga 10) i) 48 57 (show oob ((ga 10) i) 48 57 from hd)) rfl rfl rfl rfl ⟨Nat.le_of_ble_eq_true rfl, Nat.le_of_ble_eq_true rfl⟩ dX10_reads_117 (fun v w hw => ?_)
              obtain ⟨rfl, rfl⟩ := hw
              refine ⟨rfl, ?_⟩
              refine j_top 0 rfl ?_
              refine j_if_ne F 134 dX10_reads_120 (by decide) (fun c_120 => absurd (by decide) c_120) (fun c_120 => ?_)
              refine j_aload_n F 0 dX10_reads_123 rfl ?_
              refine j_dup F dX10_reads_124 rfl ?_
              refine j_getf F fX10_162 0 (v := .int (nI i)) rfl rfl dX10_reads_125 ?_
              refine j_iconst F (v := 1) dX10_reads_128 (by decide) ?_
              refine j_iadd F dX10_reads_129 ?_
              refine j_top (nI (i + 1)) (nI_add _ _) ?_
              refine j_putf F fX10_162 0 (mW ay ad (ups (ups (ups (ups vi 17 1) 18 (nI i)) 19 ((ga 10) i)) 20 (nI (i + 1))) ga) rfl rfl rfl rfl rfl (Nat.le_of_ble_eq_true rfl) dX10_reads_130 ?_
              exact j_vret F ⟨1, ga 10 i, nI (i + 1), by rw [hq]; exact Or.inr (Or.inl ⟨hin, fun h => (G_oob.mpr h) hd, rfl, (if_pos hs).symm, rfl⟩), rfl, by rw [hq] <;> rfl⟩ dX10_reads_133 (Nat.le_of_ble_eq_true rfl) (Nat.le_of_ble_eq_true rfl)
            · skip
              refine j_aload_n F 0 dX10_reads_109 rfl ?_
              refine j_getf F fX10_171 0 (v := .int ((ga 10) i)) rfl rfl dX10_reads_110 ?_
              refine j_bipush F (v := 48) dX10_reads_113 (by decide) ?_
              refine j_bipush F (v := 57) dX10_reads_115 (by decide) ?_
              refine j_ecallS F kX10_84 (As := [.int ((ga 10) i), .int 48, .int 57]) (rest := []) (c_X10_in l D ay ((ga 10) i) 48 57 (show ¬ oob ((ga 10) i) 48 57 from hd)) rfl rfl rfl rfl ⟨Nat.le_of_ble_eq_true rfl, Nat.le_of_ble_eq_true rfl⟩ dX10_reads_117 (fun v w hw => ?_)
              obtain ⟨rfl, rfl⟩ := hw
              refine ⟨rfl, ?_⟩
              refine j_top 1 rfl ?_
              refine j_if_ne F 134 dX10_reads_120 (by decide) (fun c_120 => ?_) (fun c_120 => absurd c_120 (by decide))
              refine j_iconst F (v := 0) dX10_reads_134 (by decide) ?_
              refine j_istore_n F 1 [(1, .int 0), (0, .ref (ad 0))] dX10_reads_135 rfl (by decide) rfl ?_
              refine j_aload_n F 1 dX10_reads_136 rfl ?_
              refine j_iconst F (v := 0) dX10_reads_137 (by decide) ?_
              refine j_putf F fX10_171 0 (mW ay ad (ups (ups (ups (ups vi 17 1) 18 (nI i)) 19 0) 20 (nI i)) ga) rfl rfl rfl rfl rfl (Nat.le_of_ble_eq_true rfl) dX10_reads_138 ?_
              have hg := G_oob.mp hd
              refine j_loop (σ := Nat) (fun j => i + j ≤ n ∧ j + dg (ga 10) n (i + j) = dg (ga 10) n i) (fun j => n - j) (fun j => [(1, .int (nI j)), (0, .ref (ad 0))]) (fun j => (mW ay ad (ups (ups (ups (ups vi 17 1) 18 (nI i)) 19 (vl (ga 10) i (min j 3))) 20 (nI (i + j))) ga)) 0 ⟨hi, Nat.zero_add _⟩ rfl rfl (fun j hJ ih2 => ?_)
              obtain ⟨hj, hdj⟩ := hJ
              refine j_aload_n F 1 dX10_reads_141 rfl ?_
              refine j_getf F fX10_162 0 (v := .int (nI (i + j))) rfl rfl dX10_reads_142 ?_
              refine j_aload_n F 1 dX10_reads_145 rfl ?_
              refine j_getf F fX10_153 0 (v := .int (vi 16)) rfl rfl dX10_reads_146 ?_
              refine j_top (nI n) h16 ?_
              refine j_icmp_ge F 216 dX10_reads_149 (by decide) (fun c_149 => ?_) (fun c_149 => ?_)
              · skip
                have n_149 := (n_le n (i + j) rfl rfl (by omega) (by omega)).mp c_149
                have hdz := dg_end (f := ga 10) (n := n) (p := i + j) (by omega)
                refine j_aload_n F 1 dX10_reads_216 rfl ?_
                refine j_iload_n F 0 dX10_reads_217 rfl ?_
                refine j_iconst F (v := 3) dX10_reads_218 (by decide) ?_
                refine j_icmp_gt F 226 dX10_reads_219 (by decide) (fun c_219 => ?_) (fun c_219 => ?_)
                · skip
                  have n_219 := (n_lt 3 j rfl rfl (by omega) (by omega)).mp c_219
                  refine j_iconst F (v := 3) dX10_reads_226 (by decide) ?_
                  refine j_putf F fX10_168 0 (mW ay ad (ups (ups (ups (ups vi 17 3) 18 (nI i)) 19 (vl (ga 10) i (min j 3))) 20 (nI (i + j))) ga) rfl rfl rfl rfl rfl (Nat.le_of_ble_eq_true rfl) dX10_reads_227 ?_
                  exact j_vret F ⟨3, vl (ga 10) i (min j 3), nI (i + j), by rw [hq]; exact Or.inr (Or.inr ⟨hin, hg, by rw [show dg (ga 10) n i = j by omega], Or.inr ⟨by omega, rfl⟩⟩), rfl, by rw [hq] <;> rfl⟩ dX10_reads_230 (Nat.le_of_ble_eq_true rfl) (Nat.le_of_ble_eq_true rfl)
                · skip
                  have n_219 := mt (n_lt 3 j rfl rfl (by omega) (by omega)).mpr c_219
                  refine j_iconst F (v := 2) dX10_reads_222 (by decide) ?_
                  refine j_goto F 227 dX10_reads_223 (by decide) ?_
                  refine j_putf F fX10_168 0 (mW ay ad (ups (ups (ups (ups vi 17 2) 18 (nI i)) 19 (vl (ga 10) i (min j 3))) 20 (nI (i + j))) ga) rfl rfl rfl rfl rfl (Nat.le_of_ble_eq_true rfl) dX10_reads_227 ?_
                  exact j_vret F ⟨2, vl (ga 10) i (min j 3), nI (i + j), by rw [hq]; exact Or.inr (Or.inr ⟨hin, hg, by rw [show dg (ga 10) n i = j by omega], Or.inl ⟨by omega, rfl, by rw [show dg (ga 10) n i = j by omega, show min j 3 = j by omega]⟩⟩), rfl, by rw [hq] <;> rfl⟩ dX10_reads_230 (Nat.le_of_ble_eq_true rfl) (Nat.le_of_ble_eq_true rfl)
              · skip
                have n_149 := mt (n_le n (i + j) rfl rfl (by omega) (by omega)).mpr c_149
                by_cases hd2 : oob (ga 10 (i + j)) 48 57
                · skip
                  refine j_aload_n F 1 dX10_reads_152 rfl ?_
                  refine j_getf F fX10_51 0 (v := .ref (ad 11)) rfl rfl dX10_reads_153 ?_
                  refine j_aload_n F 1 dX10_reads_156 rfl ?_
                  refine j_getf F fX10_162 0 (v := .int (nI (i + j))) rfl rfl dX10_reads_157 ?_
                  refine j_iald F 11 (i + j) (f := ga 10) rfl rfl (by omega) (Nat.le_of_ble_eq_true rfl) dX10_reads_160 ?_
                  refine j_bipush F (v := 48) dX10_reads_161 (by decide) ?_
                  refine j_bipush F (v := 57) dX10_reads_163 (by decide) ?_
                  refine j_ecallS F kX10_84 (As := [.int ((ga 10) (i + j)), .int 48, .int 57]) (rest := []) (c_X10_in_no l D ay ((ga 10) (i + j)) 48 57 (show oob ((ga 10) (i + j)) 48 57 from hd2)) rfl rfl rfl rfl ⟨Nat.le_of_ble_eq_true rfl, Nat.le_of_ble_eq_true rfl⟩ dX10_reads_165 (fun v w hw => ?_)
                  obtain ⟨rfl, rfl⟩ := hw
                  refine ⟨rfl, ?_⟩
                  refine j_top 0 rfl ?_
                  refine j_if_eq F 216 dX10_reads_168 (by decide) (fun c_168 => ?_) (fun c_168 => absurd (by decide) c_168)
                  have hdz := dg_no (f := ga 10) (n := n) (p := i + j) (by omega) (fun h => (G_oob.mpr h) hd2)
                  refine j_aload_n F 1 dX10_reads_216 rfl ?_
                  refine j_iload_n F 0 dX10_reads_217 rfl ?_
                  refine j_iconst F (v := 3) dX10_reads_218 (by decide) ?_
                  refine j_icmp_gt F 226 dX10_reads_219 (by decide) (fun c_219 => ?_) (fun c_219 => ?_)
                  · skip
                    have n_219 := (n_lt 3 j rfl rfl (by omega) (by omega)).mp c_219
                    refine j_iconst F (v := 3) dX10_reads_226 (by decide) ?_
                    refine j_putf F fX10_168 0 (mW ay ad (ups (ups (ups (ups vi 17 3) 18 (nI i)) 19 (vl (ga 10) i (min j 3))) 20 (nI (i + j))) ga) rfl rfl rfl rfl rfl (Nat.le_of_ble_eq_true rfl) dX10_reads_227 ?_
                    exact j_vret F ⟨3, vl (ga 10) i (min j 3), nI (i + j), by rw [hq]; exact Or.inr (Or.inr ⟨hin, hg, by rw [show dg (ga 10) n i = j by omega], Or.inr ⟨by omega, rfl⟩⟩), rfl, by rw [hq] <;> rfl⟩ dX10_reads_230 (Nat.le_of_ble_eq_true rfl) (Nat.le_of_ble_eq_true rfl)
                  · skip
                    have n_219 := mt (n_lt 3 j rfl rfl (by omega) (by omega)).mpr c_219
                    refine j_iconst F (v := 2) dX10_reads_222 (by decide) ?_
                    refine j_goto F 227 dX10_reads_223 (by decide) ?_
                    refine j_putf F fX10_168 0 (mW ay ad (ups (ups (ups (ups vi 17 2) 18 (nI i)) 19 (vl (ga 10) i (min j 3))) 20 (nI (i + j))) ga) rfl rfl rfl rfl rfl (Nat.le_of_ble_eq_true rfl) dX10_reads_227 ?_
                    exact j_vret F ⟨2, vl (ga 10) i (min j 3), nI (i + j), by rw [hq]; exact Or.inr (Or.inr ⟨hin, hg, by rw [show dg (ga 10) n i = j by omega], Or.inl ⟨by omega, rfl, by rw [show dg (ga 10) n i = j by omega, show min j 3 = j by omega]⟩⟩), rfl, by rw [hq] <;> rfl⟩ dX10_reads_230 (Nat.le_of_ble_eq_true rfl) (Nat.le_of_ble_eq_true rfl)
                · skip
                  refine j_aload_n F 1 dX10_reads_152 rfl ?_
                  refine j_getf F fX10_51 0 (v := .ref (ad 11)) rfl rfl dX10_reads_153 ?_
                  refine j_aload_n F 1 dX10_reads_156 rfl ?_
                  refine j_getf F fX10_162 0 (v := .int (nI (i + j))) rfl rfl dX10_reads_157 ?_
                  refine j_iald F 11 (i + j) (f := ga 10) rfl rfl (by omega) (Nat.le_of_ble_eq_true rfl) dX10_reads_160 ?_
                  refine j_bipush F (v := 48) dX10_reads_161 (by decide) ?_
                  refine j_bipush F (v := 57) dX10_reads_163 (by decide) ?_
                  refine j_ecallS F kX10_84 (As := [.int ((ga 10) (i + j)), .int 48, .int 57]) (rest := []) (c_X10_in l D ay ((ga 10) (i + j)) 48 57 (show ¬ oob ((ga 10) (i + j)) 48 57 from hd2)) rfl rfl rfl rfl ⟨Nat.le_of_ble_eq_true rfl, Nat.le_of_ble_eq_true rfl⟩ dX10_reads_165 (fun v w hw => ?_)
                  obtain ⟨rfl, rfl⟩ := hw
                  refine ⟨rfl, ?_⟩
                  refine j_top 1 rfl ?_
                  refine j_if_eq F 216 dX10_reads_168 (by decide) (fun c_168 => absurd c_168 (by decide)) (fun c_168 => ?_)
                  refine j_iload_n F 0 dX10_reads_171 rfl ?_
                  refine j_iconst F (v := 3) dX10_reads_172 (by decide) ?_
                  refine j_icmp_ge F 200 dX10_reads_173 (by decide) (fun c_173 => ?_) (fun c_173 => ?_)
                  · skip
                    have n_173 := (n_le 3 j rfl rfl (by omega) (by omega)).mp c_173
                    refine j_iinc F 0 (nI (j + 1)) [(1, .int (nI (j + 1))), (0, .ref (ad 0))] dX10_reads_200 rfl (nI_1 _) (by decide) rfl ?_
                    refine j_aload_n F 1 dX10_reads_203 rfl ?_
                    refine j_dup F dX10_reads_204 rfl ?_
                    refine j_getf F fX10_162 0 (v := .int (nI (i + j))) rfl rfl dX10_reads_205 ?_
                    refine j_iconst F (v := 1) dX10_reads_208 (by decide) ?_
                    refine j_iadd F dX10_reads_209 ?_
                    refine j_top (nI (i + j + 1)) (nI_add _ _) ?_
                    refine j_putf F fX10_162 0 (mW ay ad (ups (ups (ups (ups vi 17 1) 18 (nI i)) 19 (vl (ga 10) i (min j 3))) 20 (nI (i + j + 1))) ga) rfl rfl rfl rfl rfl (Nat.le_of_ble_eq_true rfl) dX10_reads_210 ?_
                    refine j_goto F 141 dX10_reads_213 (by decide) ?_
                    have hdy := dg_yes (f := ga 10) (n := n) (p := i + j) (by omega) (G_oob.mp hd2)
                    refine j_nf (mW ay ad (ups (ups (ups (ups vi 17 1) 18 (nI i)) 19 (vl (ga 10) i (min (j + 1) 3))) 20 (nI (i + (j + 1)))) ga) [(1, .int (nI (j + 1))), (0, .ref (ad 0))] (by rw [show min (j + 1) 3 = 3 by omega, show min j 3 = 3 by omega]; rfl) rfl ?_
                    exact ih2 (j + 1) ⟨by omega, by rw [show i + (j + 1) = i + j + 1 by omega]; omega⟩ (by show n - (j + 1) < n - j; omega)
                  · skip
                    have n_173 := mt (n_le 3 j rfl rfl (by omega) (by omega)).mpr c_173
                    refine j_aload_n F 1 dX10_reads_176 rfl ?_
                    refine j_bipush F (v := 10) dX10_reads_177 (by decide) ?_
                    refine j_aload_n F 1 dX10_reads_179 rfl ?_
                    refine j_getf F fX10_171 0 (v := .int (vl (ga 10) i (min j 3))) rfl rfl dX10_reads_180 ?_
                    refine j_imul F dX10_reads_183 ?_
                    refine j_aload_n F 1 dX10_reads_184 rfl ?_
                    refine j_getf F fX10_51 0 (v := .ref (ad 11)) rfl rfl dX10_reads_185 ?_
                    refine j_aload_n F 1 dX10_reads_188 rfl ?_
                    refine j_getf F fX10_162 0 (v := .int (nI (i + j))) rfl rfl dX10_reads_189 ?_
                    refine j_iald F 11 (i + j) (f := ga 10) rfl rfl (by omega) (Nat.le_of_ble_eq_true rfl) dX10_reads_192 ?_
                    refine j_iadd F dX10_reads_193 ?_
                    refine j_bipush F (v := 48) dX10_reads_194 (by decide) ?_
                    refine j_isub F dX10_reads_196 ?_
                    refine j_top (vl (ga 10) i (min (j + 1) 3)) (vl_s (by omega)) ?_
                    refine j_putf F fX10_171 0 (mW ay ad (ups (ups (ups (ups vi 17 1) 18 (nI i)) 19 (vl (ga 10) i (min (j + 1) 3))) 20 (nI (i + j))) ga) rfl rfl rfl rfl rfl (Nat.le_of_ble_eq_true rfl) dX10_reads_197 ?_
                    refine j_iinc F 0 (nI (j + 1)) [(1, .int (nI (j + 1))), (0, .ref (ad 0))] dX10_reads_200 rfl (nI_1 _) (by decide) rfl ?_
                    refine j_aload_n F 1 dX10_reads_203 rfl ?_
                    refine j_dup F dX10_reads_204 rfl ?_
                    refine j_getf F fX10_162 0 (v := .int (nI (i + j))) rfl rfl dX10_reads_205 ?_
                    refine j_iconst F (v := 1) dX10_reads_208 (by decide) ?_
                    refine j_iadd F dX10_reads_209 ?_
                    refine j_top (nI (i + j + 1)) (nI_add _ _) ?_
                    refine j_putf F fX10_162 0 (mW ay ad (ups (ups (ups (ups vi 17 1) 18 (nI i)) 19 (vl (ga 10) i (min (j + 1) 3))) 20 (nI (i + j + 1))) ga) rfl rfl rfl rfl rfl (Nat.le_of_ble_eq_true rfl) dX10_reads_210 ?_
                    refine j_goto F 141 dX10_reads_213 (by decide) ?_
                    have hdy := dg_yes (f := ga 10) (n := n) (p := i + j) (by omega) (G_oob.mp hd2)
                    exact ih2 (j + 1) ⟨by omega, by rw [show i + (j + 1) = i + j + 1 by omega]; omega⟩ (by show n - (j + 1) < n - j; omega)
          · skip
            refine j_top 0 (if_neg hs) ?_
            refine j_if_eq F 105 dX10_reads_98 (by decide) (fun c_98 => ?_) (fun c_98 => absurd (by decide) c_98)
            refine j_iconst F (v := 3) dX10_reads_105 (by decide) ?_
            refine j_putf F fX10_168 0 (mW ay ad (ups (ups (ups (ups vi 17 3) 18 (nI i)) 19 ((ga 10) i)) 20 (nI i)) ga) rfl rfl rfl rfl rfl (Nat.le_of_ble_eq_true rfl) dX10_reads_106 ?_
            by_cases hd : oob (ga 10 i) 48 57
            · skip
              refine j_aload_n F 0 dX10_reads_109 rfl ?_
              refine j_getf F fX10_171 0 (v := .int ((ga 10) i)) rfl rfl dX10_reads_110 ?_
              refine j_bipush F (v := 48) dX10_reads_113 (by decide) ?_
              refine j_bipush F (v := 57) dX10_reads_115 (by decide) ?_
              refine j_ecallS F kX10_84 (As := [.int ((ga 10) i), .int 48, .int 57]) (rest := []) (c_X10_in_no l D ay ((ga 10) i) 48 57 (show oob ((ga 10) i) 48 57 from hd)) rfl rfl rfl rfl ⟨Nat.le_of_ble_eq_true rfl, Nat.le_of_ble_eq_true rfl⟩ dX10_reads_117 (fun v w hw => ?_)
              obtain ⟨rfl, rfl⟩ := hw
              refine ⟨rfl, ?_⟩
              refine j_top 0 rfl ?_
              refine j_if_ne F 134 dX10_reads_120 (by decide) (fun c_120 => absurd (by decide) c_120) (fun c_120 => ?_)
              refine j_aload_n F 0 dX10_reads_123 rfl ?_
              refine j_dup F dX10_reads_124 rfl ?_
              refine j_getf F fX10_162 0 (v := .int (nI i)) rfl rfl dX10_reads_125 ?_
              refine j_iconst F (v := 1) dX10_reads_128 (by decide) ?_
              refine j_iadd F dX10_reads_129 ?_
              refine j_top (nI (i + 1)) (nI_add _ _) ?_
              refine j_putf F fX10_162 0 (mW ay ad (ups (ups (ups (ups vi 17 3) 18 (nI i)) 19 ((ga 10) i)) 20 (nI (i + 1))) ga) rfl rfl rfl rfl rfl (Nat.le_of_ble_eq_true rfl) dX10_reads_130 ?_
              exact j_vret F ⟨3, ga 10 i, nI (i + 1), by rw [hq]; exact Or.inr (Or.inl ⟨hin, fun h => (G_oob.mpr h) hd, rfl, (if_neg hs).symm, rfl⟩), rfl, by rw [hq] <;> rfl⟩ dX10_reads_133 (Nat.le_of_ble_eq_true rfl) (Nat.le_of_ble_eq_true rfl)
            · skip
              refine j_aload_n F 0 dX10_reads_109 rfl ?_
              refine j_getf F fX10_171 0 (v := .int ((ga 10) i)) rfl rfl dX10_reads_110 ?_
              refine j_bipush F (v := 48) dX10_reads_113 (by decide) ?_
              refine j_bipush F (v := 57) dX10_reads_115 (by decide) ?_
              refine j_ecallS F kX10_84 (As := [.int ((ga 10) i), .int 48, .int 57]) (rest := []) (c_X10_in l D ay ((ga 10) i) 48 57 (show ¬ oob ((ga 10) i) 48 57 from hd)) rfl rfl rfl rfl ⟨Nat.le_of_ble_eq_true rfl, Nat.le_of_ble_eq_true rfl⟩ dX10_reads_117 (fun v w hw => ?_)
              obtain ⟨rfl, rfl⟩ := hw
              refine ⟨rfl, ?_⟩
              refine j_top 1 rfl ?_
              refine j_if_ne F 134 dX10_reads_120 (by decide) (fun c_120 => ?_) (fun c_120 => absurd c_120 (by decide))
              refine j_iconst F (v := 0) dX10_reads_134 (by decide) ?_
              refine j_istore_n F 1 [(1, .int 0), (0, .ref (ad 0))] dX10_reads_135 rfl (by decide) rfl ?_
              refine j_aload_n F 1 dX10_reads_136 rfl ?_
              refine j_iconst F (v := 0) dX10_reads_137 (by decide) ?_
              refine j_putf F fX10_171 0 (mW ay ad (ups (ups (ups (ups vi 17 3) 18 (nI i)) 19 0) 20 (nI i)) ga) rfl rfl rfl rfl rfl (Nat.le_of_ble_eq_true rfl) dX10_reads_138 ?_
              have hg := G_oob.mp hd
              refine j_loop (σ := Nat) (fun j => i + j ≤ n ∧ j + dg (ga 10) n (i + j) = dg (ga 10) n i) (fun j => n - j) (fun j => [(1, .int (nI j)), (0, .ref (ad 0))]) (fun j => (mW ay ad (ups (ups (ups (ups vi 17 3) 18 (nI i)) 19 (vl (ga 10) i (min j 3))) 20 (nI (i + j))) ga)) 0 ⟨hi, Nat.zero_add _⟩ rfl rfl (fun j hJ ih2 => ?_)
              obtain ⟨hj, hdj⟩ := hJ
              refine j_aload_n F 1 dX10_reads_141 rfl ?_
              refine j_getf F fX10_162 0 (v := .int (nI (i + j))) rfl rfl dX10_reads_142 ?_
              refine j_aload_n F 1 dX10_reads_145 rfl ?_
              refine j_getf F fX10_153 0 (v := .int (vi 16)) rfl rfl dX10_reads_146 ?_
              refine j_top (nI n) h16 ?_
              refine j_icmp_ge F 216 dX10_reads_149 (by decide) (fun c_149 => ?_) (fun c_149 => ?_)
              · skip
                have n_149 := (n_le n (i + j) rfl rfl (by omega) (by omega)).mp c_149
                have hdz := dg_end (f := ga 10) (n := n) (p := i + j) (by omega)
                refine j_aload_n F 1 dX10_reads_216 rfl ?_
                refine j_iload_n F 0 dX10_reads_217 rfl ?_
                refine j_iconst F (v := 3) dX10_reads_218 (by decide) ?_
                refine j_icmp_gt F 226 dX10_reads_219 (by decide) (fun c_219 => ?_) (fun c_219 => ?_)
                · skip
                  have n_219 := (n_lt 3 j rfl rfl (by omega) (by omega)).mp c_219
                  refine j_iconst F (v := 3) dX10_reads_226 (by decide) ?_
                  refine j_putf F fX10_168 0 (mW ay ad (ups (ups (ups (ups vi 17 3) 18 (nI i)) 19 (vl (ga 10) i (min j 3))) 20 (nI (i + j))) ga) rfl rfl rfl rfl rfl (Nat.le_of_ble_eq_true rfl) dX10_reads_227 ?_
                  exact j_vret F ⟨3, vl (ga 10) i (min j 3), nI (i + j), by rw [hq]; exact Or.inr (Or.inr ⟨hin, hg, by rw [show dg (ga 10) n i = j by omega], Or.inr ⟨by omega, rfl⟩⟩), rfl, by rw [hq] <;> rfl⟩ dX10_reads_230 (Nat.le_of_ble_eq_true rfl) (Nat.le_of_ble_eq_true rfl)
                · skip
                  have n_219 := mt (n_lt 3 j rfl rfl (by omega) (by omega)).mpr c_219
                  refine j_iconst F (v := 2) dX10_reads_222 (by decide) ?_
                  refine j_goto F 227 dX10_reads_223 (by decide) ?_
                  refine j_putf F fX10_168 0 (mW ay ad (ups (ups (ups (ups vi 17 2) 18 (nI i)) 19 (vl (ga 10) i (min j 3))) 20 (nI (i + j))) ga) rfl rfl rfl rfl rfl (Nat.le_of_ble_eq_true rfl) dX10_reads_227 ?_
                  exact j_vret F ⟨2, vl (ga 10) i (min j 3), nI (i + j), by rw [hq]; exact Or.inr (Or.inr ⟨hin, hg, by rw [show dg (ga 10) n i = j by omega], Or.inl ⟨by omega, rfl, by rw [show dg (ga 10) n i = j by omega, show min j 3 = j by omega]⟩⟩), rfl, by rw [hq] <;> rfl⟩ dX10_reads_230 (Nat.le_of_ble_eq_true rfl) (Nat.le_of_ble_eq_true rfl)
              · skip
                have n_149 := mt (n_le n (i + j) rfl rfl (by omega) (by omega)).mpr c_149
                by_cases hd2 : oob (ga 10 (i + j)) 48 57
                · skip
                  refine j_aload_n F 1 dX10_reads_152 rfl ?_
                  refine j_getf F fX10_51 0 (v := .ref (ad 11)) rfl rfl dX10_reads_153 ?_
                  refine j_aload_n F 1 dX10_reads_156 rfl ?_
                  refine j_getf F fX10_162 0 (v := .int (nI (i + j))) rfl rfl dX10_reads_157 ?_
                  refine j_iald F 11 (i + j) (f := ga 10) rfl rfl (by omega) (Nat.le_of_ble_eq_true rfl) dX10_reads_160 ?_
                  refine j_bipush F (v := 48) dX10_reads_161 (by decide) ?_
                  refine j_bipush F (v := 57) dX10_reads_163 (by decide) ?_
                  refine j_ecallS F kX10_84 (As := [.int ((ga 10) (i + j)), .int 48, .int 57]) (rest := []) (c_X10_in_no l D ay ((ga 10) (i + j)) 48 57 (show oob ((ga 10) (i + j)) 48 57 from hd2)) rfl rfl rfl rfl ⟨Nat.le_of_ble_eq_true rfl, Nat.le_of_ble_eq_true rfl⟩ dX10_reads_165 (fun v w hw => ?_)
                  obtain ⟨rfl, rfl⟩ := hw
                  refine ⟨rfl, ?_⟩
                  refine j_top 0 rfl ?_
                  refine j_if_eq F 216 dX10_reads_168 (by decide) (fun c_168 => ?_) (fun c_168 => absurd (by decide) c_168)
                  have hdz := dg_no (f := ga 10) (n := n) (p := i + j) (by omega) (fun h => (G_oob.mpr h) hd2)
                  refine j_aload_n F 1 dX10_reads_216 rfl ?_
                  refine j_iload_n F 0 dX10_reads_217 rfl ?_
                  refine j_iconst F (v := 3) dX10_reads_218 (by decide) ?_
                  refine j_icmp_gt F 226 dX10_reads_219 (by decide) (fun c_219 => ?_) (fun c_219 => ?_)
                  · skip
                    have n_219 := (n_lt 3 j rfl rfl (by omega) (by omega)).mp c_219
                    refine j_iconst F (v := 3) dX10_reads_226 (by decide) ?_
                    refine j_putf F fX10_168 0 (mW ay ad (ups (ups (ups (ups vi 17 3) 18 (nI i)) 19 (vl (ga 10) i (min j 3))) 20 (nI (i + j))) ga) rfl rfl rfl rfl rfl (Nat.le_of_ble_eq_true rfl) dX10_reads_227 ?_
                    exact j_vret F ⟨3, vl (ga 10) i (min j 3), nI (i + j), by rw [hq]; exact Or.inr (Or.inr ⟨hin, hg, by rw [show dg (ga 10) n i = j by omega], Or.inr ⟨by omega, rfl⟩⟩), rfl, by rw [hq] <;> rfl⟩ dX10_reads_230 (Nat.le_of_ble_eq_true rfl) (Nat.le_of_ble_eq_true rfl)
                  · skip
                    have n_219 := mt (n_lt 3 j rfl rfl (by omega) (by omega)).mpr c_219
                    refine j_iconst F (v := 2) dX10_reads_222 (by decide) ?_
                    refine j_goto F 227 dX10_reads_223 (by decide) ?_
                    refine j_putf F fX10_168 0 (mW ay ad (ups (ups (ups (ups vi 17 2) 18 (nI i)) 19 (vl (ga 10) i (min j 3))) 20 (nI (i + j))) ga) rfl rfl rfl rfl rfl (Nat.le_of_ble_eq_true rfl) dX10_reads_227 ?_
                    exact j_vret F ⟨2, vl (ga 10) i (min j 3), nI (i + j), by rw [hq]; exact Or.inr (Or.inr ⟨hin, hg, by rw [show dg (ga 10) n i = j by omega], Or.inl ⟨by omega, rfl, by rw [show dg (ga 10) n i = j by omega, show min j 3 = j by omega]⟩⟩), rfl, by rw [hq] <;> rfl⟩ dX10_reads_230 (Nat.le_of_ble_eq_true rfl) (Nat.le_of_ble_eq_true rfl)
                · skip
                  refine j_aload_n F 1 dX10_reads_152 rfl ?_
                  refine j_getf F fX10_51 0 (v := .ref (ad 11)) rfl rfl dX10_reads_153 ?_
                  refine j_aload_n F 1 dX10_reads_156 rfl ?_
                  refine j_getf F fX10_162 0 (v := .int (nI (i + j))) rfl rfl dX10_reads_157 ?_
                  refine j_iald F 11 (i + j) (f := ga 10) rfl rfl (by omega) (Nat.le_of_ble_eq_true rfl) dX10_reads_160 ?_
                  refine j_bipush F (v := 48) dX10_reads_161 (by decide) ?_
                  refine j_bipush F (v := 57) dX10_reads_163 (by decide) ?_
                  refine j_ecallS F kX10_84 (As := [.int ((ga 10) (i + j)), .int 48, .int 57]) (rest := []) (c_X10_in l D ay ((ga 10) (i + j)) 48 57 (show ¬ oob ((ga 10) (i + j)) 48 57 from hd2)) rfl rfl rfl rfl ⟨Nat.le_of_ble_eq_true rfl, Nat.le_of_ble_eq_true rfl⟩ dX10_reads_165 (fun v w hw => ?_)
                  obtain ⟨rfl, rfl⟩ := hw
                  refine ⟨rfl, ?_⟩
                  refine j_top 1 rfl ?_
                  refine j_if_eq F 216 dX10_reads_168 (by decide) (fun c_168 => absurd c_168 (by decide)) (fun c_168 => ?_)
                  refine j_iload_n F 0 dX10_reads_171 rfl ?_
                  refine j_iconst F (v := 3) dX10_reads_172 (by decide) ?_
                  refine j_icmp_ge F 200 dX10_reads_173 (by decide) (fun c_173 => ?_) (fun c_173 => ?_)
                  · skip
                    have n_173 := (n_le 3 j rfl rfl (by omega) (by omega)).mp c_173
                    refine j_iinc F 0 (nI (j + 1)) [(1, .int (nI (j + 1))), (0, .ref (ad 0))] dX10_reads_200 rfl (nI_1 _) (by decide) rfl ?_
                    refine j_aload_n F 1 dX10_reads_203 rfl ?_
                    refine j_dup F dX10_reads_204 rfl ?_
                    refine j_getf F fX10_162 0 (v := .int (nI (i + j))) rfl rfl dX10_reads_205 ?_
                    refine j_iconst F (v := 1) dX10_reads_208 (by decide) ?_
                    refine j_iadd F dX10_reads_209 ?_
                    refine j_top (nI (i + j + 1)) (nI_add _ _) ?_
                    refine j_putf F fX10_162 0 (mW ay ad (ups (ups (ups (ups vi 17 3) 18 (nI i)) 19 (vl (ga 10) i (min j 3))) 20 (nI (i + j + 1))) ga) rfl rfl rfl rfl rfl (Nat.le_of_ble_eq_true rfl) dX10_reads_210 ?_
                    refine j_goto F 141 dX10_reads_213 (by decide) ?_
                    have hdy := dg_yes (f := ga 10) (n := n) (p := i + j) (by omega) (G_oob.mp hd2)
                    refine j_nf (mW ay ad (ups (ups (ups (ups vi 17 3) 18 (nI i)) 19 (vl (ga 10) i (min (j + 1) 3))) 20 (nI (i + (j + 1)))) ga) [(1, .int (nI (j + 1))), (0, .ref (ad 0))] (by rw [show min (j + 1) 3 = 3 by omega, show min j 3 = 3 by omega]; rfl) rfl ?_
                    exact ih2 (j + 1) ⟨by omega, by rw [show i + (j + 1) = i + j + 1 by omega]; omega⟩ (by show n - (j + 1) < n - j; omega)
                  · skip
                    have n_173 := mt (n_le 3 j rfl rfl (by omega) (by omega)).mpr c_173
                    refine j_aload_n F 1 dX10_reads_176 rfl ?_
                    refine j_bipush F (v := 10) dX10_reads_177 (by decide) ?_
                    refine j_aload_n F 1 dX10_reads_179 rfl ?_
                    refine j_getf F fX10_171 0 (v := .int (vl (ga 10) i (min j 3))) rfl rfl dX10_reads_180 ?_
                    refine j_imul F dX10_reads_183 ?_
                    refine j_aload_n F 1 dX10_reads_184 rfl ?_
                    refine j_getf F fX10_51 0 (v := .ref (ad 11)) rfl rfl dX10_reads_185 ?_
                    refine j_aload_n F 1 dX10_reads_188 rfl ?_
                    refine j_getf F fX10_162 0 (v := .int (nI (i + j))) rfl rfl dX10_reads_189 ?_
                    refine j_iald F 11 (i + j) (f := ga 10) rfl rfl (by omega) (Nat.le_of_ble_eq_true rfl) dX10_reads_192 ?_
                    refine j_iadd F dX10_reads_193 ?_
                    refine j_bipush F (v := 48) dX10_reads_194 (by decide) ?_
                    refine j_isub F dX10_reads_196 ?_
                    refine j_top (vl (ga 10) i (min (j + 1) 3)) (vl_s (by omega)) ?_
                    refine j_putf F fX10_171 0 (mW ay ad (ups (ups (ups (ups vi 17 3) 18 (nI i)) 19 (vl (ga 10) i (min (j + 1) 3))) 20 (nI (i + j))) ga) rfl rfl rfl rfl rfl (Nat.le_of_ble_eq_true rfl) dX10_reads_197 ?_
                    refine j_iinc F 0 (nI (j + 1)) [(1, .int (nI (j + 1))), (0, .ref (ad 0))] dX10_reads_200 rfl (nI_1 _) (by decide) rfl ?_
                    refine j_aload_n F 1 dX10_reads_203 rfl ?_
                    refine j_dup F dX10_reads_204 rfl ?_
                    refine j_getf F fX10_162 0 (v := .int (nI (i + j))) rfl rfl dX10_reads_205 ?_
                    refine j_iconst F (v := 1) dX10_reads_208 (by decide) ?_
                    refine j_iadd F dX10_reads_209 ?_
                    refine j_top (nI (i + j + 1)) (nI_add _ _) ?_
                    refine j_putf F fX10_162 0 (mW ay ad (ups (ups (ups (ups vi 17 3) 18 (nI i)) 19 (vl (ga 10) i (min (j + 1) 3))) 20 (nI (i + j + 1))) ga) rfl rfl rfl rfl rfl (Nat.le_of_ble_eq_true rfl) dX10_reads_210 ?_
                    refine j_goto F 141 dX10_reads_213 (by decide) ?_
                    have hdy := dg_yes (f := ga 10) (n := n) (p := i + j) (by omega) (G_oob.mp hd2)
                    exact ih2 (j + 1) ⟨by omega, by rw [show i + (j + 1) = i + j + 1 by omega]; omega⟩ (by show n - (j + 1) < n - j; omega)
        · skip
          have n_73 := (n_eq i n rfl rfl (by omega) (by omega)).mp c_73
          exact absurd n_73 (by omega)
      · skip
        refine j_aload_n F 0 dX10_reads_39 rfl ?_
        refine j_dup F dX10_reads_40 rfl ?_
        refine j_getf F fX10_162 0 (v := .int (nI i)) rfl rfl dX10_reads_41 ?_
        refine j_iconst F (v := 1) dX10_reads_44 (by decide) ?_
        refine j_iadd F dX10_reads_45 ?_
        refine j_top (nI (i + 1)) (nI_add _ _) ?_
        refine j_putf F fX10_162 0 (mW ay ad (ups vi 20 (nI (i + 1))) ga) rfl rfl rfl rfl rfl (Nat.le_of_ble_eq_true rfl) dX10_reads_46 ?_
        refine j_goto F 0 dX10_reads_49 (by decide) ?_
        exact ih (i + 1) ⟨by omega, by omega, by rw [← hsk]; exact (sk_blank (by omega) (Or.inr c_36)).symm⟩ (by show n - (i + 1) < n - i; omega)

