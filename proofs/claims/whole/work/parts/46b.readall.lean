set_option maxHeartbeats 4000000 in
set_option maxRecDepth 100000 in
theorem c_X10_readsAll (l : Launch) (D : va_G) (ay : Nat → ClassId) (ad : Nat → Nat) (vi : Nat → Int32) (ga : Nat → Nat → Int32) (n : Nat) (h16 : vi 16 = nI n) (hn : n ≤ 300) : jM l yX10_readsAll (jws yX10_readsAll cX10_readsAll 2 (some .boolean)) 4 88 0 0 D ay [.ref (ad 0)] (mW ay ad vi ga) (fun v w => ∃ (tk : Int32), ∃ (ta : Int32), ∃ (va : Int32), ∃ (pb : Int32), ∃ (m : Nat), ∃ (g11 : Nat → Int32), ∃ (g12 : Nat → Int32), ((prs (ga 10) n n (sk (ga 10) n 0) 0).2 = -1 → m = (prs (ga 10) n n (sk (ga 10) n 0) 0).1.length ∧ m ≤ 300 ∧ RW (prs (ga 10) n n (sk (ga 10) n 0) 0).1 g11 g12) ∧ (¬ (prs (ga 10) n n (sk (ga 10) n 0) 0).2 = -1 → ta = (prs (ga 10) n n (sk (ga 10) n 0) 0).2) ∧ v = some (.int (if (prs (ga 10) n n (sk (ga 10) n 0) 0).2 = -1 then 1 else 0)) ∧ w = (mW ay ad (ups (ups (ups (ups (ups vi 17 tk) 18 ta) 19 va) 20 pb) 23 (nI m)) (ups (ups ga 11 g11) 12 g12))) := by
  refine jM_of l (by decide) [(0, .ref (ad 0))] rfl rfl (fun p9 e9 s9 m9 a9 b9 me9 c9 A9 F => ?_)
  refine j_aload_n F 0 dX10_readsAll_0 rfl ?_
  refine j_iconst F (v := 0) dX10_readsAll_1 (by decide) ?_
  refine j_putf F fX10_162 0 (mW ay ad (ups vi 20 0) ga) rfl rfl rfl rfl rfl (Nat.le_of_ble_eq_true rfl) dX10_readsAll_2 ?_
  refine j_aload_n F 0 dX10_readsAll_5 rfl ?_
  refine j_iconst F (v := 0) dX10_readsAll_6 (by decide) ?_
  refine j_putf F fX10_177 0 (mW ay ad (ups (ups vi 20 0) 23 0) ga) rfl rfl rfl rfl rfl (Nat.le_of_ble_eq_true rfl) dX10_readsAll_7 ?_
  refine j_iconst F (v := 0) dX10_readsAll_10 (by decide) ?_
  refine j_istore_n F 1 [(1, .int 0), (0, .ref (ad 0))] dX10_readsAll_11 rfl (by decide) rfl ?_
  refine j_aload_n F 1 dX10_readsAll_12 rfl ?_
  refine j_scallV F kX10_180 (As := []) (rest := []) (c_X10_reads l D ay ad (ups (ups vi 20 0) 23 0) ga n 0 (show vi 16 = nI n from h16) (show n ≤ 300 from hn) (show 0 = nI 0 from rfl) (show 0 ≤ n from Nat.zero_le _)) 0 0 20 rfl rfl rfl rfl rfl rfl ⟨Nat.le_of_ble_eq_true rfl, Nat.le_of_ble_eq_true rfl⟩ dX10_readsAll_13 (fun v w hw => ?_)
  obtain ⟨tk_13, va_13, pb_13, h13_0, rfl, rfl⟩ := hw
  replace h13_0 : TK (ga 10) n (sk (ga 10) n 0) tk_13 va_13 pb_13 := h13_0
  refine ⟨rfl, (mW ay ad (ups (ups (ups (ups (ups vi 17 tk_13) 18 (nI (sk (ga 10) n 0))) 19 va_13) 20 pb_13) 23 0) ga), (slp_all _ _ rfl).trans rfl, ?_⟩
  have hq0 : sk (ga 10) n 0 ≤ n := sk_le (Nat.zero_le _)
  have hf0 : prs (ga 10) n (n - (sk (ga 10) n 0)) (sk (ga 10) n 0) 0 = prs (ga 10) n n (sk (ga 10) n 0) 0 := prs_fuel (ga 10) n _ _ _ _ (Nat.le_refl _) (Nat.sub_le _ _)
  refine j_loop (σ := Nat × Nat × Nat × Int32 × Int32 × Int32 × (Nat → Int32) × (Nat → Int32) × List (Int32 × Int32)) (fun z => TK (ga 10) n z.1 z.2.2.2.1 z.2.2.2.2.1 z.2.2.2.2.2.1 ∧ z.1 ≤ n ∧ z.2.2.1 ≤ z.1 ∧ z.2.1 ≤ 4 ∧ z.2.2.1 = z.2.2.2.2.2.2.2.2.length ∧ RW z.2.2.2.2.2.2.2.2 z.2.2.2.2.2.2.1 z.2.2.2.2.2.2.2.1 ∧ (prs (ga 10) n (n - z.1) z.1 z.2.1).2 = (prs (ga 10) n n (sk (ga 10) n 0) 0).2 ∧ z.2.2.2.2.2.2.2.2 ++ (prs (ga 10) n (n - z.1) z.1 z.2.1).1 = (prs (ga 10) n n (sk (ga 10) n 0) 0).1) (fun z => n - z.1) (fun z => [(1, .int (nI z.2.1)), (0, .ref (ad 0))]) (fun z => (mW ay ad (ups (ups (ups (ups (ups vi 17 z.2.2.2.1) 18 (nI z.1)) 19 z.2.2.2.2.1) 20 z.2.2.2.2.2.1) 23 (nI z.2.2.1)) (ups (ups ga 11 z.2.2.2.2.2.2.1) 12 z.2.2.2.2.2.2.2.1))) (sk (ga 10) n 0, 0, 0, tk_13, va_13, pb_13, ga 11, ga 12, []) ⟨h13_0, hq0, Nat.zero_le _, Nat.zero_le _, rfl, RW_0, by show (prs (ga 10) n (n - (sk (ga 10) n 0)) (sk (ga 10) n 0) 0).2 = _; rw [hf0], by show [] ++ (prs (ga 10) n (n - (sk (ga 10) n 0)) (sk (ga 10) n 0) 0).1 = _; rw [hf0]; rfl⟩ rfl rfl (fun z hz ih => ?_)
  obtain ⟨q, op, m, tk, va, pb, g11, g12, its⟩ := z
  replace hz : TK (ga 10) n q tk va pb ∧ q ≤ n ∧ m ≤ q ∧ op ≤ 4 ∧ m = its.length ∧ RW its g11 g12 ∧ (prs (ga 10) n (n - q) q op).2 = (prs (ga 10) n n (sk (ga 10) n 0) 0).2 ∧ its ++ (prs (ga 10) n (n - q) q op).1 = (prs (ga 10) n n (sk (ga 10) n 0) 0).1 := hz
  obtain ⟨hT, hqn, hmq, hop, hml, hRW, hE2, hE1⟩ := hz
  refine j_nf (mW ay ad (ups (ups (ups (ups (ups vi 17 tk) 18 (nI q)) 19 va) 20 pb) 23 (nI m)) (ups (ups ga 11 g11) 12 g12)) [(1, .int (nI op)), (0, .ref (ad 0))] rfl rfl ?_
  refine j_aload_n F 1 dX10_readsAll_16 rfl ?_
  refine j_getf F fX10_168 0 (v := .int tk) rfl rfl dX10_readsAll_17 ?_
  refine j_if_eq F 104 dX10_readsAll_20 (by decide) (fun c_20 => ?_) (fun c_20 => ?_)
  · skip
    have hqe := (tk_end hT hqn).mp c_20
    have hpe := prs_end (f := ga 10) (n := n) (p := q) (op := op) (by omega)
    refine j_iload_n F 0 dX10_readsAll_104 rfl ?_
    refine j_if_ne F 112 dX10_readsAll_105 (by decide) (fun c_105 => ?_) (fun c_105 => ?_)
    · skip
      have n_105 := mt (n_eq op 0 rfl rfl (by omega) (by omega)).mpr c_105
      refine j_iconst F (v := 0) dX10_readsAll_112 (by decide) ?_
      exact j_zret F (Or.inl rfl) ⟨tk, nI q, va, pb, m, g11, g12, fun h => absurd ((hE2.symm.trans ((congrArg Prod.snd hpe).trans (if_pos (by omega)))).symm.trans h) (nI_m1 (by omega)), fun _ => (hE2.symm.trans ((congrArg Prod.snd hpe).trans (if_pos (by omega)))).symm, by rw [if_neg (fun h => absurd ((hE2.symm.trans ((congrArg Prod.snd hpe).trans (if_pos (by omega)))).symm.trans h) (nI_m1 (by omega)))], rfl⟩ dX10_readsAll_113 (Nat.le_of_ble_eq_true rfl) (Nat.le_of_ble_eq_true rfl)
    · skip
      have n_105 := (n_eq op 0 rfl rfl (by omega) (by omega)).mp c_105
      refine j_iconst F (v := 1) dX10_readsAll_108 (by decide) ?_
      refine j_goto F 113 dX10_readsAll_109 (by decide) ?_
      exact j_zret F (Or.inr rfl) ⟨tk, nI q, va, pb, m, g11, g12, fun _ => by rw [show (prs (ga 10) n n (sk (ga 10) n 0) 0).1 = its from (hE1.symm.trans (by rw [hpe, List.append_nil]))]; exact ⟨hml, by omega, hRW⟩, fun h => absurd (hE2.symm.trans ((congrArg Prod.snd hpe).trans (if_neg (by omega)))) h, by rw [if_pos (hE2.symm.trans ((congrArg Prod.snd hpe).trans (if_neg (by omega))))], rfl⟩ dX10_readsAll_113 (Nat.le_of_ble_eq_true rfl) (Nat.le_of_ble_eq_true rfl)
  · skip
    have hq : q < n := Decidable.byContradiction fun h => c_20 ((tk_end hT hqn).mpr h)
    refine j_iload_n F 0 dX10_readsAll_23 rfl ?_
    refine j_if_le F 67 dX10_readsAll_24 (by decide) (fun c_24 => ?_) (fun c_24 => ?_)
    · skip
      have n_24 := (n_le op 0 rfl rfl (by omega) (by omega)).mp c_24
      rcases hit : itm (ga 10) n q op with ⟨kd, x, p2⟩ | e
      · skip
        have hk : ¬ kd = 125 := fun h => by
          subst h
          have h0 := (itm_125 hit).2
          omega
        have hpo := prs_ok hq hit
        have hlt := itm_lt hq hit
        refine j_aload_n F 1 dX10_readsAll_67 rfl ?_
        refine j_iload_n F 0 dX10_readsAll_68 rfl ?_
        refine j_scallV F kX10_189 (As := [.int (nI op)]) (rest := []) (c_X10_readsItem_yes l D ay ad (ups (ups (ups (ups (ups vi 17 tk) 18 (nI q)) 19 va) 20 pb) 23 (nI m)) (ups (ups ga 11 g11) 12 g12) n q m op kd x p2 (show TK (ga 10) n q (tk) (va) (pb) from hT) (show vi 16 = nI n from h16) (show n ≤ 300 from hn) (show q < n from hq) (show (nI m) = nI m from rfl) (show m ≤ q from hmq) (show op ≤ 4 from hop) (show itm (ga 10) n q op = .inl (kd, x, p2) from hit) (show ¬ kd = 125 from hk)) 0 0 20 rfl rfl rfl rfl rfl rfl ⟨Nat.le_of_ble_eq_true rfl, Nat.le_of_ble_eq_true rfl⟩ dX10_readsAll_69 (fun v w hw => ?_)
        obtain ⟨tk_69, va_69, pb_69, h69_0, rfl, rfl⟩ := hw
        replace h69_0 : TK (ga 10) n p2 tk_69 va_69 pb_69 := h69_0
        refine ⟨rfl, (mW ay ad (ups (ups (ups (ups (ups vi 17 tk_69) 18 (nI p2)) 19 va_69) 20 pb_69) 23 (nI (m + 1))) (ups (ups ga 11 (upd (g11) m kd)) 12 (upd (g12) m x))), (slp_all _ _ rfl).trans rfl, ?_⟩
        refine j_top 1 rfl ?_
        refine j_if_ne F 77 dX10_readsAll_72 (by decide) (fun c_72 => ?_) (fun c_72 => absurd c_72 (by decide))
        refine j_iload_n F 0 dX10_readsAll_77 rfl ?_
        refine j_aload_n F 1 dX10_readsAll_78 rfl ?_
        refine j_getf F fX10_54 0 (v := .ref (ad 12)) rfl rfl dX10_readsAll_79 ?_
        refine j_aload_n F 1 dX10_readsAll_82 rfl ?_
        refine j_getf F fX10_177 0 (v := .int (nI (m + 1))) rfl rfl dX10_readsAll_83 ?_
        refine j_iconst F (v := 1) dX10_readsAll_86 (by decide) ?_
        refine j_isub F dX10_readsAll_87 ?_
        refine j_top (nI m) (pk_sub (a := m + 1) (b := 1) (by omega)) ?_
        refine j_iald F 12 m (f := upd (g11) m kd) rfl rfl (by omega) (Nat.le_of_ble_eq_true rfl) dX10_readsAll_88 ?_
        refine j_top kd upd_s ?_
        refine j_bipush F (v := 120) dX10_readsAll_89 (by decide) ?_
        refine j_icmp_ne F 98 dX10_readsAll_91 (by decide) (fun c_91 => ?_) (fun c_91 => ?_)
        · skip
          refine j_iconst F (v := 0) dX10_readsAll_98 (by decide) ?_
          refine j_iadd F dX10_readsAll_99 ?_
          refine j_top (nI (op + 0)) (nI_add _ _) ?_
          refine j_istore_n F 1 [(1, .int (nI (op + 0))), (0, .ref (ad 0))] dX10_readsAll_100 rfl (by decide) rfl ?_
          refine j_goto F 16 dX10_readsAll_101 (by decide) ?_
          have hopn : opn op kd = op := (opn_o c_91 hk)
          have hN : TK (ga 10) n p2 tk_69 va_69 pb_69 ∧ p2 ≤ n ∧ (m + 1) ≤ p2 ∧ op ≤ 4 ∧ (m + 1) = (its ++ [(kd, x)]).length ∧ RW (its ++ [(kd, x)]) (upd (g11) m kd) (upd (g12) m x) ∧ (prs (ga 10) n (n - p2) p2 op).2 = (prs (ga 10) n n (sk (ga 10) n 0) 0).2 ∧ (its ++ [(kd, x)]) ++ (prs (ga 10) n (n - p2) p2 op).1 = (prs (ga 10) n n (sk (ga 10) n 0) 0).1 := by
            refine ⟨h69_0, hlt.2, by omega, hop, by rw [List.length_append, ← hml]; rfl, RW_add hRW hml (fun _ h => upd_o h) (Or.inr upd_s), ?_, ?_⟩
            · rw [← hE2, hpo, hopn]
            · rw [← hE1, hpo, hopn, List.append_assoc]; rfl
          exact ih (p2, op, m + 1, tk_69, va_69, pb_69, (upd (g11) m kd), (upd (g12) m x), (its ++ [(kd, x)])) hN (by show n - p2 < n - q; omega)
        · skip
          refine j_iconst F (v := 1) dX10_readsAll_94 (by decide) ?_
          refine j_goto F 99 dX10_readsAll_95 (by decide) ?_
          refine j_iadd F dX10_readsAll_99 ?_
          refine j_top (nI (op + 1)) (nI_add _ _) ?_
          refine j_istore_n F 1 [(1, .int (nI (op + 1))), (0, .ref (ad 0))] dX10_readsAll_100 rfl (by decide) rfl ?_
          refine j_goto F 16 dX10_readsAll_101 (by decide) ?_
          have h120 : kd = 120 := c_91
          have hopn : opn op kd = (op + 1) := (by rw [h120, opn_120])
          have hN : TK (ga 10) n p2 tk_69 va_69 pb_69 ∧ p2 ≤ n ∧ (m + 1) ≤ p2 ∧ (op + 1) ≤ 4 ∧ (m + 1) = (its ++ [(kd, x)]).length ∧ RW (its ++ [(kd, x)]) (upd (g11) m kd) (upd (g12) m x) ∧ (prs (ga 10) n (n - p2) p2 (op + 1)).2 = (prs (ga 10) n n (sk (ga 10) n 0) 0).2 ∧ (its ++ [(kd, x)]) ++ (prs (ga 10) n (n - p2) p2 (op + 1)).1 = (prs (ga 10) n n (sk (ga 10) n 0) 0).1 := by
            refine ⟨h69_0, hlt.2, by omega, (by have := itm_op (h120 ▸ hit); omega), by rw [List.length_append, ← hml]; rfl, RW_add hRW hml (fun _ h => upd_o h) (Or.inr upd_s), ?_, ?_⟩
            · rw [← hE2, hpo, hopn]
            · rw [← hE1, hpo, hopn, List.append_assoc]; rfl
          exact ih (p2, (op + 1), m + 1, tk_69, va_69, pb_69, (upd (g11) m kd), (upd (g12) m x), (its ++ [(kd, x)])) hN (by show n - p2 < n - q; omega)
      · skip
        have hpn := prs_no hq hit
        have hen := itm_er hq hit
        refine j_aload_n F 1 dX10_readsAll_67 rfl ?_
        refine j_iload_n F 0 dX10_readsAll_68 rfl ?_
        refine j_scallV F kX10_189 (As := [.int (nI op)]) (rest := []) (c_X10_readsItem_no l D ay ad (ups (ups (ups (ups (ups vi 17 tk) 18 (nI q)) 19 va) 20 pb) 23 (nI m)) (ups (ups ga 11 g11) 12 g12) n q m op e (show TK (ga 10) n q (tk) (va) (pb) from hT) (show vi 16 = nI n from h16) (show n ≤ 300 from hn) (show q < n from hq) (show (nI m) = nI m from rfl) (show m ≤ q from hmq) (show op ≤ 4 from hop) (show (nI q) = nI q from rfl) (show itm (ga 10) n q op = .inr e from hit)) 0 0 20 rfl rfl rfl rfl rfl rfl ⟨Nat.le_of_ble_eq_true rfl, Nat.le_of_ble_eq_true rfl⟩ dX10_readsAll_69 (fun v w hw => ?_)
        obtain ⟨tk_69, va_69, pb_69, g12_69, rfl, rfl⟩ := hw
        refine ⟨rfl, (mW ay ad (ups (ups (ups (ups (ups vi 17 tk_69) 18 (nI e)) 19 va_69) 20 pb_69) 23 (nI m)) (ups (ups ga 11 g11) 12 g12_69)), (slp_all _ _ rfl).trans rfl, ?_⟩
        refine j_top 0 rfl ?_
        refine j_if_ne F 77 dX10_readsAll_72 (by decide) (fun c_72 => absurd (by decide) c_72) (fun c_72 => ?_)
        refine j_iconst F (v := 0) dX10_readsAll_75 (by decide) ?_
        exact j_zret F (Or.inl rfl) ⟨tk_69, nI e, va_69, pb_69, m, g11, g12_69, fun h => absurd ((hE2.symm.trans (congrArg Prod.snd hpn)).symm.trans h) (nI_m1 (by omega)), fun _ => (hE2.symm.trans (congrArg Prod.snd hpn)).symm, by rw [if_neg (fun h => absurd ((hE2.symm.trans (congrArg Prod.snd hpn)).symm.trans h) (nI_m1 (by omega)))], rfl⟩ dX10_readsAll_76 (Nat.le_of_ble_eq_true rfl) (Nat.le_of_ble_eq_true rfl)
    · skip
      have n_24 := mt (n_le op 0 rfl rfl (by omega) (by omega)).mpr c_24
      by_cases hc : btA (ga 10) n q = 125
      · skip
        have hs := (tk_sign hT (b := 125) (by decide)).mpr hc
        obtain ⟨hpb, -, hvq, -⟩ := tk_pb hT hs.1
        have hf : ga 10 q = 125 := hvq.symm.trans hs.2
        have hit := itm_cl (n := n) (op := op) hf (by omega)
        have hpo := prs_ok hq hit
        have hlt := itm_lt hq hit
        refine j_aload_n F 1 dX10_readsAll_27 rfl ?_
        refine j_bipush F (v := 125) dX10_readsAll_28 (by decide) ?_
        refine j_scallV F kX10_186 (As := [.int 125]) (rest := []) (c_X10_isSignNow_yes l D ay ad (ups (ups (ups (ups (ups vi 17 tk) 18 (nI q)) 19 va) 20 pb) 23 (nI m)) (ups (ups ga 11 g11) 12 g12) 125 (show tk = 1 ∧ va = 125 from hs)) 0 0 20 rfl rfl rfl rfl rfl rfl ⟨Nat.le_of_ble_eq_true rfl, Nat.le_of_ble_eq_true rfl⟩ dX10_readsAll_30 (fun v w hw => ?_)
        obtain ⟨rfl, rfl⟩ := hw
        refine ⟨rfl, (mW ay ad (ups (ups (ups (ups (ups vi 17 tk) 18 (nI q)) 19 va) 20 pb) 23 (nI m)) (ups (ups ga 11 g11) 12 g12)), (slp_all _ _ rfl).trans rfl, ?_⟩
        refine j_top 1 rfl ?_
        refine j_if_eq F 67 dX10_readsAll_33 (by decide) (fun c_33 => absurd c_33 (by decide)) (fun c_33 => ?_)
        refine j_aload_n F 1 dX10_readsAll_36 rfl ?_
        refine j_getf F fX10_54 0 (v := .ref (ad 12)) rfl rfl dX10_readsAll_37 ?_
        refine j_aload_n F 1 dX10_readsAll_40 rfl ?_
        refine j_getf F fX10_177 0 (v := .int (nI m)) rfl rfl dX10_readsAll_41 ?_
        refine j_bipush F (v := 125) dX10_readsAll_44 (by decide) ?_
        refine j_iast F 12 (mW ay ad (ups (ups (ups (ups (ups vi 17 tk) 18 (nI q)) 19 va) 20 pb) 23 (nI m)) (ups (ups ga 11 (upd g11 m 125)) 12 g12)) m rfl rfl (by omega) (Nat.le_of_ble_eq_true rfl) rfl dX10_readsAll_46 ?_
        refine j_aload_n F 1 dX10_readsAll_47 rfl ?_
        refine j_dup F dX10_readsAll_48 rfl ?_
        refine j_getf F fX10_177 0 (v := .int (nI m)) rfl rfl dX10_readsAll_49 ?_
        refine j_iconst F (v := 1) dX10_readsAll_52 (by decide) ?_
        refine j_iadd F dX10_readsAll_53 ?_
        refine j_top (nI (m + 1)) (nI_add _ _) ?_
        refine j_putf F fX10_177 0 (mW ay ad (ups (ups (ups (ups (ups vi 17 tk) 18 (nI q)) 19 va) 20 pb) 23 (nI (m + 1))) (ups (ups ga 11 (upd g11 m 125)) 12 g12)) rfl rfl rfl rfl rfl (Nat.le_of_ble_eq_true rfl) dX10_readsAll_54 ?_
        refine j_iinc F 0 (nI (op - 1)) [(1, .int (nI (op - 1))), (0, .ref (ad 0))] dX10_readsAll_57 rfl (nI_dec.trans (pk_sub (a := op) (b := 1) (by omega))) (by decide) rfl ?_
        refine j_aload_n F 1 dX10_readsAll_60 rfl ?_
        refine j_scallV F kX10_180 (As := []) (rest := []) (c_X10_reads l D ay ad (ups (ups (ups (ups (ups vi 17 tk) 18 (nI q)) 19 va) 20 pb) 23 (nI (m + 1))) (ups (ups ga 11 (upd g11 m 125)) 12 g12) n (q + 1) (show vi 16 = nI n from h16) (show n ≤ 300 from hn) (show pb = nI (q + 1) from hpb) (show (q + 1) ≤ n from by omega)) 0 0 20 rfl rfl rfl rfl rfl rfl ⟨Nat.le_of_ble_eq_true rfl, Nat.le_of_ble_eq_true rfl⟩ dX10_readsAll_61 (fun v w hw => ?_)
        obtain ⟨tk_61, va_61, pb_61, h61_0, rfl, rfl⟩ := hw
        replace h61_0 : TK (ga 10) n (sk (ga 10) n (q + 1)) tk_61 va_61 pb_61 := h61_0
        refine ⟨rfl, (mW ay ad (ups (ups (ups (ups (ups vi 17 tk_61) 18 (nI (sk (ga 10) n (q + 1)))) 19 va_61) 20 pb_61) 23 (nI (m + 1))) (ups (ups ga 11 (upd g11 m 125)) 12 g12)), (slp_all _ _ rfl).trans rfl, ?_⟩
        refine j_goto F 16 dX10_readsAll_64 (by decide) ?_
        have hN : TK (ga 10) n (sk (ga 10) n (q + 1)) tk_61 va_61 pb_61 ∧ (sk (ga 10) n (q + 1)) ≤ n ∧ (m + 1) ≤ (sk (ga 10) n (q + 1)) ∧ (op - 1) ≤ 4 ∧ (m + 1) = (its ++ [(125, 0)]).length ∧ RW (its ++ [(125, 0)]) (upd g11 m 125) g12 ∧ (prs (ga 10) n (n - (sk (ga 10) n (q + 1))) (sk (ga 10) n (q + 1)) (op - 1)).2 = (prs (ga 10) n n (sk (ga 10) n 0) 0).2 ∧ (its ++ [(125, 0)]) ++ (prs (ga 10) n (n - (sk (ga 10) n (q + 1))) (sk (ga 10) n (q + 1)) (op - 1)).1 = (prs (ga 10) n n (sk (ga 10) n 0) 0).1 := by
          refine ⟨h61_0, hlt.2, by omega, by omega, by rw [List.length_append, ← hml]; rfl, RW_add hRW hml (fun _ _ => rfl) (Or.inl rfl), ?_, ?_⟩
          · rw [← hE2, hpo, opn_125]
          · rw [← hE1, hpo, opn_125, List.append_assoc]; rfl
        exact ih ((sk (ga 10) n (q + 1)), (op - 1), m + 1, tk_61, va_61, pb_61, (upd g11 m 125), g12, (its ++ [(125, 0)])) hN (by show n - (sk (ga 10) n (q + 1)) < n - q; omega)
      · skip
        have hs := mt (tk_sign hT (b := 125) (by decide)).mp hc
        refine j_aload_n F 1 dX10_readsAll_27 rfl ?_
        refine j_bipush F (v := 125) dX10_readsAll_28 (by decide) ?_
        refine j_scallV F kX10_186 (As := [.int 125]) (rest := []) (c_X10_isSignNow_no l D ay ad (ups (ups (ups (ups (ups vi 17 tk) 18 (nI q)) 19 va) 20 pb) 23 (nI m)) (ups (ups ga 11 g11) 12 g12) 125 (show ¬ (tk = 1 ∧ va = 125) from hs)) 0 0 20 rfl rfl rfl rfl rfl rfl ⟨Nat.le_of_ble_eq_true rfl, Nat.le_of_ble_eq_true rfl⟩ dX10_readsAll_30 (fun v w hw => ?_)
        obtain ⟨rfl, rfl⟩ := hw
        refine ⟨rfl, (mW ay ad (ups (ups (ups (ups (ups vi 17 tk) 18 (nI q)) 19 va) 20 pb) 23 (nI m)) (ups (ups ga 11 g11) 12 g12)), (slp_all _ _ rfl).trans rfl, ?_⟩
        refine j_top 0 rfl ?_
        refine j_if_eq F 67 dX10_readsAll_33 (by decide) (fun c_33 => ?_) (fun c_33 => absurd (by decide) c_33)
        rcases hit : itm (ga 10) n q op with ⟨kd, x, p2⟩ | e
        · skip
          have hk : ¬ kd = 125 := fun h => by
            subst h
            exact hc (by rw [btA, if_pos hq]; exact (itm_125 hit).1)
          have hpo := prs_ok hq hit
          have hlt := itm_lt hq hit
          refine j_aload_n F 1 dX10_readsAll_67 rfl ?_
          refine j_iload_n F 0 dX10_readsAll_68 rfl ?_
          refine j_scallV F kX10_189 (As := [.int (nI op)]) (rest := []) (c_X10_readsItem_yes l D ay ad (ups (ups (ups (ups (ups vi 17 tk) 18 (nI q)) 19 va) 20 pb) 23 (nI m)) (ups (ups ga 11 g11) 12 g12) n q m op kd x p2 (show TK (ga 10) n q (tk) (va) (pb) from hT) (show vi 16 = nI n from h16) (show n ≤ 300 from hn) (show q < n from hq) (show (nI m) = nI m from rfl) (show m ≤ q from hmq) (show op ≤ 4 from hop) (show itm (ga 10) n q op = .inl (kd, x, p2) from hit) (show ¬ kd = 125 from hk)) 0 0 20 rfl rfl rfl rfl rfl rfl ⟨Nat.le_of_ble_eq_true rfl, Nat.le_of_ble_eq_true rfl⟩ dX10_readsAll_69 (fun v w hw => ?_)
          obtain ⟨tk_69, va_69, pb_69, h69_0, rfl, rfl⟩ := hw
          replace h69_0 : TK (ga 10) n p2 tk_69 va_69 pb_69 := h69_0
          refine ⟨rfl, (mW ay ad (ups (ups (ups (ups (ups vi 17 tk_69) 18 (nI p2)) 19 va_69) 20 pb_69) 23 (nI (m + 1))) (ups (ups ga 11 (upd (g11) m kd)) 12 (upd (g12) m x))), (slp_all _ _ rfl).trans rfl, ?_⟩
          refine j_top 1 rfl ?_
          refine j_if_ne F 77 dX10_readsAll_72 (by decide) (fun c_72 => ?_) (fun c_72 => absurd c_72 (by decide))
          refine j_iload_n F 0 dX10_readsAll_77 rfl ?_
          refine j_aload_n F 1 dX10_readsAll_78 rfl ?_
          refine j_getf F fX10_54 0 (v := .ref (ad 12)) rfl rfl dX10_readsAll_79 ?_
          refine j_aload_n F 1 dX10_readsAll_82 rfl ?_
          refine j_getf F fX10_177 0 (v := .int (nI (m + 1))) rfl rfl dX10_readsAll_83 ?_
          refine j_iconst F (v := 1) dX10_readsAll_86 (by decide) ?_
          refine j_isub F dX10_readsAll_87 ?_
          refine j_top (nI m) (pk_sub (a := m + 1) (b := 1) (by omega)) ?_
          refine j_iald F 12 m (f := upd (g11) m kd) rfl rfl (by omega) (Nat.le_of_ble_eq_true rfl) dX10_readsAll_88 ?_
          refine j_top kd upd_s ?_
          refine j_bipush F (v := 120) dX10_readsAll_89 (by decide) ?_
          refine j_icmp_ne F 98 dX10_readsAll_91 (by decide) (fun c_91 => ?_) (fun c_91 => ?_)
          · skip
            refine j_iconst F (v := 0) dX10_readsAll_98 (by decide) ?_
            refine j_iadd F dX10_readsAll_99 ?_
            refine j_top (nI (op + 0)) (nI_add _ _) ?_
            refine j_istore_n F 1 [(1, .int (nI (op + 0))), (0, .ref (ad 0))] dX10_readsAll_100 rfl (by decide) rfl ?_
            refine j_goto F 16 dX10_readsAll_101 (by decide) ?_
            have hopn : opn op kd = op := (opn_o c_91 hk)
            have hN : TK (ga 10) n p2 tk_69 va_69 pb_69 ∧ p2 ≤ n ∧ (m + 1) ≤ p2 ∧ op ≤ 4 ∧ (m + 1) = (its ++ [(kd, x)]).length ∧ RW (its ++ [(kd, x)]) (upd (g11) m kd) (upd (g12) m x) ∧ (prs (ga 10) n (n - p2) p2 op).2 = (prs (ga 10) n n (sk (ga 10) n 0) 0).2 ∧ (its ++ [(kd, x)]) ++ (prs (ga 10) n (n - p2) p2 op).1 = (prs (ga 10) n n (sk (ga 10) n 0) 0).1 := by
              refine ⟨h69_0, hlt.2, by omega, hop, by rw [List.length_append, ← hml]; rfl, RW_add hRW hml (fun _ h => upd_o h) (Or.inr upd_s), ?_, ?_⟩
              · rw [← hE2, hpo, hopn]
              · rw [← hE1, hpo, hopn, List.append_assoc]; rfl
            exact ih (p2, op, m + 1, tk_69, va_69, pb_69, (upd (g11) m kd), (upd (g12) m x), (its ++ [(kd, x)])) hN (by show n - p2 < n - q; omega)
          · skip
            refine j_iconst F (v := 1) dX10_readsAll_94 (by decide) ?_
            refine j_goto F 99 dX10_readsAll_95 (by decide) ?_
            refine j_iadd F dX10_readsAll_99 ?_
            refine j_top (nI (op + 1)) (nI_add _ _) ?_
            refine j_istore_n F 1 [(1, .int (nI (op + 1))), (0, .ref (ad 0))] dX10_readsAll_100 rfl (by decide) rfl ?_
            refine j_goto F 16 dX10_readsAll_101 (by decide) ?_
            have h120 : kd = 120 := c_91
            have hopn : opn op kd = (op + 1) := (by rw [h120, opn_120])
            have hN : TK (ga 10) n p2 tk_69 va_69 pb_69 ∧ p2 ≤ n ∧ (m + 1) ≤ p2 ∧ (op + 1) ≤ 4 ∧ (m + 1) = (its ++ [(kd, x)]).length ∧ RW (its ++ [(kd, x)]) (upd (g11) m kd) (upd (g12) m x) ∧ (prs (ga 10) n (n - p2) p2 (op + 1)).2 = (prs (ga 10) n n (sk (ga 10) n 0) 0).2 ∧ (its ++ [(kd, x)]) ++ (prs (ga 10) n (n - p2) p2 (op + 1)).1 = (prs (ga 10) n n (sk (ga 10) n 0) 0).1 := by
              refine ⟨h69_0, hlt.2, by omega, (by have := itm_op (h120 ▸ hit); omega), by rw [List.length_append, ← hml]; rfl, RW_add hRW hml (fun _ h => upd_o h) (Or.inr upd_s), ?_, ?_⟩
              · rw [← hE2, hpo, hopn]
              · rw [← hE1, hpo, hopn, List.append_assoc]; rfl
            exact ih (p2, (op + 1), m + 1, tk_69, va_69, pb_69, (upd (g11) m kd), (upd (g12) m x), (its ++ [(kd, x)])) hN (by show n - p2 < n - q; omega)
        · skip
          have hpn := prs_no hq hit
          have hen := itm_er hq hit
          refine j_aload_n F 1 dX10_readsAll_67 rfl ?_
          refine j_iload_n F 0 dX10_readsAll_68 rfl ?_
          refine j_scallV F kX10_189 (As := [.int (nI op)]) (rest := []) (c_X10_readsItem_no l D ay ad (ups (ups (ups (ups (ups vi 17 tk) 18 (nI q)) 19 va) 20 pb) 23 (nI m)) (ups (ups ga 11 g11) 12 g12) n q m op e (show TK (ga 10) n q (tk) (va) (pb) from hT) (show vi 16 = nI n from h16) (show n ≤ 300 from hn) (show q < n from hq) (show (nI m) = nI m from rfl) (show m ≤ q from hmq) (show op ≤ 4 from hop) (show (nI q) = nI q from rfl) (show itm (ga 10) n q op = .inr e from hit)) 0 0 20 rfl rfl rfl rfl rfl rfl ⟨Nat.le_of_ble_eq_true rfl, Nat.le_of_ble_eq_true rfl⟩ dX10_readsAll_69 (fun v w hw => ?_)
          obtain ⟨tk_69, va_69, pb_69, g12_69, rfl, rfl⟩ := hw
          refine ⟨rfl, (mW ay ad (ups (ups (ups (ups (ups vi 17 tk_69) 18 (nI e)) 19 va_69) 20 pb_69) 23 (nI m)) (ups (ups ga 11 g11) 12 g12_69)), (slp_all _ _ rfl).trans rfl, ?_⟩
          refine j_top 0 rfl ?_
          refine j_if_ne F 77 dX10_readsAll_72 (by decide) (fun c_72 => absurd (by decide) c_72) (fun c_72 => ?_)
          refine j_iconst F (v := 0) dX10_readsAll_75 (by decide) ?_
          exact j_zret F (Or.inl rfl) ⟨tk_69, nI e, va_69, pb_69, m, g11, g12_69, fun h => absurd ((hE2.symm.trans (congrArg Prod.snd hpn)).symm.trans h) (nI_m1 (by omega)), fun _ => (hE2.symm.trans (congrArg Prod.snd hpn)).symm, by rw [if_neg (fun h => absurd ((hE2.symm.trans (congrArg Prod.snd hpn)).symm.trans h) (nI_m1 (by omega)))], rfl⟩ dX10_readsAll_76 (Nat.le_of_ble_eq_true rfl) (Nat.le_of_ble_eq_true rfl)

