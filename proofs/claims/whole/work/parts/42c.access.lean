set_option maxHeartbeats 4000000 in
set_option maxRecDepth 100000 in
theorem c_X10_accesses (l : Launch) (D : va_G) (ay : Nat → ClassId) (ad : Nat → Nat) (vi : Nat → Int32) (ga : Nat → Nat → Int32) (Z : DS) (p : Nat) (hG : GI Z vi ga) (hp : p < 16) (hc : Z.1 14 < 1000) : jM l yX10_accesses (jws yX10_accesses cX10_accesses 4 none) 2 47 0 0 D ay [.ref (ad 0), .int (nI p)] (mW ay ad vi ga) (fun v w => ∃ (vi' : Nat → Int32) (ga' : Nat → Nat → Int32), GI (acx (askS Z (nI p)) p ((askS Z (nI p)).2.1 19) (aHH (askS Z (nI p)) p) (aYY (askS Z (nI p)) p)) vi' ga' ∧ vi' 0 = vi 0 ∧ (∀ q, 14 ≤ q ∧ q < 31 → vi' q = vi q) ∧ (∀ q, 9 ≤ q ∧ q < 15 → ga' q = ga q) ∧ v = none ∧ w = mW ay ad vi' ga') := by
  refine jM_of l (by decide) [(0, .ref (ad 0)), (1, .int (nI p))] rfl rfl (fun p9 e9 s9 m9 a9 b9 me9 c9 A9 F => ?_)
  refine j_aload_n F 0 dX10_accesses_0 rfl ?_
  refine j_iload_n F 1 dX10_accesses_1 rfl ?_
  refine j_scallV F kX10_137 (As := [.int (nI p)]) (rest := []) (c_X10_asks l D ay ad vi ga Z p (show GI Z vi ga from hG) (show p < 100 from by omega) (show Z.1 14 < 1000 from hc)) 0 0 20 rfl rfl rfl rfl rfl rfl ⟨Nat.le_of_ble_eq_true rfl, Nat.le_of_ble_eq_true rfl⟩ dX10_accesses_2 (fun v w hw => ?_)
  obtain ⟨vi_2, ga_2, h2_0, h2_1, h2_2, h2_3, rfl, rfl⟩ := hw
  replace h2_0 : GI (askS Z (nI p)) vi_2 ga_2 := h2_0
  replace h2_1 : vi_2 0 = vi 0 := h2_1
  replace h2_2 : (∀ q, 14 ≤ q ∧ q < 31 → vi_2 q = vi q) := h2_2
  replace h2_3 : (∀ q, 9 ≤ q ∧ q < 15 → ga_2 q = ga q) := h2_3
  refine ⟨rfl, (mW ay ad vi_2 ga_2), (slp_all _ _ rfl).trans rfl, ?_⟩
  refine j_top (mskC Z (nI p) 8) rfl ?_
  obtain ⟨x1, x2, x3, x4, x5, x6, x7, x8, x9, x10⟩ := h2_0.2.2.2.2.2.2.2
  have hx8 : (askS Z (nI p)).1 19 ≤ 8 := x1.2.2.2
  have hn8 : (askS Z (nI p)).1 11 ≤ 8 := Nat.le_trans x2 hx8
  have hE := aE_lt x1 hp
  have hub := usN_b (f := (askS Z (nI p)).2.2 23) (n := (askS Z (nI p)).1 11) (key := nI p)
  refine j_pop F dX10_accesses_5 rfl ?_
  refine j_aload_n F 0 dX10_accesses_6 rfl ?_
  refine j_iload_n F 1 dX10_accesses_7 rfl ?_
  refine j_scallV F kX10_209 (As := [.int (nI p)]) (rest := []) (c_X10_pagePlace l D ay ad vi_2 ga_2 ((askS Z (nI p)).1 11) (nI p) (show vi_2 32 = nI ((askS Z (nI p)).1 11) from x4) (show ((askS Z (nI p)).1 11) ≤ 9 from by omega)) 0 0 20 rfl rfl rfl rfl rfl rfl ⟨Nat.le_of_ble_eq_true rfl, Nat.le_of_ble_eq_true rfl⟩ dX10_accesses_8 (fun v w hw => ?_)
  obtain ⟨rfl, rfl⟩ := hw
  refine ⟨rfl, (mW ay ad vi_2 ga_2), (slp_all _ _ rfl).trans rfl, ?_⟩
  refine j_top (fxI ((askS Z (nI p)).2.2 23) (nI p) ((askS Z (nI p)).1 11)) (by rw [fxI, fxI, fx_congr x10]) ?_
  by_cases hf : fx ((askS Z (nI p)).2.2 23) (nI p) ((askS Z (nI p)).1 11) < (askS Z (nI p)).1 11
  · skip
    refine j_top (nI (fx ((askS Z (nI p)).2.2 23) (nI p) ((askS Z (nI p)).1 11))) (if_pos hf) ?_
    have hu : usN ((askS Z (nI p)).2.2 23) ((askS Z (nI p)).1 11) (nI p) = (askS Z (nI p)).1 11 := if_pos hf
    refine j_istore_n F 2 [(2, .int (nI (fx ((askS Z (nI p)).2.2 23) (nI p) ((askS Z (nI p)).1 11)))), (0, .ref (ad 0)), (1, .int (nI p))] dX10_accesses_11 rfl (by decide) rfl ?_
    refine j_iload_n F 0 dX10_accesses_12 rfl ?_
    refine j_iconst F (v := (-1)) dX10_accesses_13 (by decide) ?_
    refine j_icmp_eq F 25 dX10_accesses_14 (by decide) (fun c_14 => absurd c_14 (nI_m1 (by omega))) (fun c_14 => ?_)
    refine j_aload_n F 1 dX10_accesses_17 rfl ?_
    refine j_iload_n F 0 dX10_accesses_18 rfl ?_
    refine j_scallV F kX10_212 (As := [.int (nI (fx ((askS Z (nI p)).2.2 23) (nI p) ((askS Z (nI p)).1 11)))]) (rest := []) (c_X10_out l D ay ad vi_2 ga_2 ((askS Z (nI p)).1 11) (fx ((askS Z (nI p)).2.2 23) (nI p) ((askS Z (nI p)).1 11)) (show vi_2 32 = nI ((askS Z (nI p)).1 11) from x4) (show ((askS Z (nI p)).1 11) ≤ 9 from by omega) (show (fx ((askS Z (nI p)).2.2 23) (nI p) ((askS Z (nI p)).1 11)) < ((askS Z (nI p)).1 11) from hf)) 0 0 20 rfl rfl rfl rfl rfl rfl ⟨Nat.le_of_ble_eq_true rfl, Nat.le_of_ble_eq_true rfl⟩ dX10_accesses_19 (fun v w hw => ?_)
    obtain ⟨rfl, rfl⟩ := hw
    refine ⟨rfl, (mW ay ad (ups vi_2 32 (nI (((askS Z (nI p)).1 11) - 1))) (ups ga_2 17 (shf (ga_2 17) (fx ((askS Z (nI p)).2.2 23) (nI p) ((askS Z (nI p)).1 11)) ((askS Z (nI p)).1 11)))), (slp_all _ _ rfl).trans rfl, ?_⟩
    refine j_goto F 66 dX10_accesses_22 (by decide) ?_
    refine j_aload_n F 1 dX10_accesses_66 rfl ?_
    refine j_getf F fX10_75 0 (v := .ref (ad 18)) rfl rfl dX10_accesses_67 ?_
    refine j_aload_n F 1 dX10_accesses_70 rfl ?_
    refine j_getf F fX10_203 0 (v := .int (nI (((askS Z (nI p)).1 11) - 1))) rfl rfl dX10_accesses_71 ?_
    refine j_iload_n F 2 dX10_accesses_74 rfl ?_
    refine j_iast F 18 (mW ay ad (ups vi_2 32 (nI (((askS Z (nI p)).1 11) - 1))) (ups ga_2 17 (upd (shf (ga_2 17) (fx ((askS Z (nI p)).2.2 23) (nI p) ((askS Z (nI p)).1 11)) ((askS Z (nI p)).1 11)) (((askS Z (nI p)).1 11) - 1) (nI p)))) (((askS Z (nI p)).1 11) - 1) rfl rfl (by omega) (Nat.le_of_ble_eq_true rfl) rfl dX10_accesses_75 ?_
    refine j_aload_n F 1 dX10_accesses_76 rfl ?_
    refine j_dup F dX10_accesses_77 rfl ?_
    refine j_getf F fX10_203 0 (v := .int (nI (((askS Z (nI p)).1 11) - 1))) rfl rfl dX10_accesses_78 ?_
    refine j_iconst F (v := 1) dX10_accesses_81 (by decide) ?_
    refine j_iadd F dX10_accesses_82 ?_
    refine j_top (nI (((askS Z (nI p)).1 11) - 1 + 1)) (nI_add _ _) ?_
    refine j_putf F fX10_203 0 (mW ay ad (ups vi_2 32 (nI (((askS Z (nI p)).1 11) - 1 + 1))) (ups ga_2 17 (upd (shf (ga_2 17) (fx ((askS Z (nI p)).2.2 23) (nI p) ((askS Z (nI p)).1 11)) ((askS Z (nI p)).1 11)) (((askS Z (nI p)).1 11) - 1) (nI p)))) rfl rfl rfl rfl rfl (Nat.le_of_ble_eq_true rfl) dX10_accesses_83 ?_
    refine j_aload_n F 1 dX10_accesses_86 rfl ?_
    refine j_getf F fX10_203 0 (v := .int (nI (((askS Z (nI p)).1 11) - 1 + 1))) rfl rfl dX10_accesses_87 ?_
    refine j_aload_n F 1 dX10_accesses_90 rfl ?_
    refine j_getf F fX10_81 0 (v := .int (vi_2 31)) rfl rfl dX10_accesses_91 ?_
    refine j_top (nI ((askS Z (nI p)).1 19)) x3 ?_
    refine j_icmp_gt F 98 dX10_accesses_94 (by decide) (fun c_94 => ?_) (fun c_94 => ?_)
    · skip
      have n_94 := (n_lt ((askS Z (nI p)).1 19) (((askS Z (nI p)).1 11) - 1 + 1) rfl rfl (by omega) (by omega)).mp c_94
      have hpg : ∀ j, j < usN ((askS Z (nI p)).2.2 23) ((askS Z (nI p)).1 11) (nI p) → (upd (shf (ga_2 17) (fx ((askS Z (nI p)).2.2 23) (nI p) ((askS Z (nI p)).1 11)) ((askS Z (nI p)).1 11)) ((askS Z (nI p)).1 11 - 1) (nI p)) j = usF ((askS Z (nI p)).2.2 23) ((askS Z (nI p)).1 11) (nI p) j := pg_1 x10 hf
      have hgt : ¬ usN ((askS Z (nI p)).2.2 23) ((askS Z (nI p)).1 11) (nI p) ≤ (askS Z (nI p)).1 19 := by omega
      by_cases hd : (askS Z (nI p)).2.2 22 (aE (askS Z (nI p)) p) = 0
      · skip
        have hg18 : ga_2 18 (aE (askS Z (nI p)) p) = 0 := by rw [(x9 _ hE.1).1]; exact hd
        refine j_aload_n F 1 dX10_accesses_98 rfl ?_
        refine j_aload_n F 1 dX10_accesses_99 rfl ?_
        refine j_getf F fX10_75 0 (v := .ref (ad 18)) rfl rfl dX10_accesses_100 ?_
        refine j_iconst F (v := 0) dX10_accesses_103 (by decide) ?_
        refine j_iald F 18 0 (f := upd (shf (ga_2 17) (fx ((askS Z (nI p)).2.2 23) (nI p) ((askS Z (nI p)).1 11)) ((askS Z (nI p)).1 11)) (((askS Z (nI p)).1 11) - 1) (nI p)) rfl rfl (by omega) (Nat.le_of_ble_eq_true rfl) dX10_accesses_104 ?_
        refine j_top (nI (aE (askS Z (nI p)) p)) ((hpg 0 usN_pos).trans hE.2) ?_
        refine j_scallV F kX10_218 (As := [.int (nI (aE (askS Z (nI p)) p))]) (rest := []) (c_X10_writesPage_no l D ay ad (ups vi_2 32 (nI (((askS Z (nI p)).1 11) - 1 + 1))) (ups ga_2 17 (upd (shf (ga_2 17) (fx ((askS Z (nI p)).2.2 23) (nI p) ((askS Z (nI p)).1 11)) ((askS Z (nI p)).1 11)) (((askS Z (nI p)).1 11) - 1) (nI p))) (aE (askS Z (nI p)) p) (show (aE (askS Z (nI p)) p) < 16 from hE.1) (show ga_2 18 (aE (askS Z (nI p)) p) = 0 from hg18)) 0 0 20 rfl rfl rfl rfl rfl rfl ⟨Nat.le_of_ble_eq_true rfl, Nat.le_of_ble_eq_true rfl⟩ dX10_accesses_105 (fun v w hw => ?_)
        obtain ⟨rfl, rfl⟩ := hw
        refine ⟨rfl, (mW ay ad (ups vi_2 32 (nI (((askS Z (nI p)).1 11) - 1 + 1))) (ups ga_2 17 (upd (shf (ga_2 17) (fx ((askS Z (nI p)).2.2 23) (nI p) ((askS Z (nI p)).1 11)) ((askS Z (nI p)).1 11)) (((askS Z (nI p)).1 11) - 1) (nI p)))), (slp_all _ _ rfl).trans rfl, ?_⟩
        refine j_top 0 rfl ?_
        refine j_pop F dX10_accesses_108 rfl ?_
        refine j_aload_n F 1 dX10_accesses_109 rfl ?_
        refine j_iconst F (v := 0) dX10_accesses_110 (by decide) ?_
        refine j_scallV F kX10_212 (As := [.int 0]) (rest := []) (c_X10_out l D ay ad (ups vi_2 32 (nI (((askS Z (nI p)).1 11) - 1 + 1))) (ups ga_2 17 (upd (shf (ga_2 17) (fx ((askS Z (nI p)).2.2 23) (nI p) ((askS Z (nI p)).1 11)) ((askS Z (nI p)).1 11)) (((askS Z (nI p)).1 11) - 1) (nI p))) ((askS Z (nI p)).1 11 - 1 + 1) 0 (show (nI (((askS Z (nI p)).1 11) - 1 + 1)) = nI ((askS Z (nI p)).1 11 - 1 + 1) from rfl) (show ((askS Z (nI p)).1 11 - 1 + 1) ≤ 9 from by omega) (show 0 < ((askS Z (nI p)).1 11 - 1 + 1) from by omega)) 0 0 20 rfl rfl rfl rfl rfl rfl ⟨Nat.le_of_ble_eq_true rfl, Nat.le_of_ble_eq_true rfl⟩ dX10_accesses_111 (fun v w hw => ?_)
        obtain ⟨rfl, rfl⟩ := hw
        refine ⟨rfl, (mW ay ad (ups vi_2 32 (nI (((askS Z (nI p)).1 11 - 1 + 1) - 1))) (ups ga_2 17 (shf ((upd (shf (ga_2 17) (fx ((askS Z (nI p)).2.2 23) (nI p) ((askS Z (nI p)).1 11)) ((askS Z (nI p)).1 11)) (((askS Z (nI p)).1 11) - 1) (nI p))) 0 ((askS Z (nI p)).1 11 - 1 + 1)))), (slp_all _ _ rfl).trans rfl, ?_⟩
        exact j_vret F ⟨ups vi_2 32 (nI (((askS Z (nI p)).1 11 - 1 + 1) - 1)), ups ga_2 17 (shf ((upd (shf (ga_2 17) (fx ((askS Z (nI p)).2.2 23) (nI p) ((askS Z (nI p)).1 11)) ((askS Z (nI p)).1 11)) (((askS Z (nI p)).1 11) - 1) (nI p))) 0 ((askS Z (nI p)).1 11 - 1 + 1)), acc_G h2_0 hp (fun q hq => (ups_ne (by omega)).trans rfl) (fun q hq => (ups_ne (by omega)).trans rfl) rfl (by unfold stN; rw [if_neg hgt, hu]; rfl) rfl (show _ = aFC (askS Z (nI p)) p by unfold aFC; rw [if_pos hf]; exact x6) (by unfold aWC; rw [if_pos (Or.inr hd)]; exact x7) (dd_1 (fun a ha => (x8 a ha).1) (Or.inr hd)) (wd_1 x8 hf) (yy_1 x9 (Or.inr hd)) (fun j hj => by show (shf ((upd (shf (ga_2 17) (fx ((askS Z (nI p)).2.2 23) (nI p) ((askS Z (nI p)).1 11)) ((askS Z (nI p)).1 11)) (((askS Z (nI p)).1 11) - 1) (nI p))) 0 ((askS Z (nI p)).1 11 - 1 + 1)) j = _; rw [show (askS Z (nI p)).1 11 - 1 + 1 = usN ((askS Z (nI p)).2.2 23) ((askS Z (nI p)).1 11) (nI p) by omega]; exact pg_o (pg_1 x10 hf) hgt j hj), h2_1, fun q hq => ((fun q hq => (ups_ne (by omega)).trans rfl) q hq).trans (h2_2 q hq), fun q hq => ((fun q hq => (ups_ne (by omega)).trans rfl) q hq).trans (h2_3 q hq), rfl, rfl⟩ dX10_accesses_114 (Nat.le_of_ble_eq_true rfl) (Nat.le_of_ble_eq_true rfl)
      · skip
        have hg18 : ¬ ga_2 18 (aE (askS Z (nI p)) p) = 0 := by rw [(x9 _ hE.1).1]; exact hd
        refine j_aload_n F 1 dX10_accesses_98 rfl ?_
        refine j_aload_n F 1 dX10_accesses_99 rfl ?_
        refine j_getf F fX10_75 0 (v := .ref (ad 18)) rfl rfl dX10_accesses_100 ?_
        refine j_iconst F (v := 0) dX10_accesses_103 (by decide) ?_
        refine j_iald F 18 0 (f := upd (shf (ga_2 17) (fx ((askS Z (nI p)).2.2 23) (nI p) ((askS Z (nI p)).1 11)) ((askS Z (nI p)).1 11)) (((askS Z (nI p)).1 11) - 1) (nI p)) rfl rfl (by omega) (Nat.le_of_ble_eq_true rfl) dX10_accesses_104 ?_
        refine j_top (nI (aE (askS Z (nI p)) p)) ((hpg 0 usN_pos).trans hE.2) ?_
        refine j_scallV F kX10_218 (As := [.int (nI (aE (askS Z (nI p)) p))]) (rest := []) (c_X10_writesPage_yes l D ay ad (ups vi_2 32 (nI (((askS Z (nI p)).1 11) - 1 + 1))) (ups ga_2 17 (upd (shf (ga_2 17) (fx ((askS Z (nI p)).2.2 23) (nI p) ((askS Z (nI p)).1 11)) ((askS Z (nI p)).1 11)) (((askS Z (nI p)).1 11) - 1) (nI p))) (aE (askS Z (nI p)) p) (show (aE (askS Z (nI p)) p) < 16 from hE.1) (show ¬ ga_2 18 (aE (askS Z (nI p)) p) = 0 from hg18)) 0 0 20 rfl rfl rfl rfl rfl rfl ⟨Nat.le_of_ble_eq_true rfl, Nat.le_of_ble_eq_true rfl⟩ dX10_accesses_105 (fun v w hw => ?_)
        obtain ⟨rfl, rfl⟩ := hw
        refine ⟨rfl, (mW ay ad (ups (ups vi_2 32 (nI (((askS Z (nI p)).1 11) - 1 + 1))) 35 (vi_2 35 + 1)) (ups (ups (ups ga_2 15 (cpI (ga_2 16) (ga_2 15) (4 * (aE (askS Z (nI p)) p)) (4 * (aE (askS Z (nI p)) p) + 4))) 17 (upd (shf (ga_2 17) (fx ((askS Z (nI p)).2.2 23) (nI p) ((askS Z (nI p)).1 11)) ((askS Z (nI p)).1 11)) (((askS Z (nI p)).1 11) - 1) (nI p))) 18 (upd (ga_2 18) (aE (askS Z (nI p)) p) 0))), (slp_all _ _ rfl).trans rfl, ?_⟩
        refine j_top 1 rfl ?_
        refine j_pop F dX10_accesses_108 rfl ?_
        refine j_aload_n F 1 dX10_accesses_109 rfl ?_
        refine j_iconst F (v := 0) dX10_accesses_110 (by decide) ?_
        refine j_scallV F kX10_212 (As := [.int 0]) (rest := []) (c_X10_out l D ay ad (ups (ups vi_2 32 (nI (((askS Z (nI p)).1 11) - 1 + 1))) 35 (vi_2 35 + 1)) (ups (ups (ups ga_2 15 (cpI (ga_2 16) (ga_2 15) (4 * (aE (askS Z (nI p)) p)) (4 * (aE (askS Z (nI p)) p) + 4))) 17 (upd (shf (ga_2 17) (fx ((askS Z (nI p)).2.2 23) (nI p) ((askS Z (nI p)).1 11)) ((askS Z (nI p)).1 11)) (((askS Z (nI p)).1 11) - 1) (nI p))) 18 (upd (ga_2 18) (aE (askS Z (nI p)) p) 0)) ((askS Z (nI p)).1 11 - 1 + 1) 0 (show (nI (((askS Z (nI p)).1 11) - 1 + 1)) = nI ((askS Z (nI p)).1 11 - 1 + 1) from rfl) (show ((askS Z (nI p)).1 11 - 1 + 1) ≤ 9 from by omega) (show 0 < ((askS Z (nI p)).1 11 - 1 + 1) from by omega)) 0 0 20 rfl rfl rfl rfl rfl rfl ⟨Nat.le_of_ble_eq_true rfl, Nat.le_of_ble_eq_true rfl⟩ dX10_accesses_111 (fun v w hw => ?_)
        obtain ⟨rfl, rfl⟩ := hw
        refine ⟨rfl, (mW ay ad (ups (ups vi_2 32 (nI (((askS Z (nI p)).1 11 - 1 + 1) - 1))) 35 (vi_2 35 + 1)) (ups (ups (ups ga_2 15 (cpI (ga_2 16) (ga_2 15) (4 * (aE (askS Z (nI p)) p)) (4 * (aE (askS Z (nI p)) p) + 4))) 17 (shf ((upd (shf (ga_2 17) (fx ((askS Z (nI p)).2.2 23) (nI p) ((askS Z (nI p)).1 11)) ((askS Z (nI p)).1 11)) (((askS Z (nI p)).1 11) - 1) (nI p))) 0 ((askS Z (nI p)).1 11 - 1 + 1))) 18 (upd (ga_2 18) (aE (askS Z (nI p)) p) 0))), (slp_all _ _ rfl).trans rfl, ?_⟩
        exact j_vret F ⟨ups (ups vi_2 32 (nI (((askS Z (nI p)).1 11 - 1 + 1) - 1))) 35 (vi_2 35 + 1), ups (ups (ups ga_2 15 (cpI (ga_2 16) (ga_2 15) (4 * (aE (askS Z (nI p)) p)) (4 * (aE (askS Z (nI p)) p) + 4))) 17 (shf ((upd (shf (ga_2 17) (fx ((askS Z (nI p)).2.2 23) (nI p) ((askS Z (nI p)).1 11)) ((askS Z (nI p)).1 11)) (((askS Z (nI p)).1 11) - 1) (nI p))) 0 ((askS Z (nI p)).1 11 - 1 + 1))) 18 (upd (ga_2 18) (aE (askS Z (nI p)) p) 0), acc_G h2_0 hp (fun q hq => (ups_ne (by omega)).trans ((ups_ne (by omega)).trans rfl)) (fun q hq => (ups_ne (by omega)).trans ((ups_ne (by omega)).trans ((ups_ne (by omega)).trans rfl))) rfl (by unfold stN; rw [if_neg hgt, hu]; rfl) rfl (show _ = aFC (askS Z (nI p)) p by unfold aFC; rw [if_pos hf]; exact x6) (by unfold aWC; rw [if_neg (fun h => h.elim hgt hd), ← x7]; rfl) (dd_2 (fun a ha => (x8 a ha).1) (wd_1 x8 hf) (fun h => h.elim hgt hd)) (wd_1 x8 hf) (yy_2 x9 (fun h => h.elim hgt hd)) (fun j hj => by show (shf ((upd (shf (ga_2 17) (fx ((askS Z (nI p)).2.2 23) (nI p) ((askS Z (nI p)).1 11)) ((askS Z (nI p)).1 11)) (((askS Z (nI p)).1 11) - 1) (nI p))) 0 ((askS Z (nI p)).1 11 - 1 + 1)) j = _; rw [show (askS Z (nI p)).1 11 - 1 + 1 = usN ((askS Z (nI p)).2.2 23) ((askS Z (nI p)).1 11) (nI p) by omega]; exact pg_o (pg_1 x10 hf) hgt j hj), h2_1, fun q hq => ((fun q hq => (ups_ne (by omega)).trans ((ups_ne (by omega)).trans rfl)) q hq).trans (h2_2 q hq), fun q hq => ((fun q hq => (ups_ne (by omega)).trans ((ups_ne (by omega)).trans ((ups_ne (by omega)).trans rfl))) q hq).trans (h2_3 q hq), rfl, rfl⟩ dX10_accesses_114 (Nat.le_of_ble_eq_true rfl) (Nat.le_of_ble_eq_true rfl)
    · skip
      have n_94 := mt (n_lt ((askS Z (nI p)).1 19) (((askS Z (nI p)).1 11) - 1 + 1) rfl rfl (by omega) (by omega)).mpr c_94
      exact j_vret F ⟨ups vi_2 32 (nI (((askS Z (nI p)).1 11) - 1 + 1)), ups ga_2 17 (upd (shf (ga_2 17) (fx ((askS Z (nI p)).2.2 23) (nI p) ((askS Z (nI p)).1 11)) ((askS Z (nI p)).1 11)) (((askS Z (nI p)).1 11) - 1) (nI p)), acc_G h2_0 hp (fun q hq => (ups_ne (by omega)).trans rfl) (fun q hq => (ups_ne (by omega)).trans rfl) rfl (by unfold stN; rw [if_pos (show usN ((askS Z (nI p)).2.2 23) ((askS Z (nI p)).1 11) (nI p) ≤ (askS Z (nI p)).1 19 by omega), hu]; show nI _ = nI _; congr 1; omega) rfl (show _ = aFC (askS Z (nI p)) p by unfold aFC; rw [if_pos hf]; exact x6) (by unfold aWC; rw [if_pos (Or.inl (show usN ((askS Z (nI p)).2.2 23) ((askS Z (nI p)).1 11) (nI p) ≤ (askS Z (nI p)).1 19 by omega))]; exact x7) (dd_1 (fun a ha => (x8 a ha).1) (Or.inl (show usN ((askS Z (nI p)).2.2 23) ((askS Z (nI p)).1 11) (nI p) ≤ (askS Z (nI p)).1 19 by omega))) (wd_1 x8 hf) (yy_1 x9 (Or.inl (show usN ((askS Z (nI p)).2.2 23) ((askS Z (nI p)).1 11) (nI p) ≤ (askS Z (nI p)).1 19 by omega))) (pg_k (pg_1 x10 hf) (show usN ((askS Z (nI p)).2.2 23) ((askS Z (nI p)).1 11) (nI p) ≤ (askS Z (nI p)).1 19 by omega)), h2_1, fun q hq => ((fun q hq => (ups_ne (by omega)).trans rfl) q hq).trans (h2_2 q hq), fun q hq => ((fun q hq => (ups_ne (by omega)).trans rfl) q hq).trans (h2_3 q hq), rfl, rfl⟩ dX10_accesses_97 (Nat.le_of_ble_eq_true rfl) (Nat.le_of_ble_eq_true rfl)
  · skip
    refine j_top (-1) (if_neg hf) ?_
    have hu : usN ((askS Z (nI p)).2.2 23) ((askS Z (nI p)).1 11) (nI p) = (askS Z (nI p)).1 11 + 1 := if_neg hf
    refine j_istore_n F 2 [(2, .int (-1)), (0, .ref (ad 0)), (1, .int (nI p))] dX10_accesses_11 rfl (by decide) rfl ?_
    refine j_iload_n F 0 dX10_accesses_12 rfl ?_
    refine j_iconst F (v := (-1)) dX10_accesses_13 (by decide) ?_
    refine j_icmp_eq F 25 dX10_accesses_14 (by decide) (fun c_14 => ?_) (fun c_14 => absurd (by decide) c_14)
    refine j_aload_n F 1 dX10_accesses_25 rfl ?_
    refine j_dup F dX10_accesses_26 rfl ?_
    refine j_getf F fX10_215 0 (v := .int (vi_2 34)) rfl rfl dX10_accesses_27 ?_
    refine j_top ((askS Z (nI p)).2.1 20) x6 ?_
    refine j_iconst F (v := 1) dX10_accesses_30 (by decide) ?_
    refine j_iadd F dX10_accesses_31 ?_
    refine j_putf F fX10_215 0 (mW ay ad (ups vi_2 34 ((askS Z (nI p)).2.1 20 + 1)) ga_2) rfl rfl rfl rfl rfl (Nat.le_of_ble_eq_true rfl) dX10_accesses_32 ?_
    refine j_iconst F (v := 4) dX10_accesses_35 (by decide) ?_
    refine j_iload_n F 2 dX10_accesses_36 rfl ?_
    refine j_imul F dX10_accesses_37 ?_
    refine j_top (nI (4 * p)) (pk_mul 4 _) ?_
    refine j_istore_n F 3 [(3, .int (nI (4 * p))), (2, .int (-1)), (0, .ref (ad 0)), (1, .int (nI p))] dX10_accesses_38 rfl (by decide) rfl ?_
    refine j_loop (σ := Nat) (fun i => 4 * p ≤ i ∧ i ≤ 4 * p + 4) (fun i => 4 * p + 4 - i) (fun i => [(3, .int (nI i)), (2, .int (-1)), (0, .ref (ad 0)), (1, .int (nI p))]) (fun i => (mW ay ad (ups vi_2 34 ((askS Z (nI p)).2.1 20 + 1)) (ups ga_2 16 (cpI (ga_2 15) (ga_2 16) (4 * p) (i))))) (4 * p) ⟨Nat.le_refl _, by omega⟩ rfl (by rw [cpI_0, show ups ga_2 16 (ga_2 16) = ga_2 from ups_self]) (fun i hI ih => ?_)
    obtain ⟨hi, hi2⟩ := hI
    refine j_iload_n F 0 dX10_accesses_39 rfl ?_
    refine j_iconst F (v := 4) dX10_accesses_40 (by decide) ?_
    refine j_iload_n F 3 dX10_accesses_41 rfl ?_
    refine j_imul F dX10_accesses_42 ?_
    refine j_top (nI (4 * p)) (pk_mul 4 _) ?_
    refine j_iconst F (v := 4) dX10_accesses_43 (by decide) ?_
    refine j_iadd F dX10_accesses_44 ?_
    refine j_top (nI (4 * p + 4)) (nI_add _ _) ?_
    refine j_icmp_ge F 66 dX10_accesses_45 (by decide) (fun c_45 => ?_) (fun c_45 => ?_)
    · skip
      have n_45 := (n_le (4 * p + 4) i rfl rfl (by omega) (by omega)).mp c_45
      obtain rfl : i = 4 * p + 4 := by omega
      refine j_aload_n F 2 dX10_accesses_66 rfl ?_
      refine j_getf F fX10_75 0 (v := .ref (ad 18)) rfl rfl dX10_accesses_67 ?_
      refine j_aload_n F 2 dX10_accesses_70 rfl ?_
      refine j_getf F fX10_203 0 (v := .int (vi_2 32)) rfl rfl dX10_accesses_71 ?_
      refine j_top (nI ((askS Z (nI p)).1 11)) x4 ?_
      refine j_iload_n F 3 dX10_accesses_74 rfl ?_
      refine j_iast F 18 (mW ay ad (ups vi_2 34 ((askS Z (nI p)).2.1 20 + 1)) (ups (ups ga_2 16 (cpI (ga_2 15) (ga_2 16) (4 * p) (4 * p + 4))) 17 (upd (ga_2 17) ((askS Z (nI p)).1 11) (nI p)))) ((askS Z (nI p)).1 11) rfl rfl (by omega) (Nat.le_of_ble_eq_true rfl) rfl dX10_accesses_75 ?_
      refine j_aload_n F 2 dX10_accesses_76 rfl ?_
      refine j_dup F dX10_accesses_77 rfl ?_
      refine j_getf F fX10_203 0 (v := .int (vi_2 32)) rfl rfl dX10_accesses_78 ?_
      refine j_top (nI ((askS Z (nI p)).1 11)) x4 ?_
      refine j_iconst F (v := 1) dX10_accesses_81 (by decide) ?_
      refine j_iadd F dX10_accesses_82 ?_
      refine j_top (nI ((askS Z (nI p)).1 11 + 1)) (nI_add _ _) ?_
      refine j_putf F fX10_203 0 (mW ay ad (ups (ups vi_2 32 (nI ((askS Z (nI p)).1 11 + 1))) 34 ((askS Z (nI p)).2.1 20 + 1)) (ups (ups ga_2 16 (cpI (ga_2 15) (ga_2 16) (4 * p) (4 * p + 4))) 17 (upd (ga_2 17) ((askS Z (nI p)).1 11) (nI p)))) rfl rfl rfl rfl rfl (Nat.le_of_ble_eq_true rfl) dX10_accesses_83 ?_
      refine j_aload_n F 2 dX10_accesses_86 rfl ?_
      refine j_getf F fX10_203 0 (v := .int (nI ((askS Z (nI p)).1 11 + 1))) rfl rfl dX10_accesses_87 ?_
      refine j_aload_n F 2 dX10_accesses_90 rfl ?_
      refine j_getf F fX10_81 0 (v := .int (vi_2 31)) rfl rfl dX10_accesses_91 ?_
      refine j_top (nI ((askS Z (nI p)).1 19)) x3 ?_
      refine j_icmp_gt F 98 dX10_accesses_94 (by decide) (fun c_94 => ?_) (fun c_94 => ?_)
      · skip
        have n_94 := (n_lt ((askS Z (nI p)).1 19) ((askS Z (nI p)).1 11 + 1) rfl rfl (by omega) (by omega)).mp c_94
        have hpg : ∀ j, j < usN ((askS Z (nI p)).2.2 23) ((askS Z (nI p)).1 11) (nI p) → (upd (ga_2 17) ((askS Z (nI p)).1 11) (nI p)) j = usF ((askS Z (nI p)).2.2 23) ((askS Z (nI p)).1 11) (nI p) j := pg_2 x10 hf
        have hgt : ¬ usN ((askS Z (nI p)).2.2 23) ((askS Z (nI p)).1 11) (nI p) ≤ (askS Z (nI p)).1 19 := by omega
        by_cases hd : (askS Z (nI p)).2.2 22 (aE (askS Z (nI p)) p) = 0
        · skip
          have hg18 : ga_2 18 (aE (askS Z (nI p)) p) = 0 := by rw [(x9 _ hE.1).1]; exact hd
          refine j_aload_n F 2 dX10_accesses_98 rfl ?_
          refine j_aload_n F 2 dX10_accesses_99 rfl ?_
          refine j_getf F fX10_75 0 (v := .ref (ad 18)) rfl rfl dX10_accesses_100 ?_
          refine j_iconst F (v := 0) dX10_accesses_103 (by decide) ?_
          refine j_iald F 18 0 (f := upd (ga_2 17) ((askS Z (nI p)).1 11) (nI p)) rfl rfl (by omega) (Nat.le_of_ble_eq_true rfl) dX10_accesses_104 ?_
          refine j_top (nI (aE (askS Z (nI p)) p)) ((hpg 0 usN_pos).trans hE.2) ?_
          refine j_scallV F kX10_218 (As := [.int (nI (aE (askS Z (nI p)) p))]) (rest := []) (c_X10_writesPage_no l D ay ad (ups (ups vi_2 32 (nI ((askS Z (nI p)).1 11 + 1))) 34 ((askS Z (nI p)).2.1 20 + 1)) (ups (ups ga_2 16 (cpI (ga_2 15) (ga_2 16) (4 * p) (4 * p + 4))) 17 (upd (ga_2 17) ((askS Z (nI p)).1 11) (nI p))) (aE (askS Z (nI p)) p) (show (aE (askS Z (nI p)) p) < 16 from hE.1) (show ga_2 18 (aE (askS Z (nI p)) p) = 0 from hg18)) 0 0 20 rfl rfl rfl rfl rfl rfl ⟨Nat.le_of_ble_eq_true rfl, Nat.le_of_ble_eq_true rfl⟩ dX10_accesses_105 (fun v w hw => ?_)
          obtain ⟨rfl, rfl⟩ := hw
          refine ⟨rfl, (mW ay ad (ups (ups vi_2 32 (nI ((askS Z (nI p)).1 11 + 1))) 34 ((askS Z (nI p)).2.1 20 + 1)) (ups (ups ga_2 16 (cpI (ga_2 15) (ga_2 16) (4 * p) (4 * p + 4))) 17 (upd (ga_2 17) ((askS Z (nI p)).1 11) (nI p)))), (slp_all _ _ rfl).trans rfl, ?_⟩
          refine j_top 0 rfl ?_
          refine j_pop F dX10_accesses_108 rfl ?_
          refine j_aload_n F 2 dX10_accesses_109 rfl ?_
          refine j_iconst F (v := 0) dX10_accesses_110 (by decide) ?_
          refine j_scallV F kX10_212 (As := [.int 0]) (rest := []) (c_X10_out l D ay ad (ups (ups vi_2 32 (nI ((askS Z (nI p)).1 11 + 1))) 34 ((askS Z (nI p)).2.1 20 + 1)) (ups (ups ga_2 16 (cpI (ga_2 15) (ga_2 16) (4 * p) (4 * p + 4))) 17 (upd (ga_2 17) ((askS Z (nI p)).1 11) (nI p))) ((askS Z (nI p)).1 11 + 1) 0 (show (nI ((askS Z (nI p)).1 11 + 1)) = nI ((askS Z (nI p)).1 11 + 1) from rfl) (show ((askS Z (nI p)).1 11 + 1) ≤ 9 from by omega) (show 0 < ((askS Z (nI p)).1 11 + 1) from by omega)) 0 0 20 rfl rfl rfl rfl rfl rfl ⟨Nat.le_of_ble_eq_true rfl, Nat.le_of_ble_eq_true rfl⟩ dX10_accesses_111 (fun v w hw => ?_)
          obtain ⟨rfl, rfl⟩ := hw
          refine ⟨rfl, (mW ay ad (ups (ups vi_2 32 (nI (((askS Z (nI p)).1 11 + 1) - 1))) 34 ((askS Z (nI p)).2.1 20 + 1)) (ups (ups ga_2 16 (cpI (ga_2 15) (ga_2 16) (4 * p) (4 * p + 4))) 17 (shf ((upd (ga_2 17) ((askS Z (nI p)).1 11) (nI p))) 0 ((askS Z (nI p)).1 11 + 1)))), (slp_all _ _ rfl).trans rfl, ?_⟩
          exact j_vret F ⟨ups (ups vi_2 32 (nI (((askS Z (nI p)).1 11 + 1) - 1))) 34 ((askS Z (nI p)).2.1 20 + 1), ups (ups ga_2 16 (cpI (ga_2 15) (ga_2 16) (4 * p) (4 * p + 4))) 17 (shf ((upd (ga_2 17) ((askS Z (nI p)).1 11) (nI p))) 0 ((askS Z (nI p)).1 11 + 1)), acc_G h2_0 hp (fun q hq => (ups_ne (by omega)).trans ((ups_ne (by omega)).trans rfl)) (fun q hq => (ups_ne (by omega)).trans ((ups_ne (by omega)).trans rfl)) rfl (by unfold stN; rw [if_neg hgt, hu]; rfl) rfl (show _ = aFC (askS Z (nI p)) p by unfold aFC; rw [if_neg hf]; rfl) (by unfold aWC; rw [if_pos (Or.inr hd)]; exact x7) (dd_1 (fun a ha => (x8 a ha).1) (Or.inr hd)) (wd_2 x8 hf) (yy_1 x9 (Or.inr hd)) (fun j hj => by show (shf ((upd (ga_2 17) ((askS Z (nI p)).1 11) (nI p))) 0 ((askS Z (nI p)).1 11 + 1)) j = _; rw [show (askS Z (nI p)).1 11 + 1 = usN ((askS Z (nI p)).2.2 23) ((askS Z (nI p)).1 11) (nI p) by omega]; exact pg_o (pg_2 x10 hf) hgt j hj), h2_1, fun q hq => ((fun q hq => (ups_ne (by omega)).trans ((ups_ne (by omega)).trans rfl)) q hq).trans (h2_2 q hq), fun q hq => ((fun q hq => (ups_ne (by omega)).trans ((ups_ne (by omega)).trans rfl)) q hq).trans (h2_3 q hq), rfl, rfl⟩ dX10_accesses_114 (Nat.le_of_ble_eq_true rfl) (Nat.le_of_ble_eq_true rfl)
        · skip
          have hg18 : ¬ ga_2 18 (aE (askS Z (nI p)) p) = 0 := by rw [(x9 _ hE.1).1]; exact hd
          refine j_aload_n F 2 dX10_accesses_98 rfl ?_
          refine j_aload_n F 2 dX10_accesses_99 rfl ?_
          refine j_getf F fX10_75 0 (v := .ref (ad 18)) rfl rfl dX10_accesses_100 ?_
          refine j_iconst F (v := 0) dX10_accesses_103 (by decide) ?_
          refine j_iald F 18 0 (f := upd (ga_2 17) ((askS Z (nI p)).1 11) (nI p)) rfl rfl (by omega) (Nat.le_of_ble_eq_true rfl) dX10_accesses_104 ?_
          refine j_top (nI (aE (askS Z (nI p)) p)) ((hpg 0 usN_pos).trans hE.2) ?_
          refine j_scallV F kX10_218 (As := [.int (nI (aE (askS Z (nI p)) p))]) (rest := []) (c_X10_writesPage_yes l D ay ad (ups (ups vi_2 32 (nI ((askS Z (nI p)).1 11 + 1))) 34 ((askS Z (nI p)).2.1 20 + 1)) (ups (ups ga_2 16 (cpI (ga_2 15) (ga_2 16) (4 * p) (4 * p + 4))) 17 (upd (ga_2 17) ((askS Z (nI p)).1 11) (nI p))) (aE (askS Z (nI p)) p) (show (aE (askS Z (nI p)) p) < 16 from hE.1) (show ¬ ga_2 18 (aE (askS Z (nI p)) p) = 0 from hg18)) 0 0 20 rfl rfl rfl rfl rfl rfl ⟨Nat.le_of_ble_eq_true rfl, Nat.le_of_ble_eq_true rfl⟩ dX10_accesses_105 (fun v w hw => ?_)
          obtain ⟨rfl, rfl⟩ := hw
          refine ⟨rfl, (mW ay ad (ups (ups (ups vi_2 32 (nI ((askS Z (nI p)).1 11 + 1))) 34 ((askS Z (nI p)).2.1 20 + 1)) 35 (vi_2 35 + 1)) (ups (ups (ups (ups ga_2 15 (cpI ((cpI (ga_2 15) (ga_2 16) (4 * p) (4 * p + 4))) (ga_2 15) (4 * (aE (askS Z (nI p)) p)) (4 * (aE (askS Z (nI p)) p) + 4))) 16 (cpI (ga_2 15) (ga_2 16) (4 * p) (4 * p + 4))) 17 (upd (ga_2 17) ((askS Z (nI p)).1 11) (nI p))) 18 (upd (ga_2 18) (aE (askS Z (nI p)) p) 0))), (slp_all _ _ rfl).trans rfl, ?_⟩
          refine j_top 1 rfl ?_
          refine j_pop F dX10_accesses_108 rfl ?_
          refine j_aload_n F 2 dX10_accesses_109 rfl ?_
          refine j_iconst F (v := 0) dX10_accesses_110 (by decide) ?_
          refine j_scallV F kX10_212 (As := [.int 0]) (rest := []) (c_X10_out l D ay ad (ups (ups (ups vi_2 32 (nI ((askS Z (nI p)).1 11 + 1))) 34 ((askS Z (nI p)).2.1 20 + 1)) 35 (vi_2 35 + 1)) (ups (ups (ups (ups ga_2 15 (cpI ((cpI (ga_2 15) (ga_2 16) (4 * p) (4 * p + 4))) (ga_2 15) (4 * (aE (askS Z (nI p)) p)) (4 * (aE (askS Z (nI p)) p) + 4))) 16 (cpI (ga_2 15) (ga_2 16) (4 * p) (4 * p + 4))) 17 (upd (ga_2 17) ((askS Z (nI p)).1 11) (nI p))) 18 (upd (ga_2 18) (aE (askS Z (nI p)) p) 0)) ((askS Z (nI p)).1 11 + 1) 0 (show (nI ((askS Z (nI p)).1 11 + 1)) = nI ((askS Z (nI p)).1 11 + 1) from rfl) (show ((askS Z (nI p)).1 11 + 1) ≤ 9 from by omega) (show 0 < ((askS Z (nI p)).1 11 + 1) from by omega)) 0 0 20 rfl rfl rfl rfl rfl rfl ⟨Nat.le_of_ble_eq_true rfl, Nat.le_of_ble_eq_true rfl⟩ dX10_accesses_111 (fun v w hw => ?_)
          obtain ⟨rfl, rfl⟩ := hw
          refine ⟨rfl, (mW ay ad (ups (ups (ups vi_2 32 (nI (((askS Z (nI p)).1 11 + 1) - 1))) 34 ((askS Z (nI p)).2.1 20 + 1)) 35 (vi_2 35 + 1)) (ups (ups (ups (ups ga_2 15 (cpI ((cpI (ga_2 15) (ga_2 16) (4 * p) (4 * p + 4))) (ga_2 15) (4 * (aE (askS Z (nI p)) p)) (4 * (aE (askS Z (nI p)) p) + 4))) 16 (cpI (ga_2 15) (ga_2 16) (4 * p) (4 * p + 4))) 17 (shf ((upd (ga_2 17) ((askS Z (nI p)).1 11) (nI p))) 0 ((askS Z (nI p)).1 11 + 1))) 18 (upd (ga_2 18) (aE (askS Z (nI p)) p) 0))), (slp_all _ _ rfl).trans rfl, ?_⟩
          exact j_vret F ⟨ups (ups (ups vi_2 32 (nI (((askS Z (nI p)).1 11 + 1) - 1))) 34 ((askS Z (nI p)).2.1 20 + 1)) 35 (vi_2 35 + 1), ups (ups (ups (ups ga_2 15 (cpI ((cpI (ga_2 15) (ga_2 16) (4 * p) (4 * p + 4))) (ga_2 15) (4 * (aE (askS Z (nI p)) p)) (4 * (aE (askS Z (nI p)) p) + 4))) 16 (cpI (ga_2 15) (ga_2 16) (4 * p) (4 * p + 4))) 17 (shf ((upd (ga_2 17) ((askS Z (nI p)).1 11) (nI p))) 0 ((askS Z (nI p)).1 11 + 1))) 18 (upd (ga_2 18) (aE (askS Z (nI p)) p) 0), acc_G h2_0 hp (fun q hq => (ups_ne (by omega)).trans ((ups_ne (by omega)).trans ((ups_ne (by omega)).trans rfl))) (fun q hq => (ups_ne (by omega)).trans ((ups_ne (by omega)).trans ((ups_ne (by omega)).trans ((ups_ne (by omega)).trans rfl)))) rfl (by unfold stN; rw [if_neg hgt, hu]; rfl) rfl (show _ = aFC (askS Z (nI p)) p by unfold aFC; rw [if_neg hf]; rfl) (by unfold aWC; rw [if_neg (fun h => h.elim hgt hd), ← x7]; rfl) (dd_2 (fun a ha => (x8 a ha).1) (wd_2 x8 hf) (fun h => h.elim hgt hd)) (wd_2 x8 hf) (yy_2 x9 (fun h => h.elim hgt hd)) (fun j hj => by show (shf ((upd (ga_2 17) ((askS Z (nI p)).1 11) (nI p))) 0 ((askS Z (nI p)).1 11 + 1)) j = _; rw [show (askS Z (nI p)).1 11 + 1 = usN ((askS Z (nI p)).2.2 23) ((askS Z (nI p)).1 11) (nI p) by omega]; exact pg_o (pg_2 x10 hf) hgt j hj), h2_1, fun q hq => ((fun q hq => (ups_ne (by omega)).trans ((ups_ne (by omega)).trans ((ups_ne (by omega)).trans rfl))) q hq).trans (h2_2 q hq), fun q hq => ((fun q hq => (ups_ne (by omega)).trans ((ups_ne (by omega)).trans ((ups_ne (by omega)).trans ((ups_ne (by omega)).trans rfl)))) q hq).trans (h2_3 q hq), rfl, rfl⟩ dX10_accesses_114 (Nat.le_of_ble_eq_true rfl) (Nat.le_of_ble_eq_true rfl)
      · skip
        have n_94 := mt (n_lt ((askS Z (nI p)).1 19) ((askS Z (nI p)).1 11 + 1) rfl rfl (by omega) (by omega)).mpr c_94
        exact j_vret F ⟨ups (ups vi_2 32 (nI ((askS Z (nI p)).1 11 + 1))) 34 ((askS Z (nI p)).2.1 20 + 1), ups (ups ga_2 16 (cpI (ga_2 15) (ga_2 16) (4 * p) (4 * p + 4))) 17 (upd (ga_2 17) ((askS Z (nI p)).1 11) (nI p)), acc_G h2_0 hp (fun q hq => (ups_ne (by omega)).trans ((ups_ne (by omega)).trans rfl)) (fun q hq => (ups_ne (by omega)).trans ((ups_ne (by omega)).trans rfl)) rfl (by unfold stN; rw [if_pos (show usN ((askS Z (nI p)).2.2 23) ((askS Z (nI p)).1 11) (nI p) ≤ (askS Z (nI p)).1 19 by omega), hu]; rfl) rfl (show _ = aFC (askS Z (nI p)) p by unfold aFC; rw [if_neg hf]; rfl) (by unfold aWC; rw [if_pos (Or.inl (show usN ((askS Z (nI p)).2.2 23) ((askS Z (nI p)).1 11) (nI p) ≤ (askS Z (nI p)).1 19 by omega))]; exact x7) (dd_1 (fun a ha => (x8 a ha).1) (Or.inl (show usN ((askS Z (nI p)).2.2 23) ((askS Z (nI p)).1 11) (nI p) ≤ (askS Z (nI p)).1 19 by omega))) (wd_2 x8 hf) (yy_1 x9 (Or.inl (show usN ((askS Z (nI p)).2.2 23) ((askS Z (nI p)).1 11) (nI p) ≤ (askS Z (nI p)).1 19 by omega))) (pg_k (pg_2 x10 hf) (show usN ((askS Z (nI p)).2.2 23) ((askS Z (nI p)).1 11) (nI p) ≤ (askS Z (nI p)).1 19 by omega)), h2_1, fun q hq => ((fun q hq => (ups_ne (by omega)).trans ((ups_ne (by omega)).trans rfl)) q hq).trans (h2_2 q hq), fun q hq => ((fun q hq => (ups_ne (by omega)).trans ((ups_ne (by omega)).trans rfl)) q hq).trans (h2_3 q hq), rfl, rfl⟩ dX10_accesses_97 (Nat.le_of_ble_eq_true rfl) (Nat.le_of_ble_eq_true rfl)
    · skip
      have n_45 := mt (n_le (4 * p + 4) i rfl rfl (by omega) (by omega)).mpr c_45
      refine j_aload_n F 2 dX10_accesses_48 rfl ?_
      refine j_getf F fX10_72 0 (v := .ref (ad 17)) rfl rfl dX10_accesses_49 ?_
      refine j_iload_n F 0 dX10_accesses_52 rfl ?_
      refine j_aload_n F 2 dX10_accesses_53 rfl ?_
      refine j_getf F fX10_69 0 (v := .ref (ad 16)) rfl rfl dX10_accesses_54 ?_
      refine j_iload_n F 0 dX10_accesses_57 rfl ?_
      refine j_iald F 16 i (f := ga_2 15) rfl rfl (by omega) (Nat.le_of_ble_eq_true rfl) dX10_accesses_58 ?_
      refine j_iast F 17 (mW ay ad (ups vi_2 34 ((askS Z (nI p)).2.1 20 + 1)) (ups ga_2 16 (upd (cpI (ga_2 15) (ga_2 16) (4 * p) (i)) i ((ga_2 15) i)))) i rfl rfl (by omega) (Nat.le_of_ble_eq_true rfl) rfl dX10_accesses_59 ?_
      refine j_ws (mW ay ad (ups vi_2 34 ((askS Z (nI p)).2.1 20 + 1)) (ups ga_2 16 (cpI (ga_2 15) (ga_2 16) (4 * p) (i + 1)))) (by rw [cpI_step hi]) ?_
      refine j_iinc F 0 (nI (i + 1)) [(3, .int (nI (i + 1))), (2, .int (-1)), (0, .ref (ad 0)), (1, .int (nI p))] dX10_accesses_60 rfl (nI_1 _) (by decide) rfl ?_
      refine j_goto F 39 dX10_accesses_63 (by decide) ?_
      exact ih (i + 1) ⟨by omega, by omega⟩ (by show 4 * p + 4 - (i + 1) < 4 * p + 4 - i; omega)

