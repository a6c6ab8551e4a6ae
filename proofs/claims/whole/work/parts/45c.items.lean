set_option maxHeartbeats 4000000 in
set_option maxRecDepth 100000 in
theorem c_X10_readsItem_yes (l : Launch) (D : va_G) (ay : Nat → ClassId) (ad : Nat → Nat) (vi : Nat → Int32) (ga : Nat → Nat → Int32) (n : Nat) (q : Nat) (m : Nat) (op : Nat) (kd : Int32) (x : Int32) (p2 : Nat) (hT : TK (ga 10) n q (vi 17) (vi 19) (vi 20)) (h16 : vi 16 = nI n) (hn : n ≤ 300) (hq : q < n) (h23 : vi 23 = nI m) (hm : m ≤ q) (ho : op ≤ 4) (hi : itm (ga 10) n q op = .inl (kd, x, p2)) (hk : ¬ kd = 125) : jM l yX10_readsItem (jws yX10_readsItem cX10_readsItem 4 (some .boolean)) 3 65 0 0 D ay [.ref (ad 0), .int (nI op)] (mW ay ad vi ga) (fun v w => ∃ (tk : Int32), ∃ (va : Int32), ∃ (pb : Int32), TK (ga 10) n p2 tk va pb ∧ v = some (.int 1) ∧ w = (mW ay ad (ups (ups (ups (ups (ups vi 17 tk) 18 (nI p2)) 19 va) 20 pb) 23 (nI (m + 1))) (ups (ups ga 11 (upd (ga 11) m kd)) 12 (upd (ga 12) m x)))) := by
  refine jM_of l (by decide) [(0, .ref (ad 0)), (1, .int (nI op))] rfl rfl (fun p9 e9 s9 m9 a9 b9 me9 c9 A9 F => ?_)
  have hL : isS (ga 10 q) := by
    rcases itm_kd hi with ⟨h, -⟩ | ⟨h, -⟩ | ⟨-, h⟩
    · rcases h with h | h | h | h <;> rw [h] <;> decide
    · rw [h]; decide
    · exact absurd h hk
  have h17 := tk_isS hT hq hL
  obtain ⟨h20, -, h19, -⟩ := tk_pb hT h17
  have hq1 : sk (ga 10) n (q + 1) ≤ n := sk_le (by omega)
  rcases hL with eL | eL | eL | eL | eL | eL | eL | eL
  · skip
    replace h19 : vi 19 = 108 := h19.trans eL
    have h9 := itm_st (n := n) (op := op) (hi := 63) eL (by decide) rfl
    rw [hi] at h9
    refine j_aload_n F 0 dX10_readsItem_0 rfl ?_
    refine j_getf F fX10_171 0 (v := .int (vi 19)) rfl rfl dX10_readsItem_1 ?_
    refine j_top 108 h19 ?_
    refine j_istore_n F 2 [(2, .int 108), (0, .ref (ad 0)), (1, .int (nI op))] dX10_readsItem_4 rfl (by decide) rfl ?_
    refine j_aload_n F 1 dX10_readsItem_5 rfl ?_
    refine j_getf F fX10_168 0 (v := .int (vi 17)) rfl rfl dX10_readsItem_6 ?_
    refine j_top 1 h17 ?_
    refine j_iconst F (v := 1) dX10_readsItem_9 (by decide) ?_
    refine j_icmp_ne F 35 dX10_readsItem_10 (by decide) (fun c_10 => absurd (by decide) c_10) (fun c_10 => ?_)
    refine j_iload_n F 0 dX10_readsItem_13 rfl ?_
    refine j_bipush F (v := 59) dX10_readsItem_14 (by decide) ?_
    refine j_icmp_eq F 35 dX10_readsItem_16 (by decide) (fun c_16 => absurd c_16 (by decide)) (fun c_16 => ?_)
    refine j_iload_n F 0 dX10_readsItem_19 rfl ?_
    refine j_bipush F (v := 123) dX10_readsItem_20 (by decide) ?_
    refine j_icmp_eq F 35 dX10_readsItem_22 (by decide) (fun c_22 => absurd c_22 (by decide)) (fun c_22 => ?_)
    refine j_iload_n F 0 dX10_readsItem_25 rfl ?_
    refine j_bipush F (v := 125) dX10_readsItem_26 (by decide) ?_
    refine j_icmp_eq F 35 dX10_readsItem_28 (by decide) (fun c_28 => absurd c_28 (by decide)) (fun c_28 => ?_)
    refine j_iconst F (v := 1) dX10_readsItem_31 (by decide) ?_
    refine j_goto F 36 dX10_readsItem_32 (by decide) ?_
    refine j_istore_n F 3 [(3, .int 1), (2, .int 108), (0, .ref (ad 0)), (1, .int (nI op))] dX10_readsItem_36 rfl (by decide) rfl ?_
    refine j_iload_n F 0 dX10_readsItem_37 rfl ?_
    refine j_if_ne F 43 dX10_readsItem_38 (by decide) (fun c_38 => ?_) (fun c_38 => absurd c_38 (by decide))
    refine j_aload_n F 2 dX10_readsItem_43 rfl ?_
    refine j_scallV F kX10_180 (As := []) (rest := []) (c_X10_reads l D ay ad vi ga n (q + 1) (show vi 16 = nI n from h16) (show n ≤ 300 from hn) (show vi 20 = nI (q + 1) from h20) (show (q + 1) ≤ n from by omega)) 0 0 20 rfl rfl rfl rfl rfl rfl ⟨Nat.le_of_ble_eq_true rfl, Nat.le_of_ble_eq_true rfl⟩ dX10_readsItem_44 (fun v w hw => ?_)
    obtain ⟨tk_44, va_44, pb_44, h44_0, rfl, rfl⟩ := hw
    replace h44_0 : TK (ga 10) n (sk (ga 10) n (q + 1)) tk_44 va_44 pb_44 := h44_0
    refine ⟨rfl, (mW ay ad (ups (ups (ups (ups vi 17 tk_44) 18 (nI (sk (ga 10) n (q + 1)))) 19 va_44) 20 pb_44) ga), (slp_all _ _ rfl).trans rfl, ?_⟩
    have hr : rdOK (ga 10) n (sk (ga 10) n (q + 1)) 0 63 := by
      refine Decidable.byContradiction fun hr => ?_
      rw [if_neg hr] at h9; exact inr_a h9.symm
    rw [if_pos hr] at h9
    obtain ⟨hn1, hn2⟩ := (tk_num h44_0).mpr hr
    obtain ⟨hv1, hv2, hv3⟩ := tk_val h44_0 hn1
    refine j_aload_n F 2 dX10_readsItem_47 rfl ?_
    refine j_iload_n F 1 dX10_readsItem_48 rfl ?_
    refine j_bipush F (v := 120) dX10_readsItem_49 (by decide) ?_
    refine j_icmp_ne F 58 dX10_readsItem_51 (by decide) (fun c_51 => ?_) (fun c_51 => absurd c_51 (by decide))
    refine j_iconst F (v := 0) dX10_readsItem_58 (by decide) ?_
    refine j_iload_n F 1 dX10_readsItem_59 rfl ?_
    refine j_bipush F (v := 120) dX10_readsItem_60 (by decide) ?_
    refine j_icmp_ne F 70 dX10_readsItem_62 (by decide) (fun c_62 => ?_) (fun c_62 => absurd c_62 (by decide))
    refine j_iload_n F 1 dX10_readsItem_70 rfl ?_
    refine j_bipush F (v := 99) dX10_readsItem_71 (by decide) ?_
    refine j_icmp_ne F 82 dX10_readsItem_73 (by decide) (fun c_73 => ?_) (fun c_73 => absurd c_73 (by decide))
    refine j_bipush F (v := 63) dX10_readsItem_82 (by decide) ?_
    refine j_scallV F kX10_183 (As := [.int 0, .int 63]) (rest := []) (c_X10_takesNumber_yes l D ay ad (ups (ups (ups (ups vi 17 tk_44) 18 (nI (sk (ga 10) n (q + 1)))) 19 va_44) 20 pb_44) ga 0 63 n (sk (ga 10) n (q + 1) + dg (ga 10) n (sk (ga 10) n (q + 1))) m (show tk_44 = 2 from hn1) (show ¬ oob (va_44) 0 63 from hn2) (show vi 23 = nI m from h23) (show m < 300 from by omega) (show vi 16 = nI n from h16) (show n ≤ 300 from hn) (show pb_44 = nI (sk (ga 10) n (q + 1) + dg (ga 10) n (sk (ga 10) n (q + 1))) from hv2) (show (sk (ga 10) n (q + 1) + dg (ga 10) n (sk (ga 10) n (q + 1))) ≤ n from hv3)) 0 0 20 rfl rfl rfl rfl rfl rfl ⟨Nat.le_of_ble_eq_true rfl, Nat.le_of_ble_eq_true rfl⟩ dX10_readsItem_84 (fun v w hw => ?_)
    obtain ⟨tk_84, va_84, pb_84, h84_0, rfl, rfl⟩ := hw
    replace h84_0 : TK (ga 10) n (sk (ga 10) n (sk (ga 10) n (q + 1) + dg (ga 10) n (sk (ga 10) n (q + 1)))) tk_84 va_84 pb_84 := h84_0
    refine ⟨rfl, (mW ay ad (ups (ups (ups (ups vi 17 tk_84) 18 (nI (sk (ga 10) n (sk (ga 10) n (q + 1) + dg (ga 10) n (sk (ga 10) n (q + 1)))))) 19 va_84) 20 pb_84) (ups ga 12 (upd (ga 12) m (va_44)))), (slp_all _ _ rfl).trans rfl, ?_⟩
    refine j_top 1 rfl ?_
    refine j_if_ne F 92 dX10_readsItem_87 (by decide) (fun c_87 => ?_) (fun c_87 => absurd c_87 (by decide))
    replace h84_0 : TK (ga 10) n (nx (ga 10) n (sk (ga 10) n (q + 1))) tk_84 va_84 pb_84 := h84_0
    have hb : btA (ga 10) n (nx (ga 10) n (sk (ga 10) n (q + 1))) = 59 := by
      refine Decidable.byContradiction fun hb => ?_
      rw [if_neg hb] at h9; exact inr_a h9.symm
    rw [if_pos hb] at h9
    have hs := (tk_sign h84_0 (b := 59) (by decide)).mpr hb
    obtain ⟨hpb, hpq, -, -⟩ := tk_pb h84_0 hs.1
    have h8 := Sum.inl.inj h9
    obtain ⟨rfl, rfl, rfl⟩ : kd = _ ∧ x = _ ∧ p2 = _ := ⟨congrArg (·.1) h8, congrArg (·.2.1) h8, congrArg (·.2.2) h8⟩
    refine j_aload_n F 2 dX10_readsItem_92 rfl ?_
    refine j_iload_n F 1 dX10_readsItem_93 rfl ?_
    refine j_bipush F (v := 120) dX10_readsItem_94 (by decide) ?_
    refine j_icmp_ne F 104 dX10_readsItem_96 (by decide) (fun c_96 => ?_) (fun c_96 => absurd c_96 (by decide))
    refine j_bipush F (v := 59) dX10_readsItem_104 (by decide) ?_
    refine j_scallV F kX10_186 (As := [.int 59]) (rest := []) (c_X10_isSignNow_yes l D ay ad (ups (ups (ups (ups vi 17 tk_84) 18 (nI (sk (ga 10) n (sk (ga 10) n (q + 1) + dg (ga 10) n (sk (ga 10) n (q + 1)))))) 19 va_84) 20 pb_84) (ups ga 12 (upd (ga 12) m (va_44))) 59 (show tk_84 = 1 ∧ va_84 = 59 from hs)) 0 0 20 rfl rfl rfl rfl rfl rfl ⟨Nat.le_of_ble_eq_true rfl, Nat.le_of_ble_eq_true rfl⟩ dX10_readsItem_106 (fun v w hw => ?_)
    obtain ⟨rfl, rfl⟩ := hw
    refine ⟨rfl, (mW ay ad (ups (ups (ups (ups vi 17 tk_84) 18 (nI (sk (ga 10) n (sk (ga 10) n (q + 1) + dg (ga 10) n (sk (ga 10) n (q + 1)))))) 19 va_84) 20 pb_84) (ups ga 12 (upd (ga 12) m (va_44)))), (slp_all _ _ rfl).trans rfl, ?_⟩
    refine j_top 1 rfl ?_
    refine j_if_eq F 123 dX10_readsItem_109 (by decide) (fun c_109 => absurd c_109 (by decide)) (fun c_109 => ?_)
    refine j_iload_n F 1 dX10_readsItem_112 rfl ?_
    refine j_bipush F (v := 120) dX10_readsItem_113 (by decide) ?_
    refine j_icmp_ne F 125 dX10_readsItem_115 (by decide) (fun c_115 => ?_) (fun c_115 => absurd c_115 (by decide))
    refine j_aload_n F 2 dX10_readsItem_125 rfl ?_
    refine j_getf F fX10_54 0 (v := .ref (ad 12)) rfl rfl dX10_readsItem_126 ?_
    refine j_aload_n F 2 dX10_readsItem_129 rfl ?_
    refine j_getf F fX10_177 0 (v := .int (vi 23)) rfl rfl dX10_readsItem_130 ?_
    refine j_top (nI m) h23 ?_
    refine j_iload_n F 1 dX10_readsItem_133 rfl ?_
    refine j_iast F 12 (mW ay ad (ups (ups (ups (ups vi 17 tk_84) 18 (nI (sk (ga 10) n (sk (ga 10) n (q + 1) + dg (ga 10) n (sk (ga 10) n (q + 1)))))) 19 va_84) 20 pb_84) (ups (ups ga 11 (upd (ga 11) m 108)) 12 (upd (ga 12) m (va_44)))) m rfl rfl (by omega) (Nat.le_of_ble_eq_true rfl) rfl dX10_readsItem_134 ?_
    refine j_aload_n F 2 dX10_readsItem_135 rfl ?_
    refine j_dup F dX10_readsItem_136 rfl ?_
    refine j_getf F fX10_177 0 (v := .int (vi 23)) rfl rfl dX10_readsItem_137 ?_
    refine j_top (nI m) h23 ?_
    refine j_iconst F (v := 1) dX10_readsItem_140 (by decide) ?_
    refine j_iadd F dX10_readsItem_141 ?_
    refine j_top (nI (m + 1)) (nI_add _ _) ?_
    refine j_putf F fX10_177 0 (mW ay ad (ups (ups (ups (ups (ups vi 17 tk_84) 18 (nI (sk (ga 10) n (sk (ga 10) n (q + 1) + dg (ga 10) n (sk (ga 10) n (q + 1)))))) 19 va_84) 20 pb_84) 23 (nI (m + 1))) (ups (ups ga 11 (upd (ga 11) m 108)) 12 (upd (ga 12) m (va_44)))) rfl rfl rfl rfl rfl (Nat.le_of_ble_eq_true rfl) dX10_readsItem_142 ?_
    refine j_aload_n F 2 dX10_readsItem_145 rfl ?_
    refine j_scallV F kX10_180 (As := []) (rest := []) (c_X10_reads l D ay ad (ups (ups (ups (ups (ups vi 17 tk_84) 18 (nI (sk (ga 10) n (sk (ga 10) n (q + 1) + dg (ga 10) n (sk (ga 10) n (q + 1)))))) 19 va_84) 20 pb_84) 23 (nI (m + 1))) (ups (ups ga 11 (upd (ga 11) m 108)) 12 (upd (ga 12) m (va_44))) n (nx (ga 10) n (sk (ga 10) n (q + 1)) + 1) (show vi 16 = nI n from h16) (show n ≤ 300 from hn) (show pb_84 = nI (nx (ga 10) n (sk (ga 10) n (q + 1)) + 1) from hpb) (show (nx (ga 10) n (sk (ga 10) n (q + 1)) + 1) ≤ n from by omega)) 0 0 20 rfl rfl rfl rfl rfl rfl ⟨Nat.le_of_ble_eq_true rfl, Nat.le_of_ble_eq_true rfl⟩ dX10_readsItem_146 (fun v w hw => ?_)
    obtain ⟨tk_146, va_146, pb_146, h146_0, rfl, rfl⟩ := hw
    replace h146_0 : TK (ga 10) n (sk (ga 10) n (nx (ga 10) n (sk (ga 10) n (q + 1)) + 1)) tk_146 va_146 pb_146 := h146_0
    refine ⟨rfl, (mW ay ad (ups (ups (ups (ups (ups vi 17 tk_146) 18 (nI (sk (ga 10) n (nx (ga 10) n (sk (ga 10) n (q + 1)) + 1)))) 19 va_146) 20 pb_146) 23 (nI (m + 1))) (ups (ups ga 11 (upd (ga 11) m 108)) 12 (upd (ga 12) m (va_44)))), (slp_all _ _ rfl).trans rfl, ?_⟩
    refine j_iconst F (v := 1) dX10_readsItem_149 (by decide) ?_
    exact j_zret F (Or.inr rfl) ⟨tk_146, va_146, pb_146, h146_0, rfl, by rw [hv1]⟩ dX10_readsItem_150 (Nat.le_of_ble_eq_true rfl) (Nat.le_of_ble_eq_true rfl)
  · skip
    replace h19 : vi 19 = 115 := h19.trans eL
    have h9 := itm_st (n := n) (op := op) (hi := 63) eL (by decide) rfl
    rw [hi] at h9
    refine j_aload_n F 0 dX10_readsItem_0 rfl ?_
    refine j_getf F fX10_171 0 (v := .int (vi 19)) rfl rfl dX10_readsItem_1 ?_
    refine j_top 115 h19 ?_
    refine j_istore_n F 2 [(2, .int 115), (0, .ref (ad 0)), (1, .int (nI op))] dX10_readsItem_4 rfl (by decide) rfl ?_
    refine j_aload_n F 1 dX10_readsItem_5 rfl ?_
    refine j_getf F fX10_168 0 (v := .int (vi 17)) rfl rfl dX10_readsItem_6 ?_
    refine j_top 1 h17 ?_
    refine j_iconst F (v := 1) dX10_readsItem_9 (by decide) ?_
    refine j_icmp_ne F 35 dX10_readsItem_10 (by decide) (fun c_10 => absurd (by decide) c_10) (fun c_10 => ?_)
    refine j_iload_n F 0 dX10_readsItem_13 rfl ?_
    refine j_bipush F (v := 59) dX10_readsItem_14 (by decide) ?_
    refine j_icmp_eq F 35 dX10_readsItem_16 (by decide) (fun c_16 => absurd c_16 (by decide)) (fun c_16 => ?_)
    refine j_iload_n F 0 dX10_readsItem_19 rfl ?_
    refine j_bipush F (v := 123) dX10_readsItem_20 (by decide) ?_
    refine j_icmp_eq F 35 dX10_readsItem_22 (by decide) (fun c_22 => absurd c_22 (by decide)) (fun c_22 => ?_)
    refine j_iload_n F 0 dX10_readsItem_25 rfl ?_
    refine j_bipush F (v := 125) dX10_readsItem_26 (by decide) ?_
    refine j_icmp_eq F 35 dX10_readsItem_28 (by decide) (fun c_28 => absurd c_28 (by decide)) (fun c_28 => ?_)
    refine j_iconst F (v := 1) dX10_readsItem_31 (by decide) ?_
    refine j_goto F 36 dX10_readsItem_32 (by decide) ?_
    refine j_istore_n F 3 [(3, .int 1), (2, .int 115), (0, .ref (ad 0)), (1, .int (nI op))] dX10_readsItem_36 rfl (by decide) rfl ?_
    refine j_iload_n F 0 dX10_readsItem_37 rfl ?_
    refine j_if_ne F 43 dX10_readsItem_38 (by decide) (fun c_38 => ?_) (fun c_38 => absurd c_38 (by decide))
    refine j_aload_n F 2 dX10_readsItem_43 rfl ?_
    refine j_scallV F kX10_180 (As := []) (rest := []) (c_X10_reads l D ay ad vi ga n (q + 1) (show vi 16 = nI n from h16) (show n ≤ 300 from hn) (show vi 20 = nI (q + 1) from h20) (show (q + 1) ≤ n from by omega)) 0 0 20 rfl rfl rfl rfl rfl rfl ⟨Nat.le_of_ble_eq_true rfl, Nat.le_of_ble_eq_true rfl⟩ dX10_readsItem_44 (fun v w hw => ?_)
    obtain ⟨tk_44, va_44, pb_44, h44_0, rfl, rfl⟩ := hw
    replace h44_0 : TK (ga 10) n (sk (ga 10) n (q + 1)) tk_44 va_44 pb_44 := h44_0
    refine ⟨rfl, (mW ay ad (ups (ups (ups (ups vi 17 tk_44) 18 (nI (sk (ga 10) n (q + 1)))) 19 va_44) 20 pb_44) ga), (slp_all _ _ rfl).trans rfl, ?_⟩
    have hr : rdOK (ga 10) n (sk (ga 10) n (q + 1)) 0 63 := by
      refine Decidable.byContradiction fun hr => ?_
      rw [if_neg hr] at h9; exact inr_a h9.symm
    rw [if_pos hr] at h9
    obtain ⟨hn1, hn2⟩ := (tk_num h44_0).mpr hr
    obtain ⟨hv1, hv2, hv3⟩ := tk_val h44_0 hn1
    refine j_aload_n F 2 dX10_readsItem_47 rfl ?_
    refine j_iload_n F 1 dX10_readsItem_48 rfl ?_
    refine j_bipush F (v := 120) dX10_readsItem_49 (by decide) ?_
    refine j_icmp_ne F 58 dX10_readsItem_51 (by decide) (fun c_51 => ?_) (fun c_51 => absurd c_51 (by decide))
    refine j_iconst F (v := 0) dX10_readsItem_58 (by decide) ?_
    refine j_iload_n F 1 dX10_readsItem_59 rfl ?_
    refine j_bipush F (v := 120) dX10_readsItem_60 (by decide) ?_
    refine j_icmp_ne F 70 dX10_readsItem_62 (by decide) (fun c_62 => ?_) (fun c_62 => absurd c_62 (by decide))
    refine j_iload_n F 1 dX10_readsItem_70 rfl ?_
    refine j_bipush F (v := 99) dX10_readsItem_71 (by decide) ?_
    refine j_icmp_ne F 82 dX10_readsItem_73 (by decide) (fun c_73 => ?_) (fun c_73 => absurd c_73 (by decide))
    refine j_bipush F (v := 63) dX10_readsItem_82 (by decide) ?_
    refine j_scallV F kX10_183 (As := [.int 0, .int 63]) (rest := []) (c_X10_takesNumber_yes l D ay ad (ups (ups (ups (ups vi 17 tk_44) 18 (nI (sk (ga 10) n (q + 1)))) 19 va_44) 20 pb_44) ga 0 63 n (sk (ga 10) n (q + 1) + dg (ga 10) n (sk (ga 10) n (q + 1))) m (show tk_44 = 2 from hn1) (show ¬ oob (va_44) 0 63 from hn2) (show vi 23 = nI m from h23) (show m < 300 from by omega) (show vi 16 = nI n from h16) (show n ≤ 300 from hn) (show pb_44 = nI (sk (ga 10) n (q + 1) + dg (ga 10) n (sk (ga 10) n (q + 1))) from hv2) (show (sk (ga 10) n (q + 1) + dg (ga 10) n (sk (ga 10) n (q + 1))) ≤ n from hv3)) 0 0 20 rfl rfl rfl rfl rfl rfl ⟨Nat.le_of_ble_eq_true rfl, Nat.le_of_ble_eq_true rfl⟩ dX10_readsItem_84 (fun v w hw => ?_)
    obtain ⟨tk_84, va_84, pb_84, h84_0, rfl, rfl⟩ := hw
    replace h84_0 : TK (ga 10) n (sk (ga 10) n (sk (ga 10) n (q + 1) + dg (ga 10) n (sk (ga 10) n (q + 1)))) tk_84 va_84 pb_84 := h84_0
    refine ⟨rfl, (mW ay ad (ups (ups (ups (ups vi 17 tk_84) 18 (nI (sk (ga 10) n (sk (ga 10) n (q + 1) + dg (ga 10) n (sk (ga 10) n (q + 1)))))) 19 va_84) 20 pb_84) (ups ga 12 (upd (ga 12) m (va_44)))), (slp_all _ _ rfl).trans rfl, ?_⟩
    refine j_top 1 rfl ?_
    refine j_if_ne F 92 dX10_readsItem_87 (by decide) (fun c_87 => ?_) (fun c_87 => absurd c_87 (by decide))
    replace h84_0 : TK (ga 10) n (nx (ga 10) n (sk (ga 10) n (q + 1))) tk_84 va_84 pb_84 := h84_0
    have hb : btA (ga 10) n (nx (ga 10) n (sk (ga 10) n (q + 1))) = 59 := by
      refine Decidable.byContradiction fun hb => ?_
      rw [if_neg hb] at h9; exact inr_a h9.symm
    rw [if_pos hb] at h9
    have hs := (tk_sign h84_0 (b := 59) (by decide)).mpr hb
    obtain ⟨hpb, hpq, -, -⟩ := tk_pb h84_0 hs.1
    have h8 := Sum.inl.inj h9
    obtain ⟨rfl, rfl, rfl⟩ : kd = _ ∧ x = _ ∧ p2 = _ := ⟨congrArg (·.1) h8, congrArg (·.2.1) h8, congrArg (·.2.2) h8⟩
    refine j_aload_n F 2 dX10_readsItem_92 rfl ?_
    refine j_iload_n F 1 dX10_readsItem_93 rfl ?_
    refine j_bipush F (v := 120) dX10_readsItem_94 (by decide) ?_
    refine j_icmp_ne F 104 dX10_readsItem_96 (by decide) (fun c_96 => ?_) (fun c_96 => absurd c_96 (by decide))
    refine j_bipush F (v := 59) dX10_readsItem_104 (by decide) ?_
    refine j_scallV F kX10_186 (As := [.int 59]) (rest := []) (c_X10_isSignNow_yes l D ay ad (ups (ups (ups (ups vi 17 tk_84) 18 (nI (sk (ga 10) n (sk (ga 10) n (q + 1) + dg (ga 10) n (sk (ga 10) n (q + 1)))))) 19 va_84) 20 pb_84) (ups ga 12 (upd (ga 12) m (va_44))) 59 (show tk_84 = 1 ∧ va_84 = 59 from hs)) 0 0 20 rfl rfl rfl rfl rfl rfl ⟨Nat.le_of_ble_eq_true rfl, Nat.le_of_ble_eq_true rfl⟩ dX10_readsItem_106 (fun v w hw => ?_)
    obtain ⟨rfl, rfl⟩ := hw
    refine ⟨rfl, (mW ay ad (ups (ups (ups (ups vi 17 tk_84) 18 (nI (sk (ga 10) n (sk (ga 10) n (q + 1) + dg (ga 10) n (sk (ga 10) n (q + 1)))))) 19 va_84) 20 pb_84) (ups ga 12 (upd (ga 12) m (va_44)))), (slp_all _ _ rfl).trans rfl, ?_⟩
    refine j_top 1 rfl ?_
    refine j_if_eq F 123 dX10_readsItem_109 (by decide) (fun c_109 => absurd c_109 (by decide)) (fun c_109 => ?_)
    refine j_iload_n F 1 dX10_readsItem_112 rfl ?_
    refine j_bipush F (v := 120) dX10_readsItem_113 (by decide) ?_
    refine j_icmp_ne F 125 dX10_readsItem_115 (by decide) (fun c_115 => ?_) (fun c_115 => absurd c_115 (by decide))
    refine j_aload_n F 2 dX10_readsItem_125 rfl ?_
    refine j_getf F fX10_54 0 (v := .ref (ad 12)) rfl rfl dX10_readsItem_126 ?_
    refine j_aload_n F 2 dX10_readsItem_129 rfl ?_
    refine j_getf F fX10_177 0 (v := .int (vi 23)) rfl rfl dX10_readsItem_130 ?_
    refine j_top (nI m) h23 ?_
    refine j_iload_n F 1 dX10_readsItem_133 rfl ?_
    refine j_iast F 12 (mW ay ad (ups (ups (ups (ups vi 17 tk_84) 18 (nI (sk (ga 10) n (sk (ga 10) n (q + 1) + dg (ga 10) n (sk (ga 10) n (q + 1)))))) 19 va_84) 20 pb_84) (ups (ups ga 11 (upd (ga 11) m 115)) 12 (upd (ga 12) m (va_44)))) m rfl rfl (by omega) (Nat.le_of_ble_eq_true rfl) rfl dX10_readsItem_134 ?_
    refine j_aload_n F 2 dX10_readsItem_135 rfl ?_
    refine j_dup F dX10_readsItem_136 rfl ?_
    refine j_getf F fX10_177 0 (v := .int (vi 23)) rfl rfl dX10_readsItem_137 ?_
    refine j_top (nI m) h23 ?_
    refine j_iconst F (v := 1) dX10_readsItem_140 (by decide) ?_
    refine j_iadd F dX10_readsItem_141 ?_
    refine j_top (nI (m + 1)) (nI_add _ _) ?_
    refine j_putf F fX10_177 0 (mW ay ad (ups (ups (ups (ups (ups vi 17 tk_84) 18 (nI (sk (ga 10) n (sk (ga 10) n (q + 1) + dg (ga 10) n (sk (ga 10) n (q + 1)))))) 19 va_84) 20 pb_84) 23 (nI (m + 1))) (ups (ups ga 11 (upd (ga 11) m 115)) 12 (upd (ga 12) m (va_44)))) rfl rfl rfl rfl rfl (Nat.le_of_ble_eq_true rfl) dX10_readsItem_142 ?_
    refine j_aload_n F 2 dX10_readsItem_145 rfl ?_
    refine j_scallV F kX10_180 (As := []) (rest := []) (c_X10_reads l D ay ad (ups (ups (ups (ups (ups vi 17 tk_84) 18 (nI (sk (ga 10) n (sk (ga 10) n (q + 1) + dg (ga 10) n (sk (ga 10) n (q + 1)))))) 19 va_84) 20 pb_84) 23 (nI (m + 1))) (ups (ups ga 11 (upd (ga 11) m 115)) 12 (upd (ga 12) m (va_44))) n (nx (ga 10) n (sk (ga 10) n (q + 1)) + 1) (show vi 16 = nI n from h16) (show n ≤ 300 from hn) (show pb_84 = nI (nx (ga 10) n (sk (ga 10) n (q + 1)) + 1) from hpb) (show (nx (ga 10) n (sk (ga 10) n (q + 1)) + 1) ≤ n from by omega)) 0 0 20 rfl rfl rfl rfl rfl rfl ⟨Nat.le_of_ble_eq_true rfl, Nat.le_of_ble_eq_true rfl⟩ dX10_readsItem_146 (fun v w hw => ?_)
    obtain ⟨tk_146, va_146, pb_146, h146_0, rfl, rfl⟩ := hw
    replace h146_0 : TK (ga 10) n (sk (ga 10) n (nx (ga 10) n (sk (ga 10) n (q + 1)) + 1)) tk_146 va_146 pb_146 := h146_0
    refine ⟨rfl, (mW ay ad (ups (ups (ups (ups (ups vi 17 tk_146) 18 (nI (sk (ga 10) n (nx (ga 10) n (sk (ga 10) n (q + 1)) + 1)))) 19 va_146) 20 pb_146) 23 (nI (m + 1))) (ups (ups ga 11 (upd (ga 11) m 115)) 12 (upd (ga 12) m (va_44)))), (slp_all _ _ rfl).trans rfl, ?_⟩
    refine j_iconst F (v := 1) dX10_readsItem_149 (by decide) ?_
    exact j_zret F (Or.inr rfl) ⟨tk_146, va_146, pb_146, h146_0, rfl, by rw [hv1]⟩ dX10_readsItem_150 (Nat.le_of_ble_eq_true rfl) (Nat.le_of_ble_eq_true rfl)
  · skip
    replace h19 : vi 19 = 97 := h19.trans eL
    have h9 := itm_st (n := n) (op := op) (hi := 63) eL (by decide) rfl
    rw [hi] at h9
    refine j_aload_n F 0 dX10_readsItem_0 rfl ?_
    refine j_getf F fX10_171 0 (v := .int (vi 19)) rfl rfl dX10_readsItem_1 ?_
    refine j_top 97 h19 ?_
    refine j_istore_n F 2 [(2, .int 97), (0, .ref (ad 0)), (1, .int (nI op))] dX10_readsItem_4 rfl (by decide) rfl ?_
    refine j_aload_n F 1 dX10_readsItem_5 rfl ?_
    refine j_getf F fX10_168 0 (v := .int (vi 17)) rfl rfl dX10_readsItem_6 ?_
    refine j_top 1 h17 ?_
    refine j_iconst F (v := 1) dX10_readsItem_9 (by decide) ?_
    refine j_icmp_ne F 35 dX10_readsItem_10 (by decide) (fun c_10 => absurd (by decide) c_10) (fun c_10 => ?_)
    refine j_iload_n F 0 dX10_readsItem_13 rfl ?_
    refine j_bipush F (v := 59) dX10_readsItem_14 (by decide) ?_
    refine j_icmp_eq F 35 dX10_readsItem_16 (by decide) (fun c_16 => absurd c_16 (by decide)) (fun c_16 => ?_)
    refine j_iload_n F 0 dX10_readsItem_19 rfl ?_
    refine j_bipush F (v := 123) dX10_readsItem_20 (by decide) ?_
    refine j_icmp_eq F 35 dX10_readsItem_22 (by decide) (fun c_22 => absurd c_22 (by decide)) (fun c_22 => ?_)
    refine j_iload_n F 0 dX10_readsItem_25 rfl ?_
    refine j_bipush F (v := 125) dX10_readsItem_26 (by decide) ?_
    refine j_icmp_eq F 35 dX10_readsItem_28 (by decide) (fun c_28 => absurd c_28 (by decide)) (fun c_28 => ?_)
    refine j_iconst F (v := 1) dX10_readsItem_31 (by decide) ?_
    refine j_goto F 36 dX10_readsItem_32 (by decide) ?_
    refine j_istore_n F 3 [(3, .int 1), (2, .int 97), (0, .ref (ad 0)), (1, .int (nI op))] dX10_readsItem_36 rfl (by decide) rfl ?_
    refine j_iload_n F 0 dX10_readsItem_37 rfl ?_
    refine j_if_ne F 43 dX10_readsItem_38 (by decide) (fun c_38 => ?_) (fun c_38 => absurd c_38 (by decide))
    refine j_aload_n F 2 dX10_readsItem_43 rfl ?_
    refine j_scallV F kX10_180 (As := []) (rest := []) (c_X10_reads l D ay ad vi ga n (q + 1) (show vi 16 = nI n from h16) (show n ≤ 300 from hn) (show vi 20 = nI (q + 1) from h20) (show (q + 1) ≤ n from by omega)) 0 0 20 rfl rfl rfl rfl rfl rfl ⟨Nat.le_of_ble_eq_true rfl, Nat.le_of_ble_eq_true rfl⟩ dX10_readsItem_44 (fun v w hw => ?_)
    obtain ⟨tk_44, va_44, pb_44, h44_0, rfl, rfl⟩ := hw
    replace h44_0 : TK (ga 10) n (sk (ga 10) n (q + 1)) tk_44 va_44 pb_44 := h44_0
    refine ⟨rfl, (mW ay ad (ups (ups (ups (ups vi 17 tk_44) 18 (nI (sk (ga 10) n (q + 1)))) 19 va_44) 20 pb_44) ga), (slp_all _ _ rfl).trans rfl, ?_⟩
    have hr : rdOK (ga 10) n (sk (ga 10) n (q + 1)) 0 63 := by
      refine Decidable.byContradiction fun hr => ?_
      rw [if_neg hr] at h9; exact inr_a h9.symm
    rw [if_pos hr] at h9
    obtain ⟨hn1, hn2⟩ := (tk_num h44_0).mpr hr
    obtain ⟨hv1, hv2, hv3⟩ := tk_val h44_0 hn1
    refine j_aload_n F 2 dX10_readsItem_47 rfl ?_
    refine j_iload_n F 1 dX10_readsItem_48 rfl ?_
    refine j_bipush F (v := 120) dX10_readsItem_49 (by decide) ?_
    refine j_icmp_ne F 58 dX10_readsItem_51 (by decide) (fun c_51 => ?_) (fun c_51 => absurd c_51 (by decide))
    refine j_iconst F (v := 0) dX10_readsItem_58 (by decide) ?_
    refine j_iload_n F 1 dX10_readsItem_59 rfl ?_
    refine j_bipush F (v := 120) dX10_readsItem_60 (by decide) ?_
    refine j_icmp_ne F 70 dX10_readsItem_62 (by decide) (fun c_62 => ?_) (fun c_62 => absurd c_62 (by decide))
    refine j_iload_n F 1 dX10_readsItem_70 rfl ?_
    refine j_bipush F (v := 99) dX10_readsItem_71 (by decide) ?_
    refine j_icmp_ne F 82 dX10_readsItem_73 (by decide) (fun c_73 => ?_) (fun c_73 => absurd c_73 (by decide))
    refine j_bipush F (v := 63) dX10_readsItem_82 (by decide) ?_
    refine j_scallV F kX10_183 (As := [.int 0, .int 63]) (rest := []) (c_X10_takesNumber_yes l D ay ad (ups (ups (ups (ups vi 17 tk_44) 18 (nI (sk (ga 10) n (q + 1)))) 19 va_44) 20 pb_44) ga 0 63 n (sk (ga 10) n (q + 1) + dg (ga 10) n (sk (ga 10) n (q + 1))) m (show tk_44 = 2 from hn1) (show ¬ oob (va_44) 0 63 from hn2) (show vi 23 = nI m from h23) (show m < 300 from by omega) (show vi 16 = nI n from h16) (show n ≤ 300 from hn) (show pb_44 = nI (sk (ga 10) n (q + 1) + dg (ga 10) n (sk (ga 10) n (q + 1))) from hv2) (show (sk (ga 10) n (q + 1) + dg (ga 10) n (sk (ga 10) n (q + 1))) ≤ n from hv3)) 0 0 20 rfl rfl rfl rfl rfl rfl ⟨Nat.le_of_ble_eq_true rfl, Nat.le_of_ble_eq_true rfl⟩ dX10_readsItem_84 (fun v w hw => ?_)
    obtain ⟨tk_84, va_84, pb_84, h84_0, rfl, rfl⟩ := hw
    replace h84_0 : TK (ga 10) n (sk (ga 10) n (sk (ga 10) n (q + 1) + dg (ga 10) n (sk (ga 10) n (q + 1)))) tk_84 va_84 pb_84 := h84_0
    refine ⟨rfl, (mW ay ad (ups (ups (ups (ups vi 17 tk_84) 18 (nI (sk (ga 10) n (sk (ga 10) n (q + 1) + dg (ga 10) n (sk (ga 10) n (q + 1)))))) 19 va_84) 20 pb_84) (ups ga 12 (upd (ga 12) m (va_44)))), (slp_all _ _ rfl).trans rfl, ?_⟩
    refine j_top 1 rfl ?_
    refine j_if_ne F 92 dX10_readsItem_87 (by decide) (fun c_87 => ?_) (fun c_87 => absurd c_87 (by decide))
    replace h84_0 : TK (ga 10) n (nx (ga 10) n (sk (ga 10) n (q + 1))) tk_84 va_84 pb_84 := h84_0
    have hb : btA (ga 10) n (nx (ga 10) n (sk (ga 10) n (q + 1))) = 59 := by
      refine Decidable.byContradiction fun hb => ?_
      rw [if_neg hb] at h9; exact inr_a h9.symm
    rw [if_pos hb] at h9
    have hs := (tk_sign h84_0 (b := 59) (by decide)).mpr hb
    obtain ⟨hpb, hpq, -, -⟩ := tk_pb h84_0 hs.1
    have h8 := Sum.inl.inj h9
    obtain ⟨rfl, rfl, rfl⟩ : kd = _ ∧ x = _ ∧ p2 = _ := ⟨congrArg (·.1) h8, congrArg (·.2.1) h8, congrArg (·.2.2) h8⟩
    refine j_aload_n F 2 dX10_readsItem_92 rfl ?_
    refine j_iload_n F 1 dX10_readsItem_93 rfl ?_
    refine j_bipush F (v := 120) dX10_readsItem_94 (by decide) ?_
    refine j_icmp_ne F 104 dX10_readsItem_96 (by decide) (fun c_96 => ?_) (fun c_96 => absurd c_96 (by decide))
    refine j_bipush F (v := 59) dX10_readsItem_104 (by decide) ?_
    refine j_scallV F kX10_186 (As := [.int 59]) (rest := []) (c_X10_isSignNow_yes l D ay ad (ups (ups (ups (ups vi 17 tk_84) 18 (nI (sk (ga 10) n (sk (ga 10) n (q + 1) + dg (ga 10) n (sk (ga 10) n (q + 1)))))) 19 va_84) 20 pb_84) (ups ga 12 (upd (ga 12) m (va_44))) 59 (show tk_84 = 1 ∧ va_84 = 59 from hs)) 0 0 20 rfl rfl rfl rfl rfl rfl ⟨Nat.le_of_ble_eq_true rfl, Nat.le_of_ble_eq_true rfl⟩ dX10_readsItem_106 (fun v w hw => ?_)
    obtain ⟨rfl, rfl⟩ := hw
    refine ⟨rfl, (mW ay ad (ups (ups (ups (ups vi 17 tk_84) 18 (nI (sk (ga 10) n (sk (ga 10) n (q + 1) + dg (ga 10) n (sk (ga 10) n (q + 1)))))) 19 va_84) 20 pb_84) (ups ga 12 (upd (ga 12) m (va_44)))), (slp_all _ _ rfl).trans rfl, ?_⟩
    refine j_top 1 rfl ?_
    refine j_if_eq F 123 dX10_readsItem_109 (by decide) (fun c_109 => absurd c_109 (by decide)) (fun c_109 => ?_)
    refine j_iload_n F 1 dX10_readsItem_112 rfl ?_
    refine j_bipush F (v := 120) dX10_readsItem_113 (by decide) ?_
    refine j_icmp_ne F 125 dX10_readsItem_115 (by decide) (fun c_115 => ?_) (fun c_115 => absurd c_115 (by decide))
    refine j_aload_n F 2 dX10_readsItem_125 rfl ?_
    refine j_getf F fX10_54 0 (v := .ref (ad 12)) rfl rfl dX10_readsItem_126 ?_
    refine j_aload_n F 2 dX10_readsItem_129 rfl ?_
    refine j_getf F fX10_177 0 (v := .int (vi 23)) rfl rfl dX10_readsItem_130 ?_
    refine j_top (nI m) h23 ?_
    refine j_iload_n F 1 dX10_readsItem_133 rfl ?_
    refine j_iast F 12 (mW ay ad (ups (ups (ups (ups vi 17 tk_84) 18 (nI (sk (ga 10) n (sk (ga 10) n (q + 1) + dg (ga 10) n (sk (ga 10) n (q + 1)))))) 19 va_84) 20 pb_84) (ups (ups ga 11 (upd (ga 11) m 97)) 12 (upd (ga 12) m (va_44)))) m rfl rfl (by omega) (Nat.le_of_ble_eq_true rfl) rfl dX10_readsItem_134 ?_
    refine j_aload_n F 2 dX10_readsItem_135 rfl ?_
    refine j_dup F dX10_readsItem_136 rfl ?_
    refine j_getf F fX10_177 0 (v := .int (vi 23)) rfl rfl dX10_readsItem_137 ?_
    refine j_top (nI m) h23 ?_
    refine j_iconst F (v := 1) dX10_readsItem_140 (by decide) ?_
    refine j_iadd F dX10_readsItem_141 ?_
    refine j_top (nI (m + 1)) (nI_add _ _) ?_
    refine j_putf F fX10_177 0 (mW ay ad (ups (ups (ups (ups (ups vi 17 tk_84) 18 (nI (sk (ga 10) n (sk (ga 10) n (q + 1) + dg (ga 10) n (sk (ga 10) n (q + 1)))))) 19 va_84) 20 pb_84) 23 (nI (m + 1))) (ups (ups ga 11 (upd (ga 11) m 97)) 12 (upd (ga 12) m (va_44)))) rfl rfl rfl rfl rfl (Nat.le_of_ble_eq_true rfl) dX10_readsItem_142 ?_
    refine j_aload_n F 2 dX10_readsItem_145 rfl ?_
    refine j_scallV F kX10_180 (As := []) (rest := []) (c_X10_reads l D ay ad (ups (ups (ups (ups (ups vi 17 tk_84) 18 (nI (sk (ga 10) n (sk (ga 10) n (q + 1) + dg (ga 10) n (sk (ga 10) n (q + 1)))))) 19 va_84) 20 pb_84) 23 (nI (m + 1))) (ups (ups ga 11 (upd (ga 11) m 97)) 12 (upd (ga 12) m (va_44))) n (nx (ga 10) n (sk (ga 10) n (q + 1)) + 1) (show vi 16 = nI n from h16) (show n ≤ 300 from hn) (show pb_84 = nI (nx (ga 10) n (sk (ga 10) n (q + 1)) + 1) from hpb) (show (nx (ga 10) n (sk (ga 10) n (q + 1)) + 1) ≤ n from by omega)) 0 0 20 rfl rfl rfl rfl rfl rfl ⟨Nat.le_of_ble_eq_true rfl, Nat.le_of_ble_eq_true rfl⟩ dX10_readsItem_146 (fun v w hw => ?_)
    obtain ⟨tk_146, va_146, pb_146, h146_0, rfl, rfl⟩ := hw
    replace h146_0 : TK (ga 10) n (sk (ga 10) n (nx (ga 10) n (sk (ga 10) n (q + 1)) + 1)) tk_146 va_146 pb_146 := h146_0
    refine ⟨rfl, (mW ay ad (ups (ups (ups (ups (ups vi 17 tk_146) 18 (nI (sk (ga 10) n (nx (ga 10) n (sk (ga 10) n (q + 1)) + 1)))) 19 va_146) 20 pb_146) 23 (nI (m + 1))) (ups (ups ga 11 (upd (ga 11) m 97)) 12 (upd (ga 12) m (va_44)))), (slp_all _ _ rfl).trans rfl, ?_⟩
    refine j_iconst F (v := 1) dX10_readsItem_149 (by decide) ?_
    exact j_zret F (Or.inr rfl) ⟨tk_146, va_146, pb_146, h146_0, rfl, by rw [hv1]⟩ dX10_readsItem_150 (Nat.le_of_ble_eq_true rfl) (Nat.le_of_ble_eq_true rfl)
  · skip
    replace h19 : vi 19 = 99 := h19.trans eL
    have h9 := itm_st (n := n) (op := op) (hi := 999) eL (by decide) rfl
    rw [hi] at h9
    refine j_aload_n F 0 dX10_readsItem_0 rfl ?_
    refine j_getf F fX10_171 0 (v := .int (vi 19)) rfl rfl dX10_readsItem_1 ?_
    refine j_top 99 h19 ?_
    refine j_istore_n F 2 [(2, .int 99), (0, .ref (ad 0)), (1, .int (nI op))] dX10_readsItem_4 rfl (by decide) rfl ?_
    refine j_aload_n F 1 dX10_readsItem_5 rfl ?_
    refine j_getf F fX10_168 0 (v := .int (vi 17)) rfl rfl dX10_readsItem_6 ?_
    refine j_top 1 h17 ?_
    refine j_iconst F (v := 1) dX10_readsItem_9 (by decide) ?_
    refine j_icmp_ne F 35 dX10_readsItem_10 (by decide) (fun c_10 => absurd (by decide) c_10) (fun c_10 => ?_)
    refine j_iload_n F 0 dX10_readsItem_13 rfl ?_
    refine j_bipush F (v := 59) dX10_readsItem_14 (by decide) ?_
    refine j_icmp_eq F 35 dX10_readsItem_16 (by decide) (fun c_16 => absurd c_16 (by decide)) (fun c_16 => ?_)
    refine j_iload_n F 0 dX10_readsItem_19 rfl ?_
    refine j_bipush F (v := 123) dX10_readsItem_20 (by decide) ?_
    refine j_icmp_eq F 35 dX10_readsItem_22 (by decide) (fun c_22 => absurd c_22 (by decide)) (fun c_22 => ?_)
    refine j_iload_n F 0 dX10_readsItem_25 rfl ?_
    refine j_bipush F (v := 125) dX10_readsItem_26 (by decide) ?_
    refine j_icmp_eq F 35 dX10_readsItem_28 (by decide) (fun c_28 => absurd c_28 (by decide)) (fun c_28 => ?_)
    refine j_iconst F (v := 1) dX10_readsItem_31 (by decide) ?_
    refine j_goto F 36 dX10_readsItem_32 (by decide) ?_
    refine j_istore_n F 3 [(3, .int 1), (2, .int 99), (0, .ref (ad 0)), (1, .int (nI op))] dX10_readsItem_36 rfl (by decide) rfl ?_
    refine j_iload_n F 0 dX10_readsItem_37 rfl ?_
    refine j_if_ne F 43 dX10_readsItem_38 (by decide) (fun c_38 => ?_) (fun c_38 => absurd c_38 (by decide))
    refine j_aload_n F 2 dX10_readsItem_43 rfl ?_
    refine j_scallV F kX10_180 (As := []) (rest := []) (c_X10_reads l D ay ad vi ga n (q + 1) (show vi 16 = nI n from h16) (show n ≤ 300 from hn) (show vi 20 = nI (q + 1) from h20) (show (q + 1) ≤ n from by omega)) 0 0 20 rfl rfl rfl rfl rfl rfl ⟨Nat.le_of_ble_eq_true rfl, Nat.le_of_ble_eq_true rfl⟩ dX10_readsItem_44 (fun v w hw => ?_)
    obtain ⟨tk_44, va_44, pb_44, h44_0, rfl, rfl⟩ := hw
    replace h44_0 : TK (ga 10) n (sk (ga 10) n (q + 1)) tk_44 va_44 pb_44 := h44_0
    refine ⟨rfl, (mW ay ad (ups (ups (ups (ups vi 17 tk_44) 18 (nI (sk (ga 10) n (q + 1)))) 19 va_44) 20 pb_44) ga), (slp_all _ _ rfl).trans rfl, ?_⟩
    have hr : rdOK (ga 10) n (sk (ga 10) n (q + 1)) 0 999 := by
      refine Decidable.byContradiction fun hr => ?_
      rw [if_neg hr] at h9; exact inr_a h9.symm
    rw [if_pos hr] at h9
    obtain ⟨hn1, hn2⟩ := (tk_num h44_0).mpr hr
    obtain ⟨hv1, hv2, hv3⟩ := tk_val h44_0 hn1
    refine j_aload_n F 2 dX10_readsItem_47 rfl ?_
    refine j_iload_n F 1 dX10_readsItem_48 rfl ?_
    refine j_bipush F (v := 120) dX10_readsItem_49 (by decide) ?_
    refine j_icmp_ne F 58 dX10_readsItem_51 (by decide) (fun c_51 => ?_) (fun c_51 => absurd c_51 (by decide))
    refine j_iconst F (v := 0) dX10_readsItem_58 (by decide) ?_
    refine j_iload_n F 1 dX10_readsItem_59 rfl ?_
    refine j_bipush F (v := 120) dX10_readsItem_60 (by decide) ?_
    refine j_icmp_ne F 70 dX10_readsItem_62 (by decide) (fun c_62 => ?_) (fun c_62 => absurd c_62 (by decide))
    refine j_iload_n F 1 dX10_readsItem_70 rfl ?_
    refine j_bipush F (v := 99) dX10_readsItem_71 (by decide) ?_
    refine j_icmp_ne F 82 dX10_readsItem_73 (by decide) (fun c_73 => absurd (by decide) c_73) (fun c_73 => ?_)
    refine j_sipush F (v := 999) dX10_readsItem_76 (by decide) ?_
    refine j_goto F 84 dX10_readsItem_79 (by decide) ?_
    refine j_scallV F kX10_183 (As := [.int 0, .int 999]) (rest := []) (c_X10_takesNumber_yes l D ay ad (ups (ups (ups (ups vi 17 tk_44) 18 (nI (sk (ga 10) n (q + 1)))) 19 va_44) 20 pb_44) ga 0 999 n (sk (ga 10) n (q + 1) + dg (ga 10) n (sk (ga 10) n (q + 1))) m (show tk_44 = 2 from hn1) (show ¬ oob (va_44) 0 999 from hn2) (show vi 23 = nI m from h23) (show m < 300 from by omega) (show vi 16 = nI n from h16) (show n ≤ 300 from hn) (show pb_44 = nI (sk (ga 10) n (q + 1) + dg (ga 10) n (sk (ga 10) n (q + 1))) from hv2) (show (sk (ga 10) n (q + 1) + dg (ga 10) n (sk (ga 10) n (q + 1))) ≤ n from hv3)) 0 0 20 rfl rfl rfl rfl rfl rfl ⟨Nat.le_of_ble_eq_true rfl, Nat.le_of_ble_eq_true rfl⟩ dX10_readsItem_84 (fun v w hw => ?_)
    obtain ⟨tk_84, va_84, pb_84, h84_0, rfl, rfl⟩ := hw
    replace h84_0 : TK (ga 10) n (sk (ga 10) n (sk (ga 10) n (q + 1) + dg (ga 10) n (sk (ga 10) n (q + 1)))) tk_84 va_84 pb_84 := h84_0
    refine ⟨rfl, (mW ay ad (ups (ups (ups (ups vi 17 tk_84) 18 (nI (sk (ga 10) n (sk (ga 10) n (q + 1) + dg (ga 10) n (sk (ga 10) n (q + 1)))))) 19 va_84) 20 pb_84) (ups ga 12 (upd (ga 12) m (va_44)))), (slp_all _ _ rfl).trans rfl, ?_⟩
    refine j_top 1 rfl ?_
    refine j_if_ne F 92 dX10_readsItem_87 (by decide) (fun c_87 => ?_) (fun c_87 => absurd c_87 (by decide))
    replace h84_0 : TK (ga 10) n (nx (ga 10) n (sk (ga 10) n (q + 1))) tk_84 va_84 pb_84 := h84_0
    have hb : btA (ga 10) n (nx (ga 10) n (sk (ga 10) n (q + 1))) = 59 := by
      refine Decidable.byContradiction fun hb => ?_
      rw [if_neg hb] at h9; exact inr_a h9.symm
    rw [if_pos hb] at h9
    have hs := (tk_sign h84_0 (b := 59) (by decide)).mpr hb
    obtain ⟨hpb, hpq, -, -⟩ := tk_pb h84_0 hs.1
    have h8 := Sum.inl.inj h9
    obtain ⟨rfl, rfl, rfl⟩ : kd = _ ∧ x = _ ∧ p2 = _ := ⟨congrArg (·.1) h8, congrArg (·.2.1) h8, congrArg (·.2.2) h8⟩
    refine j_aload_n F 2 dX10_readsItem_92 rfl ?_
    refine j_iload_n F 1 dX10_readsItem_93 rfl ?_
    refine j_bipush F (v := 120) dX10_readsItem_94 (by decide) ?_
    refine j_icmp_ne F 104 dX10_readsItem_96 (by decide) (fun c_96 => ?_) (fun c_96 => absurd c_96 (by decide))
    refine j_bipush F (v := 59) dX10_readsItem_104 (by decide) ?_
    refine j_scallV F kX10_186 (As := [.int 59]) (rest := []) (c_X10_isSignNow_yes l D ay ad (ups (ups (ups (ups vi 17 tk_84) 18 (nI (sk (ga 10) n (sk (ga 10) n (q + 1) + dg (ga 10) n (sk (ga 10) n (q + 1)))))) 19 va_84) 20 pb_84) (ups ga 12 (upd (ga 12) m (va_44))) 59 (show tk_84 = 1 ∧ va_84 = 59 from hs)) 0 0 20 rfl rfl rfl rfl rfl rfl ⟨Nat.le_of_ble_eq_true rfl, Nat.le_of_ble_eq_true rfl⟩ dX10_readsItem_106 (fun v w hw => ?_)
    obtain ⟨rfl, rfl⟩ := hw
    refine ⟨rfl, (mW ay ad (ups (ups (ups (ups vi 17 tk_84) 18 (nI (sk (ga 10) n (sk (ga 10) n (q + 1) + dg (ga 10) n (sk (ga 10) n (q + 1)))))) 19 va_84) 20 pb_84) (ups ga 12 (upd (ga 12) m (va_44)))), (slp_all _ _ rfl).trans rfl, ?_⟩
    refine j_top 1 rfl ?_
    refine j_if_eq F 123 dX10_readsItem_109 (by decide) (fun c_109 => absurd c_109 (by decide)) (fun c_109 => ?_)
    refine j_iload_n F 1 dX10_readsItem_112 rfl ?_
    refine j_bipush F (v := 120) dX10_readsItem_113 (by decide) ?_
    refine j_icmp_ne F 125 dX10_readsItem_115 (by decide) (fun c_115 => ?_) (fun c_115 => absurd c_115 (by decide))
    refine j_aload_n F 2 dX10_readsItem_125 rfl ?_
    refine j_getf F fX10_54 0 (v := .ref (ad 12)) rfl rfl dX10_readsItem_126 ?_
    refine j_aload_n F 2 dX10_readsItem_129 rfl ?_
    refine j_getf F fX10_177 0 (v := .int (vi 23)) rfl rfl dX10_readsItem_130 ?_
    refine j_top (nI m) h23 ?_
    refine j_iload_n F 1 dX10_readsItem_133 rfl ?_
    refine j_iast F 12 (mW ay ad (ups (ups (ups (ups vi 17 tk_84) 18 (nI (sk (ga 10) n (sk (ga 10) n (q + 1) + dg (ga 10) n (sk (ga 10) n (q + 1)))))) 19 va_84) 20 pb_84) (ups (ups ga 11 (upd (ga 11) m 99)) 12 (upd (ga 12) m (va_44)))) m rfl rfl (by omega) (Nat.le_of_ble_eq_true rfl) rfl dX10_readsItem_134 ?_
    refine j_aload_n F 2 dX10_readsItem_135 rfl ?_
    refine j_dup F dX10_readsItem_136 rfl ?_
    refine j_getf F fX10_177 0 (v := .int (vi 23)) rfl rfl dX10_readsItem_137 ?_
    refine j_top (nI m) h23 ?_
    refine j_iconst F (v := 1) dX10_readsItem_140 (by decide) ?_
    refine j_iadd F dX10_readsItem_141 ?_
    refine j_top (nI (m + 1)) (nI_add _ _) ?_
    refine j_putf F fX10_177 0 (mW ay ad (ups (ups (ups (ups (ups vi 17 tk_84) 18 (nI (sk (ga 10) n (sk (ga 10) n (q + 1) + dg (ga 10) n (sk (ga 10) n (q + 1)))))) 19 va_84) 20 pb_84) 23 (nI (m + 1))) (ups (ups ga 11 (upd (ga 11) m 99)) 12 (upd (ga 12) m (va_44)))) rfl rfl rfl rfl rfl (Nat.le_of_ble_eq_true rfl) dX10_readsItem_142 ?_
    refine j_aload_n F 2 dX10_readsItem_145 rfl ?_
    refine j_scallV F kX10_180 (As := []) (rest := []) (c_X10_reads l D ay ad (ups (ups (ups (ups (ups vi 17 tk_84) 18 (nI (sk (ga 10) n (sk (ga 10) n (q + 1) + dg (ga 10) n (sk (ga 10) n (q + 1)))))) 19 va_84) 20 pb_84) 23 (nI (m + 1))) (ups (ups ga 11 (upd (ga 11) m 99)) 12 (upd (ga 12) m (va_44))) n (nx (ga 10) n (sk (ga 10) n (q + 1)) + 1) (show vi 16 = nI n from h16) (show n ≤ 300 from hn) (show pb_84 = nI (nx (ga 10) n (sk (ga 10) n (q + 1)) + 1) from hpb) (show (nx (ga 10) n (sk (ga 10) n (q + 1)) + 1) ≤ n from by omega)) 0 0 20 rfl rfl rfl rfl rfl rfl ⟨Nat.le_of_ble_eq_true rfl, Nat.le_of_ble_eq_true rfl⟩ dX10_readsItem_146 (fun v w hw => ?_)
    obtain ⟨tk_146, va_146, pb_146, h146_0, rfl, rfl⟩ := hw
    replace h146_0 : TK (ga 10) n (sk (ga 10) n (nx (ga 10) n (sk (ga 10) n (q + 1)) + 1)) tk_146 va_146 pb_146 := h146_0
    refine ⟨rfl, (mW ay ad (ups (ups (ups (ups (ups vi 17 tk_146) 18 (nI (sk (ga 10) n (nx (ga 10) n (sk (ga 10) n (q + 1)) + 1)))) 19 va_146) 20 pb_146) 23 (nI (m + 1))) (ups (ups ga 11 (upd (ga 11) m 99)) 12 (upd (ga 12) m (va_44)))), (slp_all _ _ rfl).trans rfl, ?_⟩
    refine j_iconst F (v := 1) dX10_readsItem_149 (by decide) ?_
    exact j_zret F (Or.inr rfl) ⟨tk_146, va_146, pb_146, h146_0, rfl, by rw [hv1]⟩ dX10_readsItem_150 (Nat.le_of_ble_eq_true rfl) (Nat.le_of_ble_eq_true rfl)
  · skip
    replace h19 : vi 19 = 120 := h19.trans eL
    have h9 := itm_lp (n := n) (op := op) eL
    rw [hi] at h9
    refine j_aload_n F 0 dX10_readsItem_0 rfl ?_
    refine j_getf F fX10_171 0 (v := .int (vi 19)) rfl rfl dX10_readsItem_1 ?_
    refine j_top 120 h19 ?_
    refine j_istore_n F 2 [(2, .int 120), (0, .ref (ad 0)), (1, .int (nI op))] dX10_readsItem_4 rfl (by decide) rfl ?_
    refine j_aload_n F 1 dX10_readsItem_5 rfl ?_
    refine j_getf F fX10_168 0 (v := .int (vi 17)) rfl rfl dX10_readsItem_6 ?_
    refine j_top 1 h17 ?_
    refine j_iconst F (v := 1) dX10_readsItem_9 (by decide) ?_
    refine j_icmp_ne F 35 dX10_readsItem_10 (by decide) (fun c_10 => absurd (by decide) c_10) (fun c_10 => ?_)
    refine j_iload_n F 0 dX10_readsItem_13 rfl ?_
    refine j_bipush F (v := 59) dX10_readsItem_14 (by decide) ?_
    refine j_icmp_eq F 35 dX10_readsItem_16 (by decide) (fun c_16 => absurd c_16 (by decide)) (fun c_16 => ?_)
    refine j_iload_n F 0 dX10_readsItem_19 rfl ?_
    refine j_bipush F (v := 123) dX10_readsItem_20 (by decide) ?_
    refine j_icmp_eq F 35 dX10_readsItem_22 (by decide) (fun c_22 => absurd c_22 (by decide)) (fun c_22 => ?_)
    refine j_iload_n F 0 dX10_readsItem_25 rfl ?_
    refine j_bipush F (v := 125) dX10_readsItem_26 (by decide) ?_
    refine j_icmp_eq F 35 dX10_readsItem_28 (by decide) (fun c_28 => absurd c_28 (by decide)) (fun c_28 => ?_)
    refine j_iconst F (v := 1) dX10_readsItem_31 (by decide) ?_
    refine j_goto F 36 dX10_readsItem_32 (by decide) ?_
    refine j_istore_n F 3 [(3, .int 1), (2, .int 120), (0, .ref (ad 0)), (1, .int (nI op))] dX10_readsItem_36 rfl (by decide) rfl ?_
    refine j_iload_n F 0 dX10_readsItem_37 rfl ?_
    refine j_if_ne F 43 dX10_readsItem_38 (by decide) (fun c_38 => ?_) (fun c_38 => absurd c_38 (by decide))
    refine j_aload_n F 2 dX10_readsItem_43 rfl ?_
    refine j_scallV F kX10_180 (As := []) (rest := []) (c_X10_reads l D ay ad vi ga n (q + 1) (show vi 16 = nI n from h16) (show n ≤ 300 from hn) (show vi 20 = nI (q + 1) from h20) (show (q + 1) ≤ n from by omega)) 0 0 20 rfl rfl rfl rfl rfl rfl ⟨Nat.le_of_ble_eq_true rfl, Nat.le_of_ble_eq_true rfl⟩ dX10_readsItem_44 (fun v w hw => ?_)
    obtain ⟨tk_44, va_44, pb_44, h44_0, rfl, rfl⟩ := hw
    replace h44_0 : TK (ga 10) n (sk (ga 10) n (q + 1)) tk_44 va_44 pb_44 := h44_0
    refine ⟨rfl, (mW ay ad (ups (ups (ups (ups vi 17 tk_44) 18 (nI (sk (ga 10) n (q + 1)))) 19 va_44) 20 pb_44) ga), (slp_all _ _ rfl).trans rfl, ?_⟩
    have hr : rdOK (ga 10) n (sk (ga 10) n (q + 1)) 1 9 := by
      refine Decidable.byContradiction fun hr => ?_
      rw [if_neg hr] at h9; exact inr_a h9.symm
    rw [if_pos hr] at h9
    obtain ⟨hn1, hn2⟩ := (tk_num h44_0).mpr hr
    obtain ⟨hv1, hv2, hv3⟩ := tk_val h44_0 hn1
    refine j_aload_n F 2 dX10_readsItem_47 rfl ?_
    refine j_iload_n F 1 dX10_readsItem_48 rfl ?_
    refine j_bipush F (v := 120) dX10_readsItem_49 (by decide) ?_
    refine j_icmp_ne F 58 dX10_readsItem_51 (by decide) (fun c_51 => absurd (by decide) c_51) (fun c_51 => ?_)
    refine j_iconst F (v := 1) dX10_readsItem_54 (by decide) ?_
    refine j_goto F 59 dX10_readsItem_55 (by decide) ?_
    refine j_iload_n F 1 dX10_readsItem_59 rfl ?_
    refine j_bipush F (v := 120) dX10_readsItem_60 (by decide) ?_
    refine j_icmp_ne F 70 dX10_readsItem_62 (by decide) (fun c_62 => absurd (by decide) c_62) (fun c_62 => ?_)
    refine j_bipush F (v := 9) dX10_readsItem_65 (by decide) ?_
    refine j_goto F 84 dX10_readsItem_67 (by decide) ?_
    refine j_scallV F kX10_183 (As := [.int 1, .int 9]) (rest := []) (c_X10_takesNumber_yes l D ay ad (ups (ups (ups (ups vi 17 tk_44) 18 (nI (sk (ga 10) n (q + 1)))) 19 va_44) 20 pb_44) ga 1 9 n (sk (ga 10) n (q + 1) + dg (ga 10) n (sk (ga 10) n (q + 1))) m (show tk_44 = 2 from hn1) (show ¬ oob (va_44) 1 9 from hn2) (show vi 23 = nI m from h23) (show m < 300 from by omega) (show vi 16 = nI n from h16) (show n ≤ 300 from hn) (show pb_44 = nI (sk (ga 10) n (q + 1) + dg (ga 10) n (sk (ga 10) n (q + 1))) from hv2) (show (sk (ga 10) n (q + 1) + dg (ga 10) n (sk (ga 10) n (q + 1))) ≤ n from hv3)) 0 0 20 rfl rfl rfl rfl rfl rfl ⟨Nat.le_of_ble_eq_true rfl, Nat.le_of_ble_eq_true rfl⟩ dX10_readsItem_84 (fun v w hw => ?_)
    obtain ⟨tk_84, va_84, pb_84, h84_0, rfl, rfl⟩ := hw
    replace h84_0 : TK (ga 10) n (sk (ga 10) n (sk (ga 10) n (q + 1) + dg (ga 10) n (sk (ga 10) n (q + 1)))) tk_84 va_84 pb_84 := h84_0
    refine ⟨rfl, (mW ay ad (ups (ups (ups (ups vi 17 tk_84) 18 (nI (sk (ga 10) n (sk (ga 10) n (q + 1) + dg (ga 10) n (sk (ga 10) n (q + 1)))))) 19 va_84) 20 pb_84) (ups ga 12 (upd (ga 12) m (va_44)))), (slp_all _ _ rfl).trans rfl, ?_⟩
    refine j_top 1 rfl ?_
    refine j_if_ne F 92 dX10_readsItem_87 (by decide) (fun c_87 => ?_) (fun c_87 => absurd c_87 (by decide))
    replace h84_0 : TK (ga 10) n (nx (ga 10) n (sk (ga 10) n (q + 1))) tk_84 va_84 pb_84 := h84_0
    have hb : op < 4 ∧ btA (ga 10) n (nx (ga 10) n (sk (ga 10) n (q + 1))) = 123 := by
      refine Decidable.byContradiction fun hb => ?_
      rw [if_neg hb] at h9; exact inr_a h9.symm
    rw [if_pos hb] at h9
    have hs := (tk_sign h84_0 (b := 123) (by decide)).mpr hb.2
    obtain ⟨hpb, hpq, -, -⟩ := tk_pb h84_0 hs.1
    have h8 := Sum.inl.inj h9
    obtain ⟨rfl, rfl, rfl⟩ : kd = _ ∧ x = _ ∧ p2 = _ := ⟨congrArg (·.1) h8, congrArg (·.2.1) h8, congrArg (·.2.2) h8⟩
    refine j_aload_n F 2 dX10_readsItem_92 rfl ?_
    refine j_iload_n F 1 dX10_readsItem_93 rfl ?_
    refine j_bipush F (v := 120) dX10_readsItem_94 (by decide) ?_
    refine j_icmp_ne F 104 dX10_readsItem_96 (by decide) (fun c_96 => absurd (by decide) c_96) (fun c_96 => ?_)
    refine j_bipush F (v := 123) dX10_readsItem_99 (by decide) ?_
    refine j_goto F 106 dX10_readsItem_101 (by decide) ?_
    refine j_scallV F kX10_186 (As := [.int 123]) (rest := []) (c_X10_isSignNow_yes l D ay ad (ups (ups (ups (ups vi 17 tk_84) 18 (nI (sk (ga 10) n (sk (ga 10) n (q + 1) + dg (ga 10) n (sk (ga 10) n (q + 1)))))) 19 va_84) 20 pb_84) (ups ga 12 (upd (ga 12) m (va_44))) 123 (show tk_84 = 1 ∧ va_84 = 123 from hs)) 0 0 20 rfl rfl rfl rfl rfl rfl ⟨Nat.le_of_ble_eq_true rfl, Nat.le_of_ble_eq_true rfl⟩ dX10_readsItem_106 (fun v w hw => ?_)
    obtain ⟨rfl, rfl⟩ := hw
    refine ⟨rfl, (mW ay ad (ups (ups (ups (ups vi 17 tk_84) 18 (nI (sk (ga 10) n (sk (ga 10) n (q + 1) + dg (ga 10) n (sk (ga 10) n (q + 1)))))) 19 va_84) 20 pb_84) (ups ga 12 (upd (ga 12) m (va_44)))), (slp_all _ _ rfl).trans rfl, ?_⟩
    refine j_top 1 rfl ?_
    refine j_if_eq F 123 dX10_readsItem_109 (by decide) (fun c_109 => absurd c_109 (by decide)) (fun c_109 => ?_)
    refine j_iload_n F 1 dX10_readsItem_112 rfl ?_
    refine j_bipush F (v := 120) dX10_readsItem_113 (by decide) ?_
    refine j_icmp_ne F 125 dX10_readsItem_115 (by decide) (fun c_115 => absurd (by decide) c_115) (fun c_115 => ?_)
    refine j_iload_n F 3 dX10_readsItem_118 rfl ?_
    refine j_iconst F (v := 4) dX10_readsItem_119 (by decide) ?_
    refine j_icmp_ne F 125 dX10_readsItem_120 (by decide) (fun c_120 => ?_) (fun c_120 => ?_)
    · skip
      have n_120 := mt (n_eq op 4 rfl rfl (by omega) (by omega)).mpr c_120
      refine j_aload_n F 2 dX10_readsItem_125 rfl ?_
      refine j_getf F fX10_54 0 (v := .ref (ad 12)) rfl rfl dX10_readsItem_126 ?_
      refine j_aload_n F 2 dX10_readsItem_129 rfl ?_
      refine j_getf F fX10_177 0 (v := .int (vi 23)) rfl rfl dX10_readsItem_130 ?_
      refine j_top (nI m) h23 ?_
      refine j_iload_n F 1 dX10_readsItem_133 rfl ?_
      refine j_iast F 12 (mW ay ad (ups (ups (ups (ups vi 17 tk_84) 18 (nI (sk (ga 10) n (sk (ga 10) n (q + 1) + dg (ga 10) n (sk (ga 10) n (q + 1)))))) 19 va_84) 20 pb_84) (ups (ups ga 11 (upd (ga 11) m 120)) 12 (upd (ga 12) m (va_44)))) m rfl rfl (by omega) (Nat.le_of_ble_eq_true rfl) rfl dX10_readsItem_134 ?_
      refine j_aload_n F 2 dX10_readsItem_135 rfl ?_
      refine j_dup F dX10_readsItem_136 rfl ?_
      refine j_getf F fX10_177 0 (v := .int (vi 23)) rfl rfl dX10_readsItem_137 ?_
      refine j_top (nI m) h23 ?_
      refine j_iconst F (v := 1) dX10_readsItem_140 (by decide) ?_
      refine j_iadd F dX10_readsItem_141 ?_
      refine j_top (nI (m + 1)) (nI_add _ _) ?_
      refine j_putf F fX10_177 0 (mW ay ad (ups (ups (ups (ups (ups vi 17 tk_84) 18 (nI (sk (ga 10) n (sk (ga 10) n (q + 1) + dg (ga 10) n (sk (ga 10) n (q + 1)))))) 19 va_84) 20 pb_84) 23 (nI (m + 1))) (ups (ups ga 11 (upd (ga 11) m 120)) 12 (upd (ga 12) m (va_44)))) rfl rfl rfl rfl rfl (Nat.le_of_ble_eq_true rfl) dX10_readsItem_142 ?_
      refine j_aload_n F 2 dX10_readsItem_145 rfl ?_
      refine j_scallV F kX10_180 (As := []) (rest := []) (c_X10_reads l D ay ad (ups (ups (ups (ups (ups vi 17 tk_84) 18 (nI (sk (ga 10) n (sk (ga 10) n (q + 1) + dg (ga 10) n (sk (ga 10) n (q + 1)))))) 19 va_84) 20 pb_84) 23 (nI (m + 1))) (ups (ups ga 11 (upd (ga 11) m 120)) 12 (upd (ga 12) m (va_44))) n (nx (ga 10) n (sk (ga 10) n (q + 1)) + 1) (show vi 16 = nI n from h16) (show n ≤ 300 from hn) (show pb_84 = nI (nx (ga 10) n (sk (ga 10) n (q + 1)) + 1) from hpb) (show (nx (ga 10) n (sk (ga 10) n (q + 1)) + 1) ≤ n from by omega)) 0 0 20 rfl rfl rfl rfl rfl rfl ⟨Nat.le_of_ble_eq_true rfl, Nat.le_of_ble_eq_true rfl⟩ dX10_readsItem_146 (fun v w hw => ?_)
      obtain ⟨tk_146, va_146, pb_146, h146_0, rfl, rfl⟩ := hw
      replace h146_0 : TK (ga 10) n (sk (ga 10) n (nx (ga 10) n (sk (ga 10) n (q + 1)) + 1)) tk_146 va_146 pb_146 := h146_0
      refine ⟨rfl, (mW ay ad (ups (ups (ups (ups (ups vi 17 tk_146) 18 (nI (sk (ga 10) n (nx (ga 10) n (sk (ga 10) n (q + 1)) + 1)))) 19 va_146) 20 pb_146) 23 (nI (m + 1))) (ups (ups ga 11 (upd (ga 11) m 120)) 12 (upd (ga 12) m (va_44)))), (slp_all _ _ rfl).trans rfl, ?_⟩
      refine j_iconst F (v := 1) dX10_readsItem_149 (by decide) ?_
      exact j_zret F (Or.inr rfl) ⟨tk_146, va_146, pb_146, h146_0, rfl, by rw [hv1]⟩ dX10_readsItem_150 (Nat.le_of_ble_eq_true rfl) (Nat.le_of_ble_eq_true rfl)
    · skip
      have n_120 := (n_eq op 4 rfl rfl (by omega) (by omega)).mp c_120
      exact absurd hb.1 (by omega)
  · skip
    replace h19 : vi 19 = 59 := h19.trans eL
    exact inr_a ((itm_o (by rw [eL]; decide) (by rw [eL]; decide) (by rw [eL]; decide)).symm.trans hi)
  · skip
    replace h19 : vi 19 = 123 := h19.trans eL
    exact inr_a ((itm_o (by rw [eL]; decide) (by rw [eL]; decide) (by rw [eL]; decide)).symm.trans hi)
  · skip
    replace h19 : vi 19 = 125 := h19.trans eL
    have h9 := itm_e eL hi
    exact absurd h9.2.1 hk

set_option maxHeartbeats 4000000 in
set_option maxRecDepth 100000 in
theorem c_X10_readsItem_no (l : Launch) (D : va_G) (ay : Nat → ClassId) (ad : Nat → Nat) (vi : Nat → Int32) (ga : Nat → Nat → Int32) (n : Nat) (q : Nat) (m : Nat) (op : Nat) (e : Nat) (hT : TK (ga 10) n q (vi 17) (vi 19) (vi 20)) (h16 : vi 16 = nI n) (hn : n ≤ 300) (hq : q < n) (h23 : vi 23 = nI m) (hm : m ≤ q) (ho : op ≤ 4) (h18 : vi 18 = nI q) (hi : itm (ga 10) n q op = .inr e) : jM l yX10_readsItem (jws yX10_readsItem cX10_readsItem 4 (some .boolean)) 3 65 0 0 D ay [.ref (ad 0), .int (nI op)] (mW ay ad vi ga) (fun v w => ∃ (tk : Int32), ∃ (va : Int32), ∃ (pb : Int32), ∃ (g12 : Nat → Int32), v = some (.int 0) ∧ w = (mW ay ad (ups (ups (ups (ups vi 17 tk) 18 (nI e)) 19 va) 20 pb) (ups ga 12 g12))) := by
  refine jM_of l (by decide) [(0, .ref (ad 0)), (1, .int (nI op))] rfl rfl (fun p9 e9 s9 m9 a9 b9 me9 c9 A9 F => ?_)
  by_cases hL : isS (ga 10 q)
  · skip
    have h17 := tk_isS hT hq hL
    obtain ⟨h20, -, h19, -⟩ := tk_pb hT h17
    have hq1 : sk (ga 10) n (q + 1) ≤ n := sk_le (by omega)
    rcases hL with eL | eL | eL | eL | eL | eL | eL | eL
    · skip
      replace h19 : vi 19 = 108 := h19.trans eL
      have h9 := itm_st (n := n) (op := op) (hi := 63) eL (by decide) rfl
      rw [hi] at h9
      refine j_aload_n F 0 dX10_readsItem_0 rfl ?_
      refine j_getf F fX10_171 0 (v := .int (vi 19)) rfl rfl dX10_readsItem_1 ?_
      refine j_top 108 h19 ?_
      refine j_istore_n F 2 [(2, .int 108), (0, .ref (ad 0)), (1, .int (nI op))] dX10_readsItem_4 rfl (by decide) rfl ?_
      refine j_aload_n F 1 dX10_readsItem_5 rfl ?_
      refine j_getf F fX10_168 0 (v := .int (vi 17)) rfl rfl dX10_readsItem_6 ?_
      refine j_top 1 h17 ?_
      refine j_iconst F (v := 1) dX10_readsItem_9 (by decide) ?_
      refine j_icmp_ne F 35 dX10_readsItem_10 (by decide) (fun c_10 => absurd (by decide) c_10) (fun c_10 => ?_)
      refine j_iload_n F 0 dX10_readsItem_13 rfl ?_
      refine j_bipush F (v := 59) dX10_readsItem_14 (by decide) ?_
      refine j_icmp_eq F 35 dX10_readsItem_16 (by decide) (fun c_16 => absurd c_16 (by decide)) (fun c_16 => ?_)
      refine j_iload_n F 0 dX10_readsItem_19 rfl ?_
      refine j_bipush F (v := 123) dX10_readsItem_20 (by decide) ?_
      refine j_icmp_eq F 35 dX10_readsItem_22 (by decide) (fun c_22 => absurd c_22 (by decide)) (fun c_22 => ?_)
      refine j_iload_n F 0 dX10_readsItem_25 rfl ?_
      refine j_bipush F (v := 125) dX10_readsItem_26 (by decide) ?_
      refine j_icmp_eq F 35 dX10_readsItem_28 (by decide) (fun c_28 => absurd c_28 (by decide)) (fun c_28 => ?_)
      refine j_iconst F (v := 1) dX10_readsItem_31 (by decide) ?_
      refine j_goto F 36 dX10_readsItem_32 (by decide) ?_
      refine j_istore_n F 3 [(3, .int 1), (2, .int 108), (0, .ref (ad 0)), (1, .int (nI op))] dX10_readsItem_36 rfl (by decide) rfl ?_
      refine j_iload_n F 0 dX10_readsItem_37 rfl ?_
      refine j_if_ne F 43 dX10_readsItem_38 (by decide) (fun c_38 => ?_) (fun c_38 => absurd c_38 (by decide))
      refine j_aload_n F 2 dX10_readsItem_43 rfl ?_
      refine j_scallV F kX10_180 (As := []) (rest := []) (c_X10_reads l D ay ad vi ga n (q + 1) (show vi 16 = nI n from h16) (show n ≤ 300 from hn) (show vi 20 = nI (q + 1) from h20) (show (q + 1) ≤ n from by omega)) 0 0 20 rfl rfl rfl rfl rfl rfl ⟨Nat.le_of_ble_eq_true rfl, Nat.le_of_ble_eq_true rfl⟩ dX10_readsItem_44 (fun v w hw => ?_)
      obtain ⟨tk_44, va_44, pb_44, h44_0, rfl, rfl⟩ := hw
      replace h44_0 : TK (ga 10) n (sk (ga 10) n (q + 1)) tk_44 va_44 pb_44 := h44_0
      refine ⟨rfl, (mW ay ad (ups (ups (ups (ups vi 17 tk_44) 18 (nI (sk (ga 10) n (q + 1)))) 19 va_44) 20 pb_44) ga), (slp_all _ _ rfl).trans rfl, ?_⟩
      by_cases hr : rdOK (ga 10) n (sk (ga 10) n (q + 1)) 0 63
      · skip
        rw [if_pos hr] at h9
        obtain ⟨hn1, hn2⟩ := (tk_num h44_0).mpr hr
        obtain ⟨hv1, hv2, hv3⟩ := tk_val h44_0 hn1
        refine j_aload_n F 2 dX10_readsItem_47 rfl ?_
        refine j_iload_n F 1 dX10_readsItem_48 rfl ?_
        refine j_bipush F (v := 120) dX10_readsItem_49 (by decide) ?_
        refine j_icmp_ne F 58 dX10_readsItem_51 (by decide) (fun c_51 => ?_) (fun c_51 => absurd c_51 (by decide))
        refine j_iconst F (v := 0) dX10_readsItem_58 (by decide) ?_
        refine j_iload_n F 1 dX10_readsItem_59 rfl ?_
        refine j_bipush F (v := 120) dX10_readsItem_60 (by decide) ?_
        refine j_icmp_ne F 70 dX10_readsItem_62 (by decide) (fun c_62 => ?_) (fun c_62 => absurd c_62 (by decide))
        refine j_iload_n F 1 dX10_readsItem_70 rfl ?_
        refine j_bipush F (v := 99) dX10_readsItem_71 (by decide) ?_
        refine j_icmp_ne F 82 dX10_readsItem_73 (by decide) (fun c_73 => ?_) (fun c_73 => absurd c_73 (by decide))
        refine j_bipush F (v := 63) dX10_readsItem_82 (by decide) ?_
        refine j_scallV F kX10_183 (As := [.int 0, .int 63]) (rest := []) (c_X10_takesNumber_yes l D ay ad (ups (ups (ups (ups vi 17 tk_44) 18 (nI (sk (ga 10) n (q + 1)))) 19 va_44) 20 pb_44) ga 0 63 n (sk (ga 10) n (q + 1) + dg (ga 10) n (sk (ga 10) n (q + 1))) m (show tk_44 = 2 from hn1) (show ¬ oob (va_44) 0 63 from hn2) (show vi 23 = nI m from h23) (show m < 300 from by omega) (show vi 16 = nI n from h16) (show n ≤ 300 from hn) (show pb_44 = nI (sk (ga 10) n (q + 1) + dg (ga 10) n (sk (ga 10) n (q + 1))) from hv2) (show (sk (ga 10) n (q + 1) + dg (ga 10) n (sk (ga 10) n (q + 1))) ≤ n from hv3)) 0 0 20 rfl rfl rfl rfl rfl rfl ⟨Nat.le_of_ble_eq_true rfl, Nat.le_of_ble_eq_true rfl⟩ dX10_readsItem_84 (fun v w hw => ?_)
        obtain ⟨tk_84, va_84, pb_84, h84_0, rfl, rfl⟩ := hw
        replace h84_0 : TK (ga 10) n (sk (ga 10) n (sk (ga 10) n (q + 1) + dg (ga 10) n (sk (ga 10) n (q + 1)))) tk_84 va_84 pb_84 := h84_0
        refine ⟨rfl, (mW ay ad (ups (ups (ups (ups vi 17 tk_84) 18 (nI (sk (ga 10) n (sk (ga 10) n (q + 1) + dg (ga 10) n (sk (ga 10) n (q + 1)))))) 19 va_84) 20 pb_84) (ups ga 12 (upd (ga 12) m (va_44)))), (slp_all _ _ rfl).trans rfl, ?_⟩
        refine j_top 1 rfl ?_
        refine j_if_ne F 92 dX10_readsItem_87 (by decide) (fun c_87 => ?_) (fun c_87 => absurd c_87 (by decide))
        replace h84_0 : TK (ga 10) n (nx (ga 10) n (sk (ga 10) n (q + 1))) tk_84 va_84 pb_84 := h84_0
        by_cases hb : btA (ga 10) n (nx (ga 10) n (sk (ga 10) n (q + 1))) = 59
        · skip
          have hs := (tk_sign h84_0 (b := 59) (by decide)).mpr hb
          rw [if_pos hb] at h9; exact inl_a h9.symm
        · skip
          have hs := mt (tk_sign h84_0 (b := 59) (by decide)).mp hb
          rw [if_neg hb] at h9
          obtain rfl : e = nx (ga 10) n (sk (ga 10) n (q + 1)) := Sum.inr.inj h9
          refine j_aload_n F 2 dX10_readsItem_92 rfl ?_
          refine j_iload_n F 1 dX10_readsItem_93 rfl ?_
          refine j_bipush F (v := 120) dX10_readsItem_94 (by decide) ?_
          refine j_icmp_ne F 104 dX10_readsItem_96 (by decide) (fun c_96 => ?_) (fun c_96 => absurd c_96 (by decide))
          refine j_bipush F (v := 59) dX10_readsItem_104 (by decide) ?_
          refine j_scallV F kX10_186 (As := [.int 59]) (rest := []) (c_X10_isSignNow_no l D ay ad (ups (ups (ups (ups vi 17 tk_84) 18 (nI (sk (ga 10) n (sk (ga 10) n (q + 1) + dg (ga 10) n (sk (ga 10) n (q + 1)))))) 19 va_84) 20 pb_84) (ups ga 12 (upd (ga 12) m (va_44))) 59 (show ¬ (tk_84 = 1 ∧ va_84 = 59) from hs)) 0 0 20 rfl rfl rfl rfl rfl rfl ⟨Nat.le_of_ble_eq_true rfl, Nat.le_of_ble_eq_true rfl⟩ dX10_readsItem_106 (fun v w hw => ?_)
          obtain ⟨rfl, rfl⟩ := hw
          refine ⟨rfl, (mW ay ad (ups (ups (ups (ups vi 17 tk_84) 18 (nI (sk (ga 10) n (sk (ga 10) n (q + 1) + dg (ga 10) n (sk (ga 10) n (q + 1)))))) 19 va_84) 20 pb_84) (ups ga 12 (upd (ga 12) m (va_44)))), (slp_all _ _ rfl).trans rfl, ?_⟩
          refine j_top 0 rfl ?_
          refine j_if_eq F 123 dX10_readsItem_109 (by decide) (fun c_109 => ?_) (fun c_109 => absurd (by decide) c_109)
          refine j_iconst F (v := 0) dX10_readsItem_123 (by decide) ?_
          exact j_zret F (Or.inl rfl) ⟨tk_84, va_84, pb_84, upd (ga 12) m va_44, rfl, rfl⟩ dX10_readsItem_124 (Nat.le_of_ble_eq_true rfl) (Nat.le_of_ble_eq_true rfl)
      · skip
        rw [if_neg hr] at h9
        have hn0 := mt (tk_num h44_0).mp hr
        obtain rfl : e = sk (ga 10) n (q + 1) := Sum.inr.inj h9
        refine j_aload_n F 2 dX10_readsItem_47 rfl ?_
        refine j_iload_n F 1 dX10_readsItem_48 rfl ?_
        refine j_bipush F (v := 120) dX10_readsItem_49 (by decide) ?_
        refine j_icmp_ne F 58 dX10_readsItem_51 (by decide) (fun c_51 => ?_) (fun c_51 => absurd c_51 (by decide))
        refine j_iconst F (v := 0) dX10_readsItem_58 (by decide) ?_
        refine j_iload_n F 1 dX10_readsItem_59 rfl ?_
        refine j_bipush F (v := 120) dX10_readsItem_60 (by decide) ?_
        refine j_icmp_ne F 70 dX10_readsItem_62 (by decide) (fun c_62 => ?_) (fun c_62 => absurd c_62 (by decide))
        refine j_iload_n F 1 dX10_readsItem_70 rfl ?_
        refine j_bipush F (v := 99) dX10_readsItem_71 (by decide) ?_
        refine j_icmp_ne F 82 dX10_readsItem_73 (by decide) (fun c_73 => ?_) (fun c_73 => absurd c_73 (by decide))
        refine j_bipush F (v := 63) dX10_readsItem_82 (by decide) ?_
        refine j_scallV F kX10_183 (As := [.int 0, .int 63]) (rest := []) (c_X10_takesNumber_no l D ay ad (ups (ups (ups (ups vi 17 tk_44) 18 (nI (sk (ga 10) n (q + 1)))) 19 va_44) 20 pb_44) ga 0 63 (show ¬ (tk_44 = 2 ∧ ¬ oob (va_44) 0 63) from hn0)) 0 0 20 rfl rfl rfl rfl rfl rfl ⟨Nat.le_of_ble_eq_true rfl, Nat.le_of_ble_eq_true rfl⟩ dX10_readsItem_84 (fun v w hw => ?_)
        obtain ⟨rfl, rfl⟩ := hw
        refine ⟨rfl, (mW ay ad (ups (ups (ups (ups vi 17 tk_44) 18 (nI (sk (ga 10) n (q + 1)))) 19 va_44) 20 pb_44) ga), (slp_all _ _ rfl).trans rfl, ?_⟩
        refine j_top 0 rfl ?_
        refine j_if_ne F 92 dX10_readsItem_87 (by decide) (fun c_87 => absurd (by decide) c_87) (fun c_87 => ?_)
        refine j_iconst F (v := 0) dX10_readsItem_90 (by decide) ?_
        exact j_zret F (Or.inl rfl) ⟨tk_44, va_44, pb_44, ga 12, rfl, rfl⟩ dX10_readsItem_91 (Nat.le_of_ble_eq_true rfl) (Nat.le_of_ble_eq_true rfl)
    · skip
      replace h19 : vi 19 = 115 := h19.trans eL
      have h9 := itm_st (n := n) (op := op) (hi := 63) eL (by decide) rfl
      rw [hi] at h9
      refine j_aload_n F 0 dX10_readsItem_0 rfl ?_
      refine j_getf F fX10_171 0 (v := .int (vi 19)) rfl rfl dX10_readsItem_1 ?_
      refine j_top 115 h19 ?_
      refine j_istore_n F 2 [(2, .int 115), (0, .ref (ad 0)), (1, .int (nI op))] dX10_readsItem_4 rfl (by decide) rfl ?_
      refine j_aload_n F 1 dX10_readsItem_5 rfl ?_
      refine j_getf F fX10_168 0 (v := .int (vi 17)) rfl rfl dX10_readsItem_6 ?_
      refine j_top 1 h17 ?_
      refine j_iconst F (v := 1) dX10_readsItem_9 (by decide) ?_
      refine j_icmp_ne F 35 dX10_readsItem_10 (by decide) (fun c_10 => absurd (by decide) c_10) (fun c_10 => ?_)
      refine j_iload_n F 0 dX10_readsItem_13 rfl ?_
      refine j_bipush F (v := 59) dX10_readsItem_14 (by decide) ?_
      refine j_icmp_eq F 35 dX10_readsItem_16 (by decide) (fun c_16 => absurd c_16 (by decide)) (fun c_16 => ?_)
      refine j_iload_n F 0 dX10_readsItem_19 rfl ?_
      refine j_bipush F (v := 123) dX10_readsItem_20 (by decide) ?_
      refine j_icmp_eq F 35 dX10_readsItem_22 (by decide) (fun c_22 => absurd c_22 (by decide)) (fun c_22 => ?_)
      refine j_iload_n F 0 dX10_readsItem_25 rfl ?_
      refine j_bipush F (v := 125) dX10_readsItem_26 (by decide) ?_
      refine j_icmp_eq F 35 dX10_readsItem_28 (by decide) (fun c_28 => absurd c_28 (by decide)) (fun c_28 => ?_)
      refine j_iconst F (v := 1) dX10_readsItem_31 (by decide) ?_
      refine j_goto F 36 dX10_readsItem_32 (by decide) ?_
      refine j_istore_n F 3 [(3, .int 1), (2, .int 115), (0, .ref (ad 0)), (1, .int (nI op))] dX10_readsItem_36 rfl (by decide) rfl ?_
      refine j_iload_n F 0 dX10_readsItem_37 rfl ?_
      refine j_if_ne F 43 dX10_readsItem_38 (by decide) (fun c_38 => ?_) (fun c_38 => absurd c_38 (by decide))
      refine j_aload_n F 2 dX10_readsItem_43 rfl ?_
      refine j_scallV F kX10_180 (As := []) (rest := []) (c_X10_reads l D ay ad vi ga n (q + 1) (show vi 16 = nI n from h16) (show n ≤ 300 from hn) (show vi 20 = nI (q + 1) from h20) (show (q + 1) ≤ n from by omega)) 0 0 20 rfl rfl rfl rfl rfl rfl ⟨Nat.le_of_ble_eq_true rfl, Nat.le_of_ble_eq_true rfl⟩ dX10_readsItem_44 (fun v w hw => ?_)
      obtain ⟨tk_44, va_44, pb_44, h44_0, rfl, rfl⟩ := hw
      replace h44_0 : TK (ga 10) n (sk (ga 10) n (q + 1)) tk_44 va_44 pb_44 := h44_0
      refine ⟨rfl, (mW ay ad (ups (ups (ups (ups vi 17 tk_44) 18 (nI (sk (ga 10) n (q + 1)))) 19 va_44) 20 pb_44) ga), (slp_all _ _ rfl).trans rfl, ?_⟩
      by_cases hr : rdOK (ga 10) n (sk (ga 10) n (q + 1)) 0 63
      · skip
        rw [if_pos hr] at h9
        obtain ⟨hn1, hn2⟩ := (tk_num h44_0).mpr hr
        obtain ⟨hv1, hv2, hv3⟩ := tk_val h44_0 hn1
        refine j_aload_n F 2 dX10_readsItem_47 rfl ?_
        refine j_iload_n F 1 dX10_readsItem_48 rfl ?_
        refine j_bipush F (v := 120) dX10_readsItem_49 (by decide) ?_
        refine j_icmp_ne F 58 dX10_readsItem_51 (by decide) (fun c_51 => ?_) (fun c_51 => absurd c_51 (by decide))
        refine j_iconst F (v := 0) dX10_readsItem_58 (by decide) ?_
        refine j_iload_n F 1 dX10_readsItem_59 rfl ?_
        refine j_bipush F (v := 120) dX10_readsItem_60 (by decide) ?_
        refine j_icmp_ne F 70 dX10_readsItem_62 (by decide) (fun c_62 => ?_) (fun c_62 => absurd c_62 (by decide))
        refine j_iload_n F 1 dX10_readsItem_70 rfl ?_
        refine j_bipush F (v := 99) dX10_readsItem_71 (by decide) ?_
        refine j_icmp_ne F 82 dX10_readsItem_73 (by decide) (fun c_73 => ?_) (fun c_73 => absurd c_73 (by decide))
        refine j_bipush F (v := 63) dX10_readsItem_82 (by decide) ?_
        refine j_scallV F kX10_183 (As := [.int 0, .int 63]) (rest := []) (c_X10_takesNumber_yes l D ay ad (ups (ups (ups (ups vi 17 tk_44) 18 (nI (sk (ga 10) n (q + 1)))) 19 va_44) 20 pb_44) ga 0 63 n (sk (ga 10) n (q + 1) + dg (ga 10) n (sk (ga 10) n (q + 1))) m (show tk_44 = 2 from hn1) (show ¬ oob (va_44) 0 63 from hn2) (show vi 23 = nI m from h23) (show m < 300 from by omega) (show vi 16 = nI n from h16) (show n ≤ 300 from hn) (show pb_44 = nI (sk (ga 10) n (q + 1) + dg (ga 10) n (sk (ga 10) n (q + 1))) from hv2) (show (sk (ga 10) n (q + 1) + dg (ga 10) n (sk (ga 10) n (q + 1))) ≤ n from hv3)) 0 0 20 rfl rfl rfl rfl rfl rfl ⟨Nat.le_of_ble_eq_true rfl, Nat.le_of_ble_eq_true rfl⟩ dX10_readsItem_84 (fun v w hw => ?_)
        obtain ⟨tk_84, va_84, pb_84, h84_0, rfl, rfl⟩ := hw
        replace h84_0 : TK (ga 10) n (sk (ga 10) n (sk (ga 10) n (q + 1) + dg (ga 10) n (sk (ga 10) n (q + 1)))) tk_84 va_84 pb_84 := h84_0
        refine ⟨rfl, (mW ay ad (ups (ups (ups (ups vi 17 tk_84) 18 (nI (sk (ga 10) n (sk (ga 10) n (q + 1) + dg (ga 10) n (sk (ga 10) n (q + 1)))))) 19 va_84) 20 pb_84) (ups ga 12 (upd (ga 12) m (va_44)))), (slp_all _ _ rfl).trans rfl, ?_⟩
        refine j_top 1 rfl ?_
        refine j_if_ne F 92 dX10_readsItem_87 (by decide) (fun c_87 => ?_) (fun c_87 => absurd c_87 (by decide))
        replace h84_0 : TK (ga 10) n (nx (ga 10) n (sk (ga 10) n (q + 1))) tk_84 va_84 pb_84 := h84_0
        by_cases hb : btA (ga 10) n (nx (ga 10) n (sk (ga 10) n (q + 1))) = 59
        · skip
          have hs := (tk_sign h84_0 (b := 59) (by decide)).mpr hb
          rw [if_pos hb] at h9; exact inl_a h9.symm
        · skip
          have hs := mt (tk_sign h84_0 (b := 59) (by decide)).mp hb
          rw [if_neg hb] at h9
          obtain rfl : e = nx (ga 10) n (sk (ga 10) n (q + 1)) := Sum.inr.inj h9
          refine j_aload_n F 2 dX10_readsItem_92 rfl ?_
          refine j_iload_n F 1 dX10_readsItem_93 rfl ?_
          refine j_bipush F (v := 120) dX10_readsItem_94 (by decide) ?_
          refine j_icmp_ne F 104 dX10_readsItem_96 (by decide) (fun c_96 => ?_) (fun c_96 => absurd c_96 (by decide))
          refine j_bipush F (v := 59) dX10_readsItem_104 (by decide) ?_
          refine j_scallV F kX10_186 (As := [.int 59]) (rest := []) (c_X10_isSignNow_no l D ay ad (ups (ups (ups (ups vi 17 tk_84) 18 (nI (sk (ga 10) n (sk (ga 10) n (q + 1) + dg (ga 10) n (sk (ga 10) n (q + 1)))))) 19 va_84) 20 pb_84) (ups ga 12 (upd (ga 12) m (va_44))) 59 (show ¬ (tk_84 = 1 ∧ va_84 = 59) from hs)) 0 0 20 rfl rfl rfl rfl rfl rfl ⟨Nat.le_of_ble_eq_true rfl, Nat.le_of_ble_eq_true rfl⟩ dX10_readsItem_106 (fun v w hw => ?_)
          obtain ⟨rfl, rfl⟩ := hw
          refine ⟨rfl, (mW ay ad (ups (ups (ups (ups vi 17 tk_84) 18 (nI (sk (ga 10) n (sk (ga 10) n (q + 1) + dg (ga 10) n (sk (ga 10) n (q + 1)))))) 19 va_84) 20 pb_84) (ups ga 12 (upd (ga 12) m (va_44)))), (slp_all _ _ rfl).trans rfl, ?_⟩
          refine j_top 0 rfl ?_
          refine j_if_eq F 123 dX10_readsItem_109 (by decide) (fun c_109 => ?_) (fun c_109 => absurd (by decide) c_109)
          refine j_iconst F (v := 0) dX10_readsItem_123 (by decide) ?_
          exact j_zret F (Or.inl rfl) ⟨tk_84, va_84, pb_84, upd (ga 12) m va_44, rfl, rfl⟩ dX10_readsItem_124 (Nat.le_of_ble_eq_true rfl) (Nat.le_of_ble_eq_true rfl)
      · skip
        rw [if_neg hr] at h9
        have hn0 := mt (tk_num h44_0).mp hr
        obtain rfl : e = sk (ga 10) n (q + 1) := Sum.inr.inj h9
        refine j_aload_n F 2 dX10_readsItem_47 rfl ?_
        refine j_iload_n F 1 dX10_readsItem_48 rfl ?_
        refine j_bipush F (v := 120) dX10_readsItem_49 (by decide) ?_
        refine j_icmp_ne F 58 dX10_readsItem_51 (by decide) (fun c_51 => ?_) (fun c_51 => absurd c_51 (by decide))
        refine j_iconst F (v := 0) dX10_readsItem_58 (by decide) ?_
        refine j_iload_n F 1 dX10_readsItem_59 rfl ?_
        refine j_bipush F (v := 120) dX10_readsItem_60 (by decide) ?_
        refine j_icmp_ne F 70 dX10_readsItem_62 (by decide) (fun c_62 => ?_) (fun c_62 => absurd c_62 (by decide))
        refine j_iload_n F 1 dX10_readsItem_70 rfl ?_
        refine j_bipush F (v := 99) dX10_readsItem_71 (by decide) ?_
        refine j_icmp_ne F 82 dX10_readsItem_73 (by decide) (fun c_73 => ?_) (fun c_73 => absurd c_73 (by decide))
        refine j_bipush F (v := 63) dX10_readsItem_82 (by decide) ?_
        refine j_scallV F kX10_183 (As := [.int 0, .int 63]) (rest := []) (c_X10_takesNumber_no l D ay ad (ups (ups (ups (ups vi 17 tk_44) 18 (nI (sk (ga 10) n (q + 1)))) 19 va_44) 20 pb_44) ga 0 63 (show ¬ (tk_44 = 2 ∧ ¬ oob (va_44) 0 63) from hn0)) 0 0 20 rfl rfl rfl rfl rfl rfl ⟨Nat.le_of_ble_eq_true rfl, Nat.le_of_ble_eq_true rfl⟩ dX10_readsItem_84 (fun v w hw => ?_)
        obtain ⟨rfl, rfl⟩ := hw
        refine ⟨rfl, (mW ay ad (ups (ups (ups (ups vi 17 tk_44) 18 (nI (sk (ga 10) n (q + 1)))) 19 va_44) 20 pb_44) ga), (slp_all _ _ rfl).trans rfl, ?_⟩
        refine j_top 0 rfl ?_
        refine j_if_ne F 92 dX10_readsItem_87 (by decide) (fun c_87 => absurd (by decide) c_87) (fun c_87 => ?_)
        refine j_iconst F (v := 0) dX10_readsItem_90 (by decide) ?_
        exact j_zret F (Or.inl rfl) ⟨tk_44, va_44, pb_44, ga 12, rfl, rfl⟩ dX10_readsItem_91 (Nat.le_of_ble_eq_true rfl) (Nat.le_of_ble_eq_true rfl)
    · skip
      replace h19 : vi 19 = 97 := h19.trans eL
      have h9 := itm_st (n := n) (op := op) (hi := 63) eL (by decide) rfl
      rw [hi] at h9
      refine j_aload_n F 0 dX10_readsItem_0 rfl ?_
      refine j_getf F fX10_171 0 (v := .int (vi 19)) rfl rfl dX10_readsItem_1 ?_
      refine j_top 97 h19 ?_
      refine j_istore_n F 2 [(2, .int 97), (0, .ref (ad 0)), (1, .int (nI op))] dX10_readsItem_4 rfl (by decide) rfl ?_
      refine j_aload_n F 1 dX10_readsItem_5 rfl ?_
      refine j_getf F fX10_168 0 (v := .int (vi 17)) rfl rfl dX10_readsItem_6 ?_
      refine j_top 1 h17 ?_
      refine j_iconst F (v := 1) dX10_readsItem_9 (by decide) ?_
      refine j_icmp_ne F 35 dX10_readsItem_10 (by decide) (fun c_10 => absurd (by decide) c_10) (fun c_10 => ?_)
      refine j_iload_n F 0 dX10_readsItem_13 rfl ?_
      refine j_bipush F (v := 59) dX10_readsItem_14 (by decide) ?_
      refine j_icmp_eq F 35 dX10_readsItem_16 (by decide) (fun c_16 => absurd c_16 (by decide)) (fun c_16 => ?_)
      refine j_iload_n F 0 dX10_readsItem_19 rfl ?_
      refine j_bipush F (v := 123) dX10_readsItem_20 (by decide) ?_
      refine j_icmp_eq F 35 dX10_readsItem_22 (by decide) (fun c_22 => absurd c_22 (by decide)) (fun c_22 => ?_)
      refine j_iload_n F 0 dX10_readsItem_25 rfl ?_
      refine j_bipush F (v := 125) dX10_readsItem_26 (by decide) ?_
      refine j_icmp_eq F 35 dX10_readsItem_28 (by decide) (fun c_28 => absurd c_28 (by decide)) (fun c_28 => ?_)
      refine j_iconst F (v := 1) dX10_readsItem_31 (by decide) ?_
      refine j_goto F 36 dX10_readsItem_32 (by decide) ?_
      refine j_istore_n F 3 [(3, .int 1), (2, .int 97), (0, .ref (ad 0)), (1, .int (nI op))] dX10_readsItem_36 rfl (by decide) rfl ?_
      refine j_iload_n F 0 dX10_readsItem_37 rfl ?_
      refine j_if_ne F 43 dX10_readsItem_38 (by decide) (fun c_38 => ?_) (fun c_38 => absurd c_38 (by decide))
      refine j_aload_n F 2 dX10_readsItem_43 rfl ?_
      refine j_scallV F kX10_180 (As := []) (rest := []) (c_X10_reads l D ay ad vi ga n (q + 1) (show vi 16 = nI n from h16) (show n ≤ 300 from hn) (show vi 20 = nI (q + 1) from h20) (show (q + 1) ≤ n from by omega)) 0 0 20 rfl rfl rfl rfl rfl rfl ⟨Nat.le_of_ble_eq_true rfl, Nat.le_of_ble_eq_true rfl⟩ dX10_readsItem_44 (fun v w hw => ?_)
      obtain ⟨tk_44, va_44, pb_44, h44_0, rfl, rfl⟩ := hw
      replace h44_0 : TK (ga 10) n (sk (ga 10) n (q + 1)) tk_44 va_44 pb_44 := h44_0
      refine ⟨rfl, (mW ay ad (ups (ups (ups (ups vi 17 tk_44) 18 (nI (sk (ga 10) n (q + 1)))) 19 va_44) 20 pb_44) ga), (slp_all _ _ rfl).trans rfl, ?_⟩
      by_cases hr : rdOK (ga 10) n (sk (ga 10) n (q + 1)) 0 63
      · skip
        rw [if_pos hr] at h9
        obtain ⟨hn1, hn2⟩ := (tk_num h44_0).mpr hr
        obtain ⟨hv1, hv2, hv3⟩ := tk_val h44_0 hn1
        refine j_aload_n F 2 dX10_readsItem_47 rfl ?_
        refine j_iload_n F 1 dX10_readsItem_48 rfl ?_
        refine j_bipush F (v := 120) dX10_readsItem_49 (by decide) ?_
        refine j_icmp_ne F 58 dX10_readsItem_51 (by decide) (fun c_51 => ?_) (fun c_51 => absurd c_51 (by decide))
        refine j_iconst F (v := 0) dX10_readsItem_58 (by decide) ?_
        refine j_iload_n F 1 dX10_readsItem_59 rfl ?_
        refine j_bipush F (v := 120) dX10_readsItem_60 (by decide) ?_
        refine j_icmp_ne F 70 dX10_readsItem_62 (by decide) (fun c_62 => ?_) (fun c_62 => absurd c_62 (by decide))
        refine j_iload_n F 1 dX10_readsItem_70 rfl ?_
        refine j_bipush F (v := 99) dX10_readsItem_71 (by decide) ?_
        refine j_icmp_ne F 82 dX10_readsItem_73 (by decide) (fun c_73 => ?_) (fun c_73 => absurd c_73 (by decide))
        refine j_bipush F (v := 63) dX10_readsItem_82 (by decide) ?_
        refine j_scallV F kX10_183 (As := [.int 0, .int 63]) (rest := []) (c_X10_takesNumber_yes l D ay ad (ups (ups (ups (ups vi 17 tk_44) 18 (nI (sk (ga 10) n (q + 1)))) 19 va_44) 20 pb_44) ga 0 63 n (sk (ga 10) n (q + 1) + dg (ga 10) n (sk (ga 10) n (q + 1))) m (show tk_44 = 2 from hn1) (show ¬ oob (va_44) 0 63 from hn2) (show vi 23 = nI m from h23) (show m < 300 from by omega) (show vi 16 = nI n from h16) (show n ≤ 300 from hn) (show pb_44 = nI (sk (ga 10) n (q + 1) + dg (ga 10) n (sk (ga 10) n (q + 1))) from hv2) (show (sk (ga 10) n (q + 1) + dg (ga 10) n (sk (ga 10) n (q + 1))) ≤ n from hv3)) 0 0 20 rfl rfl rfl rfl rfl rfl ⟨Nat.le_of_ble_eq_true rfl, Nat.le_of_ble_eq_true rfl⟩ dX10_readsItem_84 (fun v w hw => ?_)
        obtain ⟨tk_84, va_84, pb_84, h84_0, rfl, rfl⟩ := hw
        replace h84_0 : TK (ga 10) n (sk (ga 10) n (sk (ga 10) n (q + 1) + dg (ga 10) n (sk (ga 10) n (q + 1)))) tk_84 va_84 pb_84 := h84_0
        refine ⟨rfl, (mW ay ad (ups (ups (ups (ups vi 17 tk_84) 18 (nI (sk (ga 10) n (sk (ga 10) n (q + 1) + dg (ga 10) n (sk (ga 10) n (q + 1)))))) 19 va_84) 20 pb_84) (ups ga 12 (upd (ga 12) m (va_44)))), (slp_all _ _ rfl).trans rfl, ?_⟩
        refine j_top 1 rfl ?_
        refine j_if_ne F 92 dX10_readsItem_87 (by decide) (fun c_87 => ?_) (fun c_87 => absurd c_87 (by decide))
        replace h84_0 : TK (ga 10) n (nx (ga 10) n (sk (ga 10) n (q + 1))) tk_84 va_84 pb_84 := h84_0
        by_cases hb : btA (ga 10) n (nx (ga 10) n (sk (ga 10) n (q + 1))) = 59
        · skip
          have hs := (tk_sign h84_0 (b := 59) (by decide)).mpr hb
          rw [if_pos hb] at h9; exact inl_a h9.symm
        · skip
          have hs := mt (tk_sign h84_0 (b := 59) (by decide)).mp hb
          rw [if_neg hb] at h9
          obtain rfl : e = nx (ga 10) n (sk (ga 10) n (q + 1)) := Sum.inr.inj h9
          refine j_aload_n F 2 dX10_readsItem_92 rfl ?_
          refine j_iload_n F 1 dX10_readsItem_93 rfl ?_
          refine j_bipush F (v := 120) dX10_readsItem_94 (by decide) ?_
          refine j_icmp_ne F 104 dX10_readsItem_96 (by decide) (fun c_96 => ?_) (fun c_96 => absurd c_96 (by decide))
          refine j_bipush F (v := 59) dX10_readsItem_104 (by decide) ?_
          refine j_scallV F kX10_186 (As := [.int 59]) (rest := []) (c_X10_isSignNow_no l D ay ad (ups (ups (ups (ups vi 17 tk_84) 18 (nI (sk (ga 10) n (sk (ga 10) n (q + 1) + dg (ga 10) n (sk (ga 10) n (q + 1)))))) 19 va_84) 20 pb_84) (ups ga 12 (upd (ga 12) m (va_44))) 59 (show ¬ (tk_84 = 1 ∧ va_84 = 59) from hs)) 0 0 20 rfl rfl rfl rfl rfl rfl ⟨Nat.le_of_ble_eq_true rfl, Nat.le_of_ble_eq_true rfl⟩ dX10_readsItem_106 (fun v w hw => ?_)
          obtain ⟨rfl, rfl⟩ := hw
          refine ⟨rfl, (mW ay ad (ups (ups (ups (ups vi 17 tk_84) 18 (nI (sk (ga 10) n (sk (ga 10) n (q + 1) + dg (ga 10) n (sk (ga 10) n (q + 1)))))) 19 va_84) 20 pb_84) (ups ga 12 (upd (ga 12) m (va_44)))), (slp_all _ _ rfl).trans rfl, ?_⟩
          refine j_top 0 rfl ?_
          refine j_if_eq F 123 dX10_readsItem_109 (by decide) (fun c_109 => ?_) (fun c_109 => absurd (by decide) c_109)
          refine j_iconst F (v := 0) dX10_readsItem_123 (by decide) ?_
          exact j_zret F (Or.inl rfl) ⟨tk_84, va_84, pb_84, upd (ga 12) m va_44, rfl, rfl⟩ dX10_readsItem_124 (Nat.le_of_ble_eq_true rfl) (Nat.le_of_ble_eq_true rfl)
      · skip
        rw [if_neg hr] at h9
        have hn0 := mt (tk_num h44_0).mp hr
        obtain rfl : e = sk (ga 10) n (q + 1) := Sum.inr.inj h9
        refine j_aload_n F 2 dX10_readsItem_47 rfl ?_
        refine j_iload_n F 1 dX10_readsItem_48 rfl ?_
        refine j_bipush F (v := 120) dX10_readsItem_49 (by decide) ?_
        refine j_icmp_ne F 58 dX10_readsItem_51 (by decide) (fun c_51 => ?_) (fun c_51 => absurd c_51 (by decide))
        refine j_iconst F (v := 0) dX10_readsItem_58 (by decide) ?_
        refine j_iload_n F 1 dX10_readsItem_59 rfl ?_
        refine j_bipush F (v := 120) dX10_readsItem_60 (by decide) ?_
        refine j_icmp_ne F 70 dX10_readsItem_62 (by decide) (fun c_62 => ?_) (fun c_62 => absurd c_62 (by decide))
        refine j_iload_n F 1 dX10_readsItem_70 rfl ?_
        refine j_bipush F (v := 99) dX10_readsItem_71 (by decide) ?_
        refine j_icmp_ne F 82 dX10_readsItem_73 (by decide) (fun c_73 => ?_) (fun c_73 => absurd c_73 (by decide))
        refine j_bipush F (v := 63) dX10_readsItem_82 (by decide) ?_
        refine j_scallV F kX10_183 (As := [.int 0, .int 63]) (rest := []) (c_X10_takesNumber_no l D ay ad (ups (ups (ups (ups vi 17 tk_44) 18 (nI (sk (ga 10) n (q + 1)))) 19 va_44) 20 pb_44) ga 0 63 (show ¬ (tk_44 = 2 ∧ ¬ oob (va_44) 0 63) from hn0)) 0 0 20 rfl rfl rfl rfl rfl rfl ⟨Nat.le_of_ble_eq_true rfl, Nat.le_of_ble_eq_true rfl⟩ dX10_readsItem_84 (fun v w hw => ?_)
        obtain ⟨rfl, rfl⟩ := hw
        refine ⟨rfl, (mW ay ad (ups (ups (ups (ups vi 17 tk_44) 18 (nI (sk (ga 10) n (q + 1)))) 19 va_44) 20 pb_44) ga), (slp_all _ _ rfl).trans rfl, ?_⟩
        refine j_top 0 rfl ?_
        refine j_if_ne F 92 dX10_readsItem_87 (by decide) (fun c_87 => absurd (by decide) c_87) (fun c_87 => ?_)
        refine j_iconst F (v := 0) dX10_readsItem_90 (by decide) ?_
        exact j_zret F (Or.inl rfl) ⟨tk_44, va_44, pb_44, ga 12, rfl, rfl⟩ dX10_readsItem_91 (Nat.le_of_ble_eq_true rfl) (Nat.le_of_ble_eq_true rfl)
    · skip
      replace h19 : vi 19 = 99 := h19.trans eL
      have h9 := itm_st (n := n) (op := op) (hi := 999) eL (by decide) rfl
      rw [hi] at h9
      refine j_aload_n F 0 dX10_readsItem_0 rfl ?_
      refine j_getf F fX10_171 0 (v := .int (vi 19)) rfl rfl dX10_readsItem_1 ?_
      refine j_top 99 h19 ?_
      refine j_istore_n F 2 [(2, .int 99), (0, .ref (ad 0)), (1, .int (nI op))] dX10_readsItem_4 rfl (by decide) rfl ?_
      refine j_aload_n F 1 dX10_readsItem_5 rfl ?_
      refine j_getf F fX10_168 0 (v := .int (vi 17)) rfl rfl dX10_readsItem_6 ?_
      refine j_top 1 h17 ?_
      refine j_iconst F (v := 1) dX10_readsItem_9 (by decide) ?_
      refine j_icmp_ne F 35 dX10_readsItem_10 (by decide) (fun c_10 => absurd (by decide) c_10) (fun c_10 => ?_)
      refine j_iload_n F 0 dX10_readsItem_13 rfl ?_
      refine j_bipush F (v := 59) dX10_readsItem_14 (by decide) ?_
      refine j_icmp_eq F 35 dX10_readsItem_16 (by decide) (fun c_16 => absurd c_16 (by decide)) (fun c_16 => ?_)
      refine j_iload_n F 0 dX10_readsItem_19 rfl ?_
      refine j_bipush F (v := 123) dX10_readsItem_20 (by decide) ?_
      refine j_icmp_eq F 35 dX10_readsItem_22 (by decide) (fun c_22 => absurd c_22 (by decide)) (fun c_22 => ?_)
      refine j_iload_n F 0 dX10_readsItem_25 rfl ?_
      refine j_bipush F (v := 125) dX10_readsItem_26 (by decide) ?_
      refine j_icmp_eq F 35 dX10_readsItem_28 (by decide) (fun c_28 => absurd c_28 (by decide)) (fun c_28 => ?_)
      refine j_iconst F (v := 1) dX10_readsItem_31 (by decide) ?_
      refine j_goto F 36 dX10_readsItem_32 (by decide) ?_
      refine j_istore_n F 3 [(3, .int 1), (2, .int 99), (0, .ref (ad 0)), (1, .int (nI op))] dX10_readsItem_36 rfl (by decide) rfl ?_
      refine j_iload_n F 0 dX10_readsItem_37 rfl ?_
      refine j_if_ne F 43 dX10_readsItem_38 (by decide) (fun c_38 => ?_) (fun c_38 => absurd c_38 (by decide))
      refine j_aload_n F 2 dX10_readsItem_43 rfl ?_
      refine j_scallV F kX10_180 (As := []) (rest := []) (c_X10_reads l D ay ad vi ga n (q + 1) (show vi 16 = nI n from h16) (show n ≤ 300 from hn) (show vi 20 = nI (q + 1) from h20) (show (q + 1) ≤ n from by omega)) 0 0 20 rfl rfl rfl rfl rfl rfl ⟨Nat.le_of_ble_eq_true rfl, Nat.le_of_ble_eq_true rfl⟩ dX10_readsItem_44 (fun v w hw => ?_)
      obtain ⟨tk_44, va_44, pb_44, h44_0, rfl, rfl⟩ := hw
      replace h44_0 : TK (ga 10) n (sk (ga 10) n (q + 1)) tk_44 va_44 pb_44 := h44_0
      refine ⟨rfl, (mW ay ad (ups (ups (ups (ups vi 17 tk_44) 18 (nI (sk (ga 10) n (q + 1)))) 19 va_44) 20 pb_44) ga), (slp_all _ _ rfl).trans rfl, ?_⟩
      by_cases hr : rdOK (ga 10) n (sk (ga 10) n (q + 1)) 0 999
      · skip
        rw [if_pos hr] at h9
        obtain ⟨hn1, hn2⟩ := (tk_num h44_0).mpr hr
        obtain ⟨hv1, hv2, hv3⟩ := tk_val h44_0 hn1
        refine j_aload_n F 2 dX10_readsItem_47 rfl ?_
        refine j_iload_n F 1 dX10_readsItem_48 rfl ?_
        refine j_bipush F (v := 120) dX10_readsItem_49 (by decide) ?_
        refine j_icmp_ne F 58 dX10_readsItem_51 (by decide) (fun c_51 => ?_) (fun c_51 => absurd c_51 (by decide))
        refine j_iconst F (v := 0) dX10_readsItem_58 (by decide) ?_
        refine j_iload_n F 1 dX10_readsItem_59 rfl ?_
        refine j_bipush F (v := 120) dX10_readsItem_60 (by decide) ?_
        refine j_icmp_ne F 70 dX10_readsItem_62 (by decide) (fun c_62 => ?_) (fun c_62 => absurd c_62 (by decide))
        refine j_iload_n F 1 dX10_readsItem_70 rfl ?_
        refine j_bipush F (v := 99) dX10_readsItem_71 (by decide) ?_
        refine j_icmp_ne F 82 dX10_readsItem_73 (by decide) (fun c_73 => absurd (by decide) c_73) (fun c_73 => ?_)
        refine j_sipush F (v := 999) dX10_readsItem_76 (by decide) ?_
        refine j_goto F 84 dX10_readsItem_79 (by decide) ?_
        refine j_scallV F kX10_183 (As := [.int 0, .int 999]) (rest := []) (c_X10_takesNumber_yes l D ay ad (ups (ups (ups (ups vi 17 tk_44) 18 (nI (sk (ga 10) n (q + 1)))) 19 va_44) 20 pb_44) ga 0 999 n (sk (ga 10) n (q + 1) + dg (ga 10) n (sk (ga 10) n (q + 1))) m (show tk_44 = 2 from hn1) (show ¬ oob (va_44) 0 999 from hn2) (show vi 23 = nI m from h23) (show m < 300 from by omega) (show vi 16 = nI n from h16) (show n ≤ 300 from hn) (show pb_44 = nI (sk (ga 10) n (q + 1) + dg (ga 10) n (sk (ga 10) n (q + 1))) from hv2) (show (sk (ga 10) n (q + 1) + dg (ga 10) n (sk (ga 10) n (q + 1))) ≤ n from hv3)) 0 0 20 rfl rfl rfl rfl rfl rfl ⟨Nat.le_of_ble_eq_true rfl, Nat.le_of_ble_eq_true rfl⟩ dX10_readsItem_84 (fun v w hw => ?_)
        obtain ⟨tk_84, va_84, pb_84, h84_0, rfl, rfl⟩ := hw
        replace h84_0 : TK (ga 10) n (sk (ga 10) n (sk (ga 10) n (q + 1) + dg (ga 10) n (sk (ga 10) n (q + 1)))) tk_84 va_84 pb_84 := h84_0
        refine ⟨rfl, (mW ay ad (ups (ups (ups (ups vi 17 tk_84) 18 (nI (sk (ga 10) n (sk (ga 10) n (q + 1) + dg (ga 10) n (sk (ga 10) n (q + 1)))))) 19 va_84) 20 pb_84) (ups ga 12 (upd (ga 12) m (va_44)))), (slp_all _ _ rfl).trans rfl, ?_⟩
        refine j_top 1 rfl ?_
        refine j_if_ne F 92 dX10_readsItem_87 (by decide) (fun c_87 => ?_) (fun c_87 => absurd c_87 (by decide))
        replace h84_0 : TK (ga 10) n (nx (ga 10) n (sk (ga 10) n (q + 1))) tk_84 va_84 pb_84 := h84_0
        by_cases hb : btA (ga 10) n (nx (ga 10) n (sk (ga 10) n (q + 1))) = 59
        · skip
          have hs := (tk_sign h84_0 (b := 59) (by decide)).mpr hb
          rw [if_pos hb] at h9; exact inl_a h9.symm
        · skip
          have hs := mt (tk_sign h84_0 (b := 59) (by decide)).mp hb
          rw [if_neg hb] at h9
          obtain rfl : e = nx (ga 10) n (sk (ga 10) n (q + 1)) := Sum.inr.inj h9
          refine j_aload_n F 2 dX10_readsItem_92 rfl ?_
          refine j_iload_n F 1 dX10_readsItem_93 rfl ?_
          refine j_bipush F (v := 120) dX10_readsItem_94 (by decide) ?_
          refine j_icmp_ne F 104 dX10_readsItem_96 (by decide) (fun c_96 => ?_) (fun c_96 => absurd c_96 (by decide))
          refine j_bipush F (v := 59) dX10_readsItem_104 (by decide) ?_
          refine j_scallV F kX10_186 (As := [.int 59]) (rest := []) (c_X10_isSignNow_no l D ay ad (ups (ups (ups (ups vi 17 tk_84) 18 (nI (sk (ga 10) n (sk (ga 10) n (q + 1) + dg (ga 10) n (sk (ga 10) n (q + 1)))))) 19 va_84) 20 pb_84) (ups ga 12 (upd (ga 12) m (va_44))) 59 (show ¬ (tk_84 = 1 ∧ va_84 = 59) from hs)) 0 0 20 rfl rfl rfl rfl rfl rfl ⟨Nat.le_of_ble_eq_true rfl, Nat.le_of_ble_eq_true rfl⟩ dX10_readsItem_106 (fun v w hw => ?_)
          obtain ⟨rfl, rfl⟩ := hw
          refine ⟨rfl, (mW ay ad (ups (ups (ups (ups vi 17 tk_84) 18 (nI (sk (ga 10) n (sk (ga 10) n (q + 1) + dg (ga 10) n (sk (ga 10) n (q + 1)))))) 19 va_84) 20 pb_84) (ups ga 12 (upd (ga 12) m (va_44)))), (slp_all _ _ rfl).trans rfl, ?_⟩
          refine j_top 0 rfl ?_
          refine j_if_eq F 123 dX10_readsItem_109 (by decide) (fun c_109 => ?_) (fun c_109 => absurd (by decide) c_109)
          refine j_iconst F (v := 0) dX10_readsItem_123 (by decide) ?_
          exact j_zret F (Or.inl rfl) ⟨tk_84, va_84, pb_84, upd (ga 12) m va_44, rfl, rfl⟩ dX10_readsItem_124 (Nat.le_of_ble_eq_true rfl) (Nat.le_of_ble_eq_true rfl)
      · skip
        rw [if_neg hr] at h9
        have hn0 := mt (tk_num h44_0).mp hr
        obtain rfl : e = sk (ga 10) n (q + 1) := Sum.inr.inj h9
        refine j_aload_n F 2 dX10_readsItem_47 rfl ?_
        refine j_iload_n F 1 dX10_readsItem_48 rfl ?_
        refine j_bipush F (v := 120) dX10_readsItem_49 (by decide) ?_
        refine j_icmp_ne F 58 dX10_readsItem_51 (by decide) (fun c_51 => ?_) (fun c_51 => absurd c_51 (by decide))
        refine j_iconst F (v := 0) dX10_readsItem_58 (by decide) ?_
        refine j_iload_n F 1 dX10_readsItem_59 rfl ?_
        refine j_bipush F (v := 120) dX10_readsItem_60 (by decide) ?_
        refine j_icmp_ne F 70 dX10_readsItem_62 (by decide) (fun c_62 => ?_) (fun c_62 => absurd c_62 (by decide))
        refine j_iload_n F 1 dX10_readsItem_70 rfl ?_
        refine j_bipush F (v := 99) dX10_readsItem_71 (by decide) ?_
        refine j_icmp_ne F 82 dX10_readsItem_73 (by decide) (fun c_73 => absurd (by decide) c_73) (fun c_73 => ?_)
        refine j_sipush F (v := 999) dX10_readsItem_76 (by decide) ?_
        refine j_goto F 84 dX10_readsItem_79 (by decide) ?_
        refine j_scallV F kX10_183 (As := [.int 0, .int 999]) (rest := []) (c_X10_takesNumber_no l D ay ad (ups (ups (ups (ups vi 17 tk_44) 18 (nI (sk (ga 10) n (q + 1)))) 19 va_44) 20 pb_44) ga 0 999 (show ¬ (tk_44 = 2 ∧ ¬ oob (va_44) 0 999) from hn0)) 0 0 20 rfl rfl rfl rfl rfl rfl ⟨Nat.le_of_ble_eq_true rfl, Nat.le_of_ble_eq_true rfl⟩ dX10_readsItem_84 (fun v w hw => ?_)
        obtain ⟨rfl, rfl⟩ := hw
        refine ⟨rfl, (mW ay ad (ups (ups (ups (ups vi 17 tk_44) 18 (nI (sk (ga 10) n (q + 1)))) 19 va_44) 20 pb_44) ga), (slp_all _ _ rfl).trans rfl, ?_⟩
        refine j_top 0 rfl ?_
        refine j_if_ne F 92 dX10_readsItem_87 (by decide) (fun c_87 => absurd (by decide) c_87) (fun c_87 => ?_)
        refine j_iconst F (v := 0) dX10_readsItem_90 (by decide) ?_
        exact j_zret F (Or.inl rfl) ⟨tk_44, va_44, pb_44, ga 12, rfl, rfl⟩ dX10_readsItem_91 (Nat.le_of_ble_eq_true rfl) (Nat.le_of_ble_eq_true rfl)
    · skip
      replace h19 : vi 19 = 120 := h19.trans eL
      have h9 := itm_lp (n := n) (op := op) eL
      rw [hi] at h9
      refine j_aload_n F 0 dX10_readsItem_0 rfl ?_
      refine j_getf F fX10_171 0 (v := .int (vi 19)) rfl rfl dX10_readsItem_1 ?_
      refine j_top 120 h19 ?_
      refine j_istore_n F 2 [(2, .int 120), (0, .ref (ad 0)), (1, .int (nI op))] dX10_readsItem_4 rfl (by decide) rfl ?_
      refine j_aload_n F 1 dX10_readsItem_5 rfl ?_
      refine j_getf F fX10_168 0 (v := .int (vi 17)) rfl rfl dX10_readsItem_6 ?_
      refine j_top 1 h17 ?_
      refine j_iconst F (v := 1) dX10_readsItem_9 (by decide) ?_
      refine j_icmp_ne F 35 dX10_readsItem_10 (by decide) (fun c_10 => absurd (by decide) c_10) (fun c_10 => ?_)
      refine j_iload_n F 0 dX10_readsItem_13 rfl ?_
      refine j_bipush F (v := 59) dX10_readsItem_14 (by decide) ?_
      refine j_icmp_eq F 35 dX10_readsItem_16 (by decide) (fun c_16 => absurd c_16 (by decide)) (fun c_16 => ?_)
      refine j_iload_n F 0 dX10_readsItem_19 rfl ?_
      refine j_bipush F (v := 123) dX10_readsItem_20 (by decide) ?_
      refine j_icmp_eq F 35 dX10_readsItem_22 (by decide) (fun c_22 => absurd c_22 (by decide)) (fun c_22 => ?_)
      refine j_iload_n F 0 dX10_readsItem_25 rfl ?_
      refine j_bipush F (v := 125) dX10_readsItem_26 (by decide) ?_
      refine j_icmp_eq F 35 dX10_readsItem_28 (by decide) (fun c_28 => absurd c_28 (by decide)) (fun c_28 => ?_)
      refine j_iconst F (v := 1) dX10_readsItem_31 (by decide) ?_
      refine j_goto F 36 dX10_readsItem_32 (by decide) ?_
      refine j_istore_n F 3 [(3, .int 1), (2, .int 120), (0, .ref (ad 0)), (1, .int (nI op))] dX10_readsItem_36 rfl (by decide) rfl ?_
      refine j_iload_n F 0 dX10_readsItem_37 rfl ?_
      refine j_if_ne F 43 dX10_readsItem_38 (by decide) (fun c_38 => ?_) (fun c_38 => absurd c_38 (by decide))
      refine j_aload_n F 2 dX10_readsItem_43 rfl ?_
      refine j_scallV F kX10_180 (As := []) (rest := []) (c_X10_reads l D ay ad vi ga n (q + 1) (show vi 16 = nI n from h16) (show n ≤ 300 from hn) (show vi 20 = nI (q + 1) from h20) (show (q + 1) ≤ n from by omega)) 0 0 20 rfl rfl rfl rfl rfl rfl ⟨Nat.le_of_ble_eq_true rfl, Nat.le_of_ble_eq_true rfl⟩ dX10_readsItem_44 (fun v w hw => ?_)
      obtain ⟨tk_44, va_44, pb_44, h44_0, rfl, rfl⟩ := hw
      replace h44_0 : TK (ga 10) n (sk (ga 10) n (q + 1)) tk_44 va_44 pb_44 := h44_0
      refine ⟨rfl, (mW ay ad (ups (ups (ups (ups vi 17 tk_44) 18 (nI (sk (ga 10) n (q + 1)))) 19 va_44) 20 pb_44) ga), (slp_all _ _ rfl).trans rfl, ?_⟩
      by_cases hr : rdOK (ga 10) n (sk (ga 10) n (q + 1)) 1 9
      · skip
        rw [if_pos hr] at h9
        obtain ⟨hn1, hn2⟩ := (tk_num h44_0).mpr hr
        obtain ⟨hv1, hv2, hv3⟩ := tk_val h44_0 hn1
        refine j_aload_n F 2 dX10_readsItem_47 rfl ?_
        refine j_iload_n F 1 dX10_readsItem_48 rfl ?_
        refine j_bipush F (v := 120) dX10_readsItem_49 (by decide) ?_
        refine j_icmp_ne F 58 dX10_readsItem_51 (by decide) (fun c_51 => absurd (by decide) c_51) (fun c_51 => ?_)
        refine j_iconst F (v := 1) dX10_readsItem_54 (by decide) ?_
        refine j_goto F 59 dX10_readsItem_55 (by decide) ?_
        refine j_iload_n F 1 dX10_readsItem_59 rfl ?_
        refine j_bipush F (v := 120) dX10_readsItem_60 (by decide) ?_
        refine j_icmp_ne F 70 dX10_readsItem_62 (by decide) (fun c_62 => absurd (by decide) c_62) (fun c_62 => ?_)
        refine j_bipush F (v := 9) dX10_readsItem_65 (by decide) ?_
        refine j_goto F 84 dX10_readsItem_67 (by decide) ?_
        refine j_scallV F kX10_183 (As := [.int 1, .int 9]) (rest := []) (c_X10_takesNumber_yes l D ay ad (ups (ups (ups (ups vi 17 tk_44) 18 (nI (sk (ga 10) n (q + 1)))) 19 va_44) 20 pb_44) ga 1 9 n (sk (ga 10) n (q + 1) + dg (ga 10) n (sk (ga 10) n (q + 1))) m (show tk_44 = 2 from hn1) (show ¬ oob (va_44) 1 9 from hn2) (show vi 23 = nI m from h23) (show m < 300 from by omega) (show vi 16 = nI n from h16) (show n ≤ 300 from hn) (show pb_44 = nI (sk (ga 10) n (q + 1) + dg (ga 10) n (sk (ga 10) n (q + 1))) from hv2) (show (sk (ga 10) n (q + 1) + dg (ga 10) n (sk (ga 10) n (q + 1))) ≤ n from hv3)) 0 0 20 rfl rfl rfl rfl rfl rfl ⟨Nat.le_of_ble_eq_true rfl, Nat.le_of_ble_eq_true rfl⟩ dX10_readsItem_84 (fun v w hw => ?_)
        obtain ⟨tk_84, va_84, pb_84, h84_0, rfl, rfl⟩ := hw
        replace h84_0 : TK (ga 10) n (sk (ga 10) n (sk (ga 10) n (q + 1) + dg (ga 10) n (sk (ga 10) n (q + 1)))) tk_84 va_84 pb_84 := h84_0
        refine ⟨rfl, (mW ay ad (ups (ups (ups (ups vi 17 tk_84) 18 (nI (sk (ga 10) n (sk (ga 10) n (q + 1) + dg (ga 10) n (sk (ga 10) n (q + 1)))))) 19 va_84) 20 pb_84) (ups ga 12 (upd (ga 12) m (va_44)))), (slp_all _ _ rfl).trans rfl, ?_⟩
        refine j_top 1 rfl ?_
        refine j_if_ne F 92 dX10_readsItem_87 (by decide) (fun c_87 => ?_) (fun c_87 => absurd c_87 (by decide))
        replace h84_0 : TK (ga 10) n (nx (ga 10) n (sk (ga 10) n (q + 1))) tk_84 va_84 pb_84 := h84_0
        by_cases hb : btA (ga 10) n (nx (ga 10) n (sk (ga 10) n (q + 1))) = 123
        · skip
          have hs := (tk_sign h84_0 (b := 123) (by decide)).mpr hb
          have h4 : op = 4 := Decidable.byContradiction fun h4 => by
            rw [if_pos ⟨by omega, hb⟩] at h9; exact inl_a h9.symm
          rw [if_neg (fun h => absurd h.1 (by omega))] at h9
          obtain rfl : e = nx (ga 10) n (sk (ga 10) n (q + 1)) := Sum.inr.inj h9
          refine j_aload_n F 2 dX10_readsItem_92 rfl ?_
          refine j_iload_n F 1 dX10_readsItem_93 rfl ?_
          refine j_bipush F (v := 120) dX10_readsItem_94 (by decide) ?_
          refine j_icmp_ne F 104 dX10_readsItem_96 (by decide) (fun c_96 => absurd (by decide) c_96) (fun c_96 => ?_)
          refine j_bipush F (v := 123) dX10_readsItem_99 (by decide) ?_
          refine j_goto F 106 dX10_readsItem_101 (by decide) ?_
          refine j_scallV F kX10_186 (As := [.int 123]) (rest := []) (c_X10_isSignNow_yes l D ay ad (ups (ups (ups (ups vi 17 tk_84) 18 (nI (sk (ga 10) n (sk (ga 10) n (q + 1) + dg (ga 10) n (sk (ga 10) n (q + 1)))))) 19 va_84) 20 pb_84) (ups ga 12 (upd (ga 12) m (va_44))) 123 (show tk_84 = 1 ∧ va_84 = 123 from hs)) 0 0 20 rfl rfl rfl rfl rfl rfl ⟨Nat.le_of_ble_eq_true rfl, Nat.le_of_ble_eq_true rfl⟩ dX10_readsItem_106 (fun v w hw => ?_)
          obtain ⟨rfl, rfl⟩ := hw
          refine ⟨rfl, (mW ay ad (ups (ups (ups (ups vi 17 tk_84) 18 (nI (sk (ga 10) n (sk (ga 10) n (q + 1) + dg (ga 10) n (sk (ga 10) n (q + 1)))))) 19 va_84) 20 pb_84) (ups ga 12 (upd (ga 12) m (va_44)))), (slp_all _ _ rfl).trans rfl, ?_⟩
          refine j_top 1 rfl ?_
          refine j_if_eq F 123 dX10_readsItem_109 (by decide) (fun c_109 => absurd c_109 (by decide)) (fun c_109 => ?_)
          refine j_iload_n F 1 dX10_readsItem_112 rfl ?_
          refine j_bipush F (v := 120) dX10_readsItem_113 (by decide) ?_
          refine j_icmp_ne F 125 dX10_readsItem_115 (by decide) (fun c_115 => absurd (by decide) c_115) (fun c_115 => ?_)
          refine j_iload_n F 3 dX10_readsItem_118 rfl ?_
          refine j_iconst F (v := 4) dX10_readsItem_119 (by decide) ?_
          refine j_icmp_ne F 125 dX10_readsItem_120 (by decide) (fun c_120 => ?_) (fun c_120 => ?_)
          · skip
            have n_120 := mt (n_eq op 4 rfl rfl (by omega) (by omega)).mpr c_120
            exact absurd h4 n_120
          · skip
            have n_120 := (n_eq op 4 rfl rfl (by omega) (by omega)).mp c_120
            refine j_iconst F (v := 0) dX10_readsItem_123 (by decide) ?_
            exact j_zret F (Or.inl rfl) ⟨tk_84, va_84, pb_84, upd (ga 12) m va_44, rfl, rfl⟩ dX10_readsItem_124 (Nat.le_of_ble_eq_true rfl) (Nat.le_of_ble_eq_true rfl)
        · skip
          have hs := mt (tk_sign h84_0 (b := 123) (by decide)).mp hb
          rw [if_neg (fun h => hb h.2)] at h9
          obtain rfl : e = nx (ga 10) n (sk (ga 10) n (q + 1)) := Sum.inr.inj h9
          refine j_aload_n F 2 dX10_readsItem_92 rfl ?_
          refine j_iload_n F 1 dX10_readsItem_93 rfl ?_
          refine j_bipush F (v := 120) dX10_readsItem_94 (by decide) ?_
          refine j_icmp_ne F 104 dX10_readsItem_96 (by decide) (fun c_96 => absurd (by decide) c_96) (fun c_96 => ?_)
          refine j_bipush F (v := 123) dX10_readsItem_99 (by decide) ?_
          refine j_goto F 106 dX10_readsItem_101 (by decide) ?_
          refine j_scallV F kX10_186 (As := [.int 123]) (rest := []) (c_X10_isSignNow_no l D ay ad (ups (ups (ups (ups vi 17 tk_84) 18 (nI (sk (ga 10) n (sk (ga 10) n (q + 1) + dg (ga 10) n (sk (ga 10) n (q + 1)))))) 19 va_84) 20 pb_84) (ups ga 12 (upd (ga 12) m (va_44))) 123 (show ¬ (tk_84 = 1 ∧ va_84 = 123) from hs)) 0 0 20 rfl rfl rfl rfl rfl rfl ⟨Nat.le_of_ble_eq_true rfl, Nat.le_of_ble_eq_true rfl⟩ dX10_readsItem_106 (fun v w hw => ?_)
          obtain ⟨rfl, rfl⟩ := hw
          refine ⟨rfl, (mW ay ad (ups (ups (ups (ups vi 17 tk_84) 18 (nI (sk (ga 10) n (sk (ga 10) n (q + 1) + dg (ga 10) n (sk (ga 10) n (q + 1)))))) 19 va_84) 20 pb_84) (ups ga 12 (upd (ga 12) m (va_44)))), (slp_all _ _ rfl).trans rfl, ?_⟩
          refine j_top 0 rfl ?_
          refine j_if_eq F 123 dX10_readsItem_109 (by decide) (fun c_109 => ?_) (fun c_109 => absurd (by decide) c_109)
          refine j_iconst F (v := 0) dX10_readsItem_123 (by decide) ?_
          exact j_zret F (Or.inl rfl) ⟨tk_84, va_84, pb_84, upd (ga 12) m va_44, rfl, rfl⟩ dX10_readsItem_124 (Nat.le_of_ble_eq_true rfl) (Nat.le_of_ble_eq_true rfl)
      · skip
        rw [if_neg hr] at h9
        have hn0 := mt (tk_num h44_0).mp hr
        obtain rfl : e = sk (ga 10) n (q + 1) := Sum.inr.inj h9
        refine j_aload_n F 2 dX10_readsItem_47 rfl ?_
        refine j_iload_n F 1 dX10_readsItem_48 rfl ?_
        refine j_bipush F (v := 120) dX10_readsItem_49 (by decide) ?_
        refine j_icmp_ne F 58 dX10_readsItem_51 (by decide) (fun c_51 => absurd (by decide) c_51) (fun c_51 => ?_)
        refine j_iconst F (v := 1) dX10_readsItem_54 (by decide) ?_
        refine j_goto F 59 dX10_readsItem_55 (by decide) ?_
        refine j_iload_n F 1 dX10_readsItem_59 rfl ?_
        refine j_bipush F (v := 120) dX10_readsItem_60 (by decide) ?_
        refine j_icmp_ne F 70 dX10_readsItem_62 (by decide) (fun c_62 => absurd (by decide) c_62) (fun c_62 => ?_)
        refine j_bipush F (v := 9) dX10_readsItem_65 (by decide) ?_
        refine j_goto F 84 dX10_readsItem_67 (by decide) ?_
        refine j_scallV F kX10_183 (As := [.int 1, .int 9]) (rest := []) (c_X10_takesNumber_no l D ay ad (ups (ups (ups (ups vi 17 tk_44) 18 (nI (sk (ga 10) n (q + 1)))) 19 va_44) 20 pb_44) ga 1 9 (show ¬ (tk_44 = 2 ∧ ¬ oob (va_44) 1 9) from hn0)) 0 0 20 rfl rfl rfl rfl rfl rfl ⟨Nat.le_of_ble_eq_true rfl, Nat.le_of_ble_eq_true rfl⟩ dX10_readsItem_84 (fun v w hw => ?_)
        obtain ⟨rfl, rfl⟩ := hw
        refine ⟨rfl, (mW ay ad (ups (ups (ups (ups vi 17 tk_44) 18 (nI (sk (ga 10) n (q + 1)))) 19 va_44) 20 pb_44) ga), (slp_all _ _ rfl).trans rfl, ?_⟩
        refine j_top 0 rfl ?_
        refine j_if_ne F 92 dX10_readsItem_87 (by decide) (fun c_87 => absurd (by decide) c_87) (fun c_87 => ?_)
        refine j_iconst F (v := 0) dX10_readsItem_90 (by decide) ?_
        exact j_zret F (Or.inl rfl) ⟨tk_44, va_44, pb_44, ga 12, rfl, rfl⟩ dX10_readsItem_91 (Nat.le_of_ble_eq_true rfl) (Nat.le_of_ble_eq_true rfl)
    · skip
      replace h19 : vi 19 = 59 := h19.trans eL
      refine j_aload_n F 0 dX10_readsItem_0 rfl ?_
      refine j_getf F fX10_171 0 (v := .int (vi 19)) rfl rfl dX10_readsItem_1 ?_
      refine j_top 59 h19 ?_
      refine j_istore_n F 2 [(2, .int 59), (0, .ref (ad 0)), (1, .int (nI op))] dX10_readsItem_4 rfl (by decide) rfl ?_
      refine j_aload_n F 1 dX10_readsItem_5 rfl ?_
      refine j_getf F fX10_168 0 (v := .int (vi 17)) rfl rfl dX10_readsItem_6 ?_
      refine j_top 1 h17 ?_
      refine j_iconst F (v := 1) dX10_readsItem_9 (by decide) ?_
      refine j_icmp_ne F 35 dX10_readsItem_10 (by decide) (fun c_10 => absurd (by decide) c_10) (fun c_10 => ?_)
      refine j_iload_n F 0 dX10_readsItem_13 rfl ?_
      refine j_bipush F (v := 59) dX10_readsItem_14 (by decide) ?_
      refine j_icmp_eq F 35 dX10_readsItem_16 (by decide) (fun c_16 => ?_) (fun c_16 => absurd (by decide) c_16)
      refine j_iconst F (v := 0) dX10_readsItem_35 (by decide) ?_
      refine j_istore_n F 3 [(3, .int 0), (2, .int 59), (0, .ref (ad 0)), (1, .int (nI op))] dX10_readsItem_36 rfl (by decide) rfl ?_
      refine j_iload_n F 0 dX10_readsItem_37 rfl ?_
      refine j_if_ne F 43 dX10_readsItem_38 (by decide) (fun c_38 => absurd (by decide) c_38) (fun c_38 => ?_)
      refine j_iconst F (v := 0) dX10_readsItem_41 (by decide) ?_
      exact j_zret F (Or.inl rfl) ⟨vi 17, vi 19, vi 20, ga 12, rfl, by rw [show e = q from (Sum.inr.inj (hi.symm.trans (itm_o (by rw [eL]; decide) (by rw [eL]; decide) (by rw [eL]; decide)))), ← h18] <;> rfl⟩ dX10_readsItem_42 (Nat.le_of_ble_eq_true rfl) (Nat.le_of_ble_eq_true rfl)
    · skip
      replace h19 : vi 19 = 123 := h19.trans eL
      refine j_aload_n F 0 dX10_readsItem_0 rfl ?_
      refine j_getf F fX10_171 0 (v := .int (vi 19)) rfl rfl dX10_readsItem_1 ?_
      refine j_top 123 h19 ?_
      refine j_istore_n F 2 [(2, .int 123), (0, .ref (ad 0)), (1, .int (nI op))] dX10_readsItem_4 rfl (by decide) rfl ?_
      refine j_aload_n F 1 dX10_readsItem_5 rfl ?_
      refine j_getf F fX10_168 0 (v := .int (vi 17)) rfl rfl dX10_readsItem_6 ?_
      refine j_top 1 h17 ?_
      refine j_iconst F (v := 1) dX10_readsItem_9 (by decide) ?_
      refine j_icmp_ne F 35 dX10_readsItem_10 (by decide) (fun c_10 => absurd (by decide) c_10) (fun c_10 => ?_)
      refine j_iload_n F 0 dX10_readsItem_13 rfl ?_
      refine j_bipush F (v := 59) dX10_readsItem_14 (by decide) ?_
      refine j_icmp_eq F 35 dX10_readsItem_16 (by decide) (fun c_16 => absurd c_16 (by decide)) (fun c_16 => ?_)
      refine j_iload_n F 0 dX10_readsItem_19 rfl ?_
      refine j_bipush F (v := 123) dX10_readsItem_20 (by decide) ?_
      refine j_icmp_eq F 35 dX10_readsItem_22 (by decide) (fun c_22 => ?_) (fun c_22 => absurd (by decide) c_22)
      refine j_iconst F (v := 0) dX10_readsItem_35 (by decide) ?_
      refine j_istore_n F 3 [(3, .int 0), (2, .int 123), (0, .ref (ad 0)), (1, .int (nI op))] dX10_readsItem_36 rfl (by decide) rfl ?_
      refine j_iload_n F 0 dX10_readsItem_37 rfl ?_
      refine j_if_ne F 43 dX10_readsItem_38 (by decide) (fun c_38 => absurd (by decide) c_38) (fun c_38 => ?_)
      refine j_iconst F (v := 0) dX10_readsItem_41 (by decide) ?_
      exact j_zret F (Or.inl rfl) ⟨vi 17, vi 19, vi 20, ga 12, rfl, by rw [show e = q from (Sum.inr.inj (hi.symm.trans (itm_o (by rw [eL]; decide) (by rw [eL]; decide) (by rw [eL]; decide)))), ← h18] <;> rfl⟩ dX10_readsItem_42 (Nat.le_of_ble_eq_true rfl) (Nat.le_of_ble_eq_true rfl)
    · skip
      replace h19 : vi 19 = 125 := h19.trans eL
      refine j_aload_n F 0 dX10_readsItem_0 rfl ?_
      refine j_getf F fX10_171 0 (v := .int (vi 19)) rfl rfl dX10_readsItem_1 ?_
      refine j_top 125 h19 ?_
      refine j_istore_n F 2 [(2, .int 125), (0, .ref (ad 0)), (1, .int (nI op))] dX10_readsItem_4 rfl (by decide) rfl ?_
      refine j_aload_n F 1 dX10_readsItem_5 rfl ?_
      refine j_getf F fX10_168 0 (v := .int (vi 17)) rfl rfl dX10_readsItem_6 ?_
      refine j_top 1 h17 ?_
      refine j_iconst F (v := 1) dX10_readsItem_9 (by decide) ?_
      refine j_icmp_ne F 35 dX10_readsItem_10 (by decide) (fun c_10 => absurd (by decide) c_10) (fun c_10 => ?_)
      refine j_iload_n F 0 dX10_readsItem_13 rfl ?_
      refine j_bipush F (v := 59) dX10_readsItem_14 (by decide) ?_
      refine j_icmp_eq F 35 dX10_readsItem_16 (by decide) (fun c_16 => absurd c_16 (by decide)) (fun c_16 => ?_)
      refine j_iload_n F 0 dX10_readsItem_19 rfl ?_
      refine j_bipush F (v := 123) dX10_readsItem_20 (by decide) ?_
      refine j_icmp_eq F 35 dX10_readsItem_22 (by decide) (fun c_22 => absurd c_22 (by decide)) (fun c_22 => ?_)
      refine j_iload_n F 0 dX10_readsItem_25 rfl ?_
      refine j_bipush F (v := 125) dX10_readsItem_26 (by decide) ?_
      refine j_icmp_eq F 35 dX10_readsItem_28 (by decide) (fun c_28 => ?_) (fun c_28 => absurd (by decide) c_28)
      refine j_iconst F (v := 0) dX10_readsItem_35 (by decide) ?_
      refine j_istore_n F 3 [(3, .int 0), (2, .int 125), (0, .ref (ad 0)), (1, .int (nI op))] dX10_readsItem_36 rfl (by decide) rfl ?_
      refine j_iload_n F 0 dX10_readsItem_37 rfl ?_
      refine j_if_ne F 43 dX10_readsItem_38 (by decide) (fun c_38 => absurd (by decide) c_38) (fun c_38 => ?_)
      refine j_iconst F (v := 0) dX10_readsItem_41 (by decide) ?_
      exact j_zret F (Or.inl rfl) ⟨vi 17, vi 19, vi 20, ga 12, rfl, by rw [show e = q from (by
            have h7 := hi
            unfold itm at h7
            rw [if_neg (by rw [eL]; decide), if_neg (by rw [eL]; decide), if_pos eL] at h7
            split at h7
            · exact inl_a h7
            · exact (Sum.inr.inj h7).symm), ← h18] <;> rfl⟩ dX10_readsItem_42 (Nat.le_of_ble_eq_true rfl) (Nat.le_of_ble_eq_true rfl)
  · skip
    have h17 : ¬ vi 17 = 1 := fun h => hL (tk_pb hT h).2.2.2
    refine j_aload_n F 0 dX10_readsItem_0 rfl ?_
    refine j_getf F fX10_171 0 (v := .int (vi 19)) rfl rfl dX10_readsItem_1 ?_
    refine j_istore_n F 2 [(2, .int (vi 19)), (0, .ref (ad 0)), (1, .int (nI op))] dX10_readsItem_4 rfl (by decide) rfl ?_
    refine j_aload_n F 1 dX10_readsItem_5 rfl ?_
    refine j_getf F fX10_168 0 (v := .int (vi 17)) rfl rfl dX10_readsItem_6 ?_
    refine j_iconst F (v := 1) dX10_readsItem_9 (by decide) ?_
    refine j_icmp_ne F 35 dX10_readsItem_10 (by decide) (fun c_10 => ?_) (fun c_10 => absurd c_10 h17)
    refine j_iconst F (v := 0) dX10_readsItem_35 (by decide) ?_
    refine j_istore_n F 3 [(3, .int 0), (2, .int (vi 19)), (0, .ref (ad 0)), (1, .int (nI op))] dX10_readsItem_36 rfl (by decide) rfl ?_
    refine j_iload_n F 0 dX10_readsItem_37 rfl ?_
    refine j_if_ne F 43 dX10_readsItem_38 (by decide) (fun c_38 => absurd (by decide) c_38) (fun c_38 => ?_)
    refine j_iconst F (v := 0) dX10_readsItem_41 (by decide) ?_
    exact j_zret F (Or.inl rfl) ⟨vi 17, vi 19, vi 20, ga 12, rfl, by rw [show e = q from (Sum.inr.inj (hi.symm.trans (itm_o (fun h => hL (by rcases h with h | h | h | h <;> rw [h] <;> decide)) (fun h => hL (by rw [h]; decide)) (fun h => hL (by rw [h]; decide))))), ← h18] <;> rfl⟩ dX10_readsItem_42 (Nat.le_of_ble_eq_true rfl) (Nat.le_of_ble_eq_true rfl)

