set_option maxHeartbeats 4000000 in
set_option maxRecDepth 100000 in
theorem r_step (l : Launch) (D : va_G) (ay : Nat → ClassId) (ad : Nat → Nat) {p9 : Program} {e9 : Env} {s9 : State} {m9 : MethodId} {a9 : Array Value} {b9 : List Frame} {me9 : Method} {c9 : Code} {A9 : Nat → Prop} {post : Option Value → va_W → Prop} (F : jF p9 s9 m9 a9 me9 c9 cX10_runs 5 yX10_runs.cls (some .int) D ay A9) (vi : Nat → Int32) (ga : Nat → Nat → Int32) (Zc : DS) (N s q a : Nat) (kd x : Int32) (hG : GI Zc vi ga) (h23 : vi 23 = nI N) (hN : N ≤ 300) (haN : a < N) (h11 : ga 11 a = kd) (h12 : ga 12 a = x) (hk1 : ¬ kd = 120) (hk2 : ¬ kd = 125) (hV : stepV kd x) (hc : Zc.1 14 < 1000) (hs : s < 200) (kk : ∀ (vi' : Nat → Int32) (ga' : Nat → Nat → Int32), GI (stepS Zc kd x) vi' ga' → vi' 0 = vi 0 → (∀ q, 14 ≤ q ∧ q < 31 → vi' q = vi q) → (∀ q, 9 ≤ q ∧ q < 15 → ga' q = ga q) → jJ p9 l e9 ({ frames := 4, cells := 0, slots := 0, locals := 92 } : Room) s9 m9 a9 b9 me9 c9 (MQ b9 (jQ post D ay A9) a9 s9 0 0 A9) D A9 5 0 0 (mW ay ad vi' ga') 6 [(1, .int (nI (s + 1))), (2, .int (nI q)), (3, .int (nI (a + 1))), (0, .ref (ad 0))] []) : jJ p9 l e9 ({ frames := 4, cells := 0, slots := 0, locals := 92 } : Room) s9 m9 a9 b9 me9 c9 (MQ b9 (jQ post D ay A9) a9 s9 0 0 A9) D A9 5 0 0 (mW ay ad vi ga) 6 [(1, .int (nI s)), (2, .int (nI q)), (3, .int (nI a)), (0, .ref (ad 0))] [] := by
  refine j_iload_n F 2 dX10_runs_6 rfl ?_
  refine j_aload_n F 3 dX10_runs_7 rfl ?_
  refine j_getf F fX10_177 0 (v := .int (vi 23)) rfl rfl dX10_runs_8 ?_
  refine j_top (nI N) h23 ?_
  refine j_icmp_ge F 132 dX10_runs_11 (by decide) (fun c_11 => absurd ((n_le N a rfl rfl (by omega) (by omega)).mp c_11) (by omega)) (fun c_11 => ?_)
  refine j_aload_n F 3 dX10_runs_14 rfl ?_
  refine j_getf F fX10_54 0 (v := .ref (ad 12)) rfl rfl dX10_runs_15 ?_
  refine j_iload_n F 2 dX10_runs_18 rfl ?_
  refine j_iald F 12 a (f := ga 11) rfl rfl (by omega) (Nat.le_of_ble_eq_true rfl) dX10_runs_19 ?_
  refine j_top kd h11 ?_
  refine j_istore F 4 [(4, .int kd), (1, .int (nI s)), (2, .int (nI q)), (3, .int (nI a)), (0, .ref (ad 0))] dX10_runs_20 (by decide) rfl ?_
  refine j_iload F 0 dX10_runs_22 rfl ?_
  refine j_bipush F (v := 120) dX10_runs_24 (by decide) ?_
  refine j_icmp_ne F 54 dX10_runs_26 (by decide) (fun c_26 => ?_) (fun c_26 => absurd c_26 hk1)
  refine j_iload F 0 dX10_runs_54 rfl ?_
  refine j_bipush F (v := 125) dX10_runs_56 (by decide) ?_
  refine j_icmp_ne F 102 dX10_runs_58 (by decide) (fun c_58 => ?_) (fun c_58 => absurd c_58 hk2)
  refine j_iload_n F 1 dX10_runs_102 rfl ?_
  refine j_sipush F (v := 200) dX10_runs_103 (by decide) ?_
  refine j_icmp_ne F 111 dX10_runs_106 (by decide) (fun c_106 => ?_) (fun c_106 => absurd ((n_eq s 200 rfl rfl (by omega) (by decide)).mp c_106) (by omega))
  refine j_iinc F 1 (nI (s + 1)) [(1, .int (nI (s + 1))), (4, .int kd), (2, .int (nI q)), (3, .int (nI a)), (0, .ref (ad 0))] dX10_runs_111 rfl (nI_1 _) (by decide) rfl ?_
  refine j_aload_n F 4 dX10_runs_114 rfl ?_
  refine j_iload F 1 dX10_runs_115 rfl ?_
  refine j_aload_n F 4 dX10_runs_117 rfl ?_
  refine j_getf F fX10_57 0 (v := .ref (ad 13)) rfl rfl dX10_runs_118 ?_
  refine j_iload_n F 3 dX10_runs_121 rfl ?_
  refine j_iald F 13 a (f := ga 12) rfl rfl (by omega) (Nat.le_of_ble_eq_true rfl) dX10_runs_122 ?_
  refine j_top x h12 ?_
  refine j_scallV F kX10_192 (As := [.int kd, .int x]) (rest := []) (c_X10_does l D ay ad vi ga Zc kd x (show GI Zc vi ga from hG) (show stepV kd x from hV) (show Zc.1 14 < 1000 from hc)) 0 0 20 rfl rfl rfl rfl rfl rfl ⟨Nat.le_of_ble_eq_true rfl, Nat.le_of_ble_eq_true rfl⟩ dX10_runs_123 (fun v w hw => ?_)
  obtain ⟨vi_123, ga_123, h123_0, h123_1, h123_2, h123_3, rfl, rfl⟩ := hw
  replace h123_0 : GI (stepS Zc kd x) vi_123 ga_123 := h123_0
  replace h123_1 : vi_123 0 = vi 0 := h123_1
  replace h123_2 : (∀ q, 14 ≤ q ∧ q < 31 → vi_123 q = vi q) := h123_2
  replace h123_3 : (∀ q, 9 ≤ q ∧ q < 15 → ga_123 q = ga q) := h123_3
  refine ⟨rfl, (mW ay ad vi_123 ga_123), (slp_all _ _ rfl).trans rfl, ?_⟩
  refine j_iinc F 3 (nI (a + 1)) [(3, .int (nI (a + 1))), (1, .int (nI (s + 1))), (4, .int kd), (2, .int (nI q)), (0, .ref (ad 0))] dX10_runs_126 rfl (nI_1 _) (by decide) rfl ?_
  refine j_goto F 6 dX10_runs_129 (by decide) ?_
  refine j_sub [1, 3, 0, 4] [(1, .int (nI (s + 1))), (2, .int (nI q)), (3, .int (nI (a + 1))), (0, .ref (ad 0))] rfl ?_
  exact kk vi_123 ga_123 h123_0 h123_1 h123_2 h123_3

set_option maxHeartbeats 4000000 in
set_option maxRecDepth 100000 in
theorem r_full (l : Launch) (D : va_G) (ay : Nat → ClassId) (ad : Nat → Nat) {p9 : Program} {e9 : Env} {s9 : State} {m9 : MethodId} {a9 : Array Value} {b9 : List Frame} {me9 : Method} {c9 : Code} {A9 : Nat → Prop} {post : Option Value → va_W → Prop} (F : jF p9 s9 m9 a9 me9 c9 cX10_runs 5 yX10_runs.cls (some .int) D ay A9) (vi : Nat → Int32) (ga : Nat → Nat → Int32) (N q a : Nat) (kd : Int32) (h23 : vi 23 = nI N) (hN : N ≤ 300) (haN : a < N) (h11 : ga 11 a = kd) (hk1 : ¬ kd = 120) (hk2 : ¬ kd = 125) (hret : post (some (.int (nI 200))) (mW ay ad vi ga)) : jJ p9 l e9 ({ frames := 4, cells := 0, slots := 0, locals := 92 } : Room) s9 m9 a9 b9 me9 c9 (MQ b9 (jQ post D ay A9) a9 s9 0 0 A9) D A9 5 0 0 (mW ay ad vi ga) 6 [(1, .int (nI 200)), (2, .int (nI q)), (3, .int (nI a)), (0, .ref (ad 0))] [] := by
  refine j_iload_n F 2 dX10_runs_6 rfl ?_
  refine j_aload_n F 3 dX10_runs_7 rfl ?_
  refine j_getf F fX10_177 0 (v := .int (vi 23)) rfl rfl dX10_runs_8 ?_
  refine j_top (nI N) h23 ?_
  refine j_icmp_ge F 132 dX10_runs_11 (by decide) (fun c_11 => absurd ((n_le N a rfl rfl (by omega) (by omega)).mp c_11) (by omega)) (fun c_11 => ?_)
  refine j_aload_n F 3 dX10_runs_14 rfl ?_
  refine j_getf F fX10_54 0 (v := .ref (ad 12)) rfl rfl dX10_runs_15 ?_
  refine j_iload_n F 2 dX10_runs_18 rfl ?_
  refine j_iald F 12 a (f := ga 11) rfl rfl (by omega) (Nat.le_of_ble_eq_true rfl) dX10_runs_19 ?_
  refine j_top kd h11 ?_
  refine j_istore F 4 [(4, .int kd), (1, .int (nI 200)), (2, .int (nI q)), (3, .int (nI a)), (0, .ref (ad 0))] dX10_runs_20 (by decide) rfl ?_
  refine j_iload F 0 dX10_runs_22 rfl ?_
  refine j_bipush F (v := 120) dX10_runs_24 (by decide) ?_
  refine j_icmp_ne F 54 dX10_runs_26 (by decide) (fun c_26 => ?_) (fun c_26 => absurd c_26 hk1)
  refine j_iload F 0 dX10_runs_54 rfl ?_
  refine j_bipush F (v := 125) dX10_runs_56 (by decide) ?_
  refine j_icmp_ne F 102 dX10_runs_58 (by decide) (fun c_58 => ?_) (fun c_58 => absurd c_58 hk2)
  refine j_iload_n F 1 dX10_runs_102 rfl ?_
  refine j_sipush F (v := 200) dX10_runs_103 (by decide) ?_
  refine j_icmp_ne F 111 dX10_runs_106 (by decide) (fun c_106 => absurd rfl c_106) (fun c_106 => ?_)
  refine j_iload_n F 1 dX10_runs_109 rfl ?_
  exact j_iret F hret dX10_runs_110 (Nat.le_of_ble_eq_true rfl) (Nat.le_of_ble_eq_true rfl)

set_option maxHeartbeats 4000000 in
set_option maxRecDepth 100000 in
theorem r_open (l : Launch) (D : va_G) (ay : Nat → ClassId) (ad : Nat → Nat) {p9 : Program} {e9 : Env} {s9 : State} {m9 : MethodId} {a9 : Array Value} {b9 : List Frame} {me9 : Method} {c9 : Code} {A9 : Nat → Prop} {post : Option Value → va_W → Prop} (F : jF p9 s9 m9 a9 me9 c9 cX10_runs 5 yX10_runs.cls (some .int) D ay A9) (vi : Nat → Int32) (ga : Nat → Nat → Int32) (N s q a d : Nat) (h23 : vi 23 = nI N) (hN : N ≤ 300) (haN : a < N) (h11 : ga 11 a = 120) (h12 : ga 12 a = nI d) (hq : q < 4) (kk : jJ p9 l e9 ({ frames := 4, cells := 0, slots := 0, locals := 92 } : Room) s9 m9 a9 b9 me9 c9 (MQ b9 (jQ post D ay A9) a9 s9 0 0 A9) D A9 5 0 0 (mW ay ad vi (ups (ups ga 13 (upd (ga 13) q (nI a))) 14 (upd (ga 14) q (nI d)))) 6 [(1, .int (nI s)), (2, .int (nI (q + 1))), (3, .int (nI (a + 1))), (0, .ref (ad 0))] []) : jJ p9 l e9 ({ frames := 4, cells := 0, slots := 0, locals := 92 } : Room) s9 m9 a9 b9 me9 c9 (MQ b9 (jQ post D ay A9) a9 s9 0 0 A9) D A9 5 0 0 (mW ay ad vi ga) 6 [(1, .int (nI s)), (2, .int (nI q)), (3, .int (nI a)), (0, .ref (ad 0))] [] := by
  refine j_iload_n F 2 dX10_runs_6 rfl ?_
  refine j_aload_n F 3 dX10_runs_7 rfl ?_
  refine j_getf F fX10_177 0 (v := .int (vi 23)) rfl rfl dX10_runs_8 ?_
  refine j_top (nI N) h23 ?_
  refine j_icmp_ge F 132 dX10_runs_11 (by decide) (fun c_11 => absurd ((n_le N a rfl rfl (by omega) (by omega)).mp c_11) (by omega)) (fun c_11 => ?_)
  refine j_aload_n F 3 dX10_runs_14 rfl ?_
  refine j_getf F fX10_54 0 (v := .ref (ad 12)) rfl rfl dX10_runs_15 ?_
  refine j_iload_n F 2 dX10_runs_18 rfl ?_
  refine j_iald F 12 a (f := ga 11) rfl rfl (by omega) (Nat.le_of_ble_eq_true rfl) dX10_runs_19 ?_
  refine j_top 120 h11 ?_
  refine j_istore F 4 [(4, .int 120), (1, .int (nI s)), (2, .int (nI q)), (3, .int (nI a)), (0, .ref (ad 0))] dX10_runs_20 (by decide) rfl ?_
  refine j_iload F 0 dX10_runs_22 rfl ?_
  refine j_bipush F (v := 120) dX10_runs_24 (by decide) ?_
  refine j_icmp_ne F 54 dX10_runs_26 (by decide) (fun c_26 => absurd (by decide) c_26) (fun c_26 => ?_)
  refine j_aload_n F 4 dX10_runs_29 rfl ?_
  refine j_getf F fX10_63 0 (v := .ref (ad 14)) rfl rfl dX10_runs_30 ?_
  refine j_iload_n F 2 dX10_runs_33 rfl ?_
  refine j_iload_n F 3 dX10_runs_34 rfl ?_
  refine j_iast F 14 (mW ay ad vi (ups ga 13 (upd (ga 13) q (nI a)))) q rfl rfl (by omega) (Nat.le_of_ble_eq_true rfl) rfl dX10_runs_35 ?_
  refine j_aload_n F 4 dX10_runs_36 rfl ?_
  refine j_getf F fX10_66 0 (v := .ref (ad 15)) rfl rfl dX10_runs_37 ?_
  refine j_iload_n F 2 dX10_runs_40 rfl ?_
  refine j_aload_n F 4 dX10_runs_41 rfl ?_
  refine j_getf F fX10_57 0 (v := .ref (ad 13)) rfl rfl dX10_runs_42 ?_
  refine j_iload_n F 3 dX10_runs_45 rfl ?_
  refine j_iald F 13 a (f := ga 12) rfl rfl (by omega) (Nat.le_of_ble_eq_true rfl) dX10_runs_46 ?_
  refine j_top (nI d) h12 ?_
  refine j_iast F 15 (mW ay ad vi (ups (ups ga 13 (upd (ga 13) q (nI a))) 14 (upd (ga 14) q (nI d)))) q rfl rfl (by omega) (Nat.le_of_ble_eq_true rfl) rfl dX10_runs_47 ?_
  refine j_iinc F 2 (nI (q + 1)) [(2, .int (nI (q + 1))), (4, .int 120), (1, .int (nI s)), (3, .int (nI a)), (0, .ref (ad 0))] dX10_runs_48 rfl (nI_1 _) (by decide) rfl ?_
  refine j_goto F 126 dX10_runs_51 (by decide) ?_
  refine j_iinc F 3 (nI (a + 1)) [(3, .int (nI (a + 1))), (2, .int (nI (q + 1))), (4, .int 120), (1, .int (nI s)), (0, .ref (ad 0))] dX10_runs_126 rfl (nI_1 _) (by decide) rfl ?_
  refine j_goto F 6 dX10_runs_129 (by decide) ?_
  refine j_sub [3, 1, 0, 4] [(1, .int (nI s)), (2, .int (nI (q + 1))), (3, .int (nI (a + 1))), (0, .ref (ad 0))] rfl ?_
  exact kk

set_option maxHeartbeats 4000000 in
set_option maxRecDepth 100000 in
theorem r_more (l : Launch) (D : va_G) (ay : Nat → ClassId) (ad : Nat → Nat) {p9 : Program} {e9 : Env} {s9 : State} {m9 : MethodId} {a9 : Array Value} {b9 : List Frame} {me9 : Method} {c9 : Code} {A9 : Nat → Prop} {post : Option Value → va_W → Prop} (F : jF p9 s9 m9 a9 me9 c9 cX10_runs 5 yX10_runs.cls (some .int) D ay A9) (vi : Nat → Int32) (ga : Nat → Nat → Int32) (N s q a t b : Nat) (h23 : vi 23 = nI N) (hN : N ≤ 300) (haN : a < N) (h11 : ga 11 a = 125) (h14 : ga 14 q = nI (t + 1)) (ht : 1 ≤ t ∧ t ≤ 9) (h13 : ga 13 q = nI b) (hq : q < 4) (kk : jJ p9 l e9 ({ frames := 4, cells := 0, slots := 0, locals := 92 } : Room) s9 m9 a9 b9 me9 c9 (MQ b9 (jQ post D ay A9) a9 s9 0 0 A9) D A9 5 0 0 (mW ay ad vi (ups ga 14 (upd (ga 14) q (nI t)))) 6 [(1, .int (nI s)), (2, .int (nI (q + 1))), (3, .int (nI (b + 1))), (0, .ref (ad 0))] []) : jJ p9 l e9 ({ frames := 4, cells := 0, slots := 0, locals := 92 } : Room) s9 m9 a9 b9 me9 c9 (MQ b9 (jQ post D ay A9) a9 s9 0 0 A9) D A9 5 0 0 (mW ay ad vi ga) 6 [(1, .int (nI s)), (2, .int (nI (q + 1))), (3, .int (nI a)), (0, .ref (ad 0))] [] := by
  refine j_iload_n F 2 dX10_runs_6 rfl ?_
  refine j_aload_n F 3 dX10_runs_7 rfl ?_
  refine j_getf F fX10_177 0 (v := .int (vi 23)) rfl rfl dX10_runs_8 ?_
  refine j_top (nI N) h23 ?_
  refine j_icmp_ge F 132 dX10_runs_11 (by decide) (fun c_11 => absurd ((n_le N a rfl rfl (by omega) (by omega)).mp c_11) (by omega)) (fun c_11 => ?_)
  refine j_aload_n F 3 dX10_runs_14 rfl ?_
  refine j_getf F fX10_54 0 (v := .ref (ad 12)) rfl rfl dX10_runs_15 ?_
  refine j_iload_n F 2 dX10_runs_18 rfl ?_
  refine j_iald F 12 a (f := ga 11) rfl rfl (by omega) (Nat.le_of_ble_eq_true rfl) dX10_runs_19 ?_
  refine j_top 125 h11 ?_
  refine j_istore F 4 [(4, .int 125), (1, .int (nI s)), (2, .int (nI (q + 1))), (3, .int (nI a)), (0, .ref (ad 0))] dX10_runs_20 (by decide) rfl ?_
  refine j_iload F 0 dX10_runs_22 rfl ?_
  refine j_bipush F (v := 120) dX10_runs_24 (by decide) ?_
  refine j_icmp_ne F 54 dX10_runs_26 (by decide) (fun c_26 => ?_) (fun c_26 => absurd c_26 (by decide))
  refine j_iload F 0 dX10_runs_54 rfl ?_
  refine j_bipush F (v := 125) dX10_runs_56 (by decide) ?_
  refine j_icmp_ne F 102 dX10_runs_58 (by decide) (fun c_58 => absurd (by decide) c_58) (fun c_58 => ?_)
  refine j_aload_n F 4 dX10_runs_61 rfl ?_
  refine j_getf F fX10_66 0 (v := .ref (ad 15)) rfl rfl dX10_runs_62 ?_
  refine j_iload_n F 2 dX10_runs_65 rfl ?_
  refine j_iconst F (v := 1) dX10_runs_66 (by decide) ?_
  refine j_isub F dX10_runs_67 ?_
  refine j_top (nI q) (pk_sub (a := q + 1) (b := 1) (by omega)) ?_
  refine j_dup2 F dX10_runs_68 rfl rfl ?_
  refine j_iald F 15 q (f := ga 14) rfl rfl (by omega) (Nat.le_of_ble_eq_true rfl) dX10_runs_69 ?_
  refine j_top (nI (t + 1)) h14 ?_
  refine j_iconst F (v := 1) dX10_runs_70 (by decide) ?_
  refine j_isub F dX10_runs_71 ?_
  refine j_top (nI t) (pk_sub (a := t + 1) (b := 1) (by omega)) ?_
  refine j_iast F 15 (mW ay ad vi (ups ga 14 (upd (ga 14) q (nI t)))) q rfl rfl (by omega) (Nat.le_of_ble_eq_true rfl) rfl dX10_runs_72 ?_
  refine j_aload_n F 4 dX10_runs_73 rfl ?_
  refine j_getf F fX10_66 0 (v := .ref (ad 15)) rfl rfl dX10_runs_74 ?_
  refine j_iload_n F 2 dX10_runs_77 rfl ?_
  refine j_iconst F (v := 1) dX10_runs_78 (by decide) ?_
  refine j_isub F dX10_runs_79 ?_
  refine j_top (nI q) (pk_sub (a := q + 1) (b := 1) (by omega)) ?_
  refine j_iald F 15 q (f := upd (ga 14) q (nI t)) rfl rfl (by omega) (Nat.le_of_ble_eq_true rfl) dX10_runs_80 ?_
  refine j_top (nI t) upd_s ?_
  refine j_if_le F 96 dX10_runs_81 (by decide) (fun c_81 => absurd ((n_le t 0 rfl rfl (by omega) (by decide)).mp c_81) (by omega)) (fun c_81 => ?_)
  refine j_aload_n F 4 dX10_runs_84 rfl ?_
  refine j_getf F fX10_63 0 (v := .ref (ad 14)) rfl rfl dX10_runs_85 ?_
  refine j_iload_n F 2 dX10_runs_88 rfl ?_
  refine j_iconst F (v := 1) dX10_runs_89 (by decide) ?_
  refine j_isub F dX10_runs_90 ?_
  refine j_top (nI q) (pk_sub (a := q + 1) (b := 1) (by omega)) ?_
  refine j_iald F 14 q (f := ga 13) rfl rfl (by omega) (Nat.le_of_ble_eq_true rfl) dX10_runs_91 ?_
  refine j_top (nI b) h13 ?_
  refine j_istore_n F 3 [(3, .int (nI b)), (4, .int 125), (1, .int (nI s)), (2, .int (nI (q + 1))), (0, .ref (ad 0))] dX10_runs_92 rfl (by decide) rfl ?_
  refine j_goto F 126 dX10_runs_93 (by decide) ?_
  refine j_iinc F 0 (nI (b + 1)) [(3, .int (nI (b + 1))), (4, .int 125), (1, .int (nI s)), (2, .int (nI (q + 1))), (0, .ref (ad 0))] dX10_runs_126 rfl (nI_1 _) (by decide) rfl ?_
  refine j_goto F 6 dX10_runs_129 (by decide) ?_
  refine j_sub [2, 3, 0, 4] [(1, .int (nI s)), (2, .int (nI (q + 1))), (3, .int (nI (b + 1))), (0, .ref (ad 0))] rfl ?_
  exact kk

set_option maxHeartbeats 4000000 in
set_option maxRecDepth 100000 in
theorem r_last (l : Launch) (D : va_G) (ay : Nat → ClassId) (ad : Nat → Nat) {p9 : Program} {e9 : Env} {s9 : State} {m9 : MethodId} {a9 : Array Value} {b9 : List Frame} {me9 : Method} {c9 : Code} {A9 : Nat → Prop} {post : Option Value → va_W → Prop} (F : jF p9 s9 m9 a9 me9 c9 cX10_runs 5 yX10_runs.cls (some .int) D ay A9) (vi : Nat → Int32) (ga : Nat → Nat → Int32) (N s q a : Nat) (h23 : vi 23 = nI N) (hN : N ≤ 300) (haN : a < N) (h11 : ga 11 a = 125) (h14 : ga 14 q = nI 1) (hq : q < 4) (kk : jJ p9 l e9 ({ frames := 4, cells := 0, slots := 0, locals := 92 } : Room) s9 m9 a9 b9 me9 c9 (MQ b9 (jQ post D ay A9) a9 s9 0 0 A9) D A9 5 0 0 (mW ay ad vi (ups ga 14 (upd (ga 14) q 0))) 6 [(1, .int (nI s)), (2, .int (nI q)), (3, .int (nI (a + 1))), (0, .ref (ad 0))] []) : jJ p9 l e9 ({ frames := 4, cells := 0, slots := 0, locals := 92 } : Room) s9 m9 a9 b9 me9 c9 (MQ b9 (jQ post D ay A9) a9 s9 0 0 A9) D A9 5 0 0 (mW ay ad vi ga) 6 [(1, .int (nI s)), (2, .int (nI (q + 1))), (3, .int (nI a)), (0, .ref (ad 0))] [] := by
  refine j_iload_n F 2 dX10_runs_6 rfl ?_
  refine j_aload_n F 3 dX10_runs_7 rfl ?_
  refine j_getf F fX10_177 0 (v := .int (vi 23)) rfl rfl dX10_runs_8 ?_
  refine j_top (nI N) h23 ?_
  refine j_icmp_ge F 132 dX10_runs_11 (by decide) (fun c_11 => absurd ((n_le N a rfl rfl (by omega) (by omega)).mp c_11) (by omega)) (fun c_11 => ?_)
  refine j_aload_n F 3 dX10_runs_14 rfl ?_
  refine j_getf F fX10_54 0 (v := .ref (ad 12)) rfl rfl dX10_runs_15 ?_
  refine j_iload_n F 2 dX10_runs_18 rfl ?_
  refine j_iald F 12 a (f := ga 11) rfl rfl (by omega) (Nat.le_of_ble_eq_true rfl) dX10_runs_19 ?_
  refine j_top 125 h11 ?_
  refine j_istore F 4 [(4, .int 125), (1, .int (nI s)), (2, .int (nI (q + 1))), (3, .int (nI a)), (0, .ref (ad 0))] dX10_runs_20 (by decide) rfl ?_
  refine j_iload F 0 dX10_runs_22 rfl ?_
  refine j_bipush F (v := 120) dX10_runs_24 (by decide) ?_
  refine j_icmp_ne F 54 dX10_runs_26 (by decide) (fun c_26 => ?_) (fun c_26 => absurd c_26 (by decide))
  refine j_iload F 0 dX10_runs_54 rfl ?_
  refine j_bipush F (v := 125) dX10_runs_56 (by decide) ?_
  refine j_icmp_ne F 102 dX10_runs_58 (by decide) (fun c_58 => absurd (by decide) c_58) (fun c_58 => ?_)
  refine j_aload_n F 4 dX10_runs_61 rfl ?_
  refine j_getf F fX10_66 0 (v := .ref (ad 15)) rfl rfl dX10_runs_62 ?_
  refine j_iload_n F 2 dX10_runs_65 rfl ?_
  refine j_iconst F (v := 1) dX10_runs_66 (by decide) ?_
  refine j_isub F dX10_runs_67 ?_
  refine j_top (nI q) (pk_sub (a := q + 1) (b := 1) (by omega)) ?_
  refine j_dup2 F dX10_runs_68 rfl rfl ?_
  refine j_iald F 15 q (f := ga 14) rfl rfl (by omega) (Nat.le_of_ble_eq_true rfl) dX10_runs_69 ?_
  refine j_top 1 h14 ?_
  refine j_iconst F (v := 1) dX10_runs_70 (by decide) ?_
  refine j_isub F dX10_runs_71 ?_
  refine j_top 0 (by decide) ?_
  refine j_iast F 15 (mW ay ad vi (ups ga 14 (upd (ga 14) q 0))) q rfl rfl (by omega) (Nat.le_of_ble_eq_true rfl) rfl dX10_runs_72 ?_
  refine j_aload_n F 4 dX10_runs_73 rfl ?_
  refine j_getf F fX10_66 0 (v := .ref (ad 15)) rfl rfl dX10_runs_74 ?_
  refine j_iload_n F 2 dX10_runs_77 rfl ?_
  refine j_iconst F (v := 1) dX10_runs_78 (by decide) ?_
  refine j_isub F dX10_runs_79 ?_
  refine j_top (nI q) (pk_sub (a := q + 1) (b := 1) (by omega)) ?_
  refine j_iald F 15 q (f := upd (ga 14) q 0) rfl rfl (by omega) (Nat.le_of_ble_eq_true rfl) dX10_runs_80 ?_
  refine j_top 0 upd_s ?_
  refine j_if_le F 96 dX10_runs_81 (by decide) (fun c_81 => ?_) (fun c_81 => absurd (by decide) c_81)
  refine j_iinc F 2 (nI q) [(2, .int (nI q)), (4, .int 125), (1, .int (nI s)), (3, .int (nI a)), (0, .ref (ad 0))] dX10_runs_96 rfl (nI_dec.trans (pk_sub (a := q + 1) (b := 1) (by omega))) (by decide) rfl ?_
  refine j_goto F 126 dX10_runs_99 (by decide) ?_
  refine j_iinc F 3 (nI (a + 1)) [(3, .int (nI (a + 1))), (2, .int (nI q)), (4, .int 125), (1, .int (nI s)), (0, .ref (ad 0))] dX10_runs_126 rfl (nI_1 _) (by decide) rfl ?_
  refine j_goto F 6 dX10_runs_129 (by decide) ?_
  refine j_sub [3, 1, 0, 4] [(1, .int (nI s)), (2, .int (nI q)), (3, .int (nI (a + 1))), (0, .ref (ad 0))] rfl ?_
  exact kk

set_option maxHeartbeats 4000000 in
set_option maxRecDepth 100000 in
theorem r_end (l : Launch) (D : va_G) (ay : Nat → ClassId) (ad : Nat → Nat) {p9 : Program} {e9 : Env} {s9 : State} {m9 : MethodId} {a9 : Array Value} {b9 : List Frame} {me9 : Method} {c9 : Code} {A9 : Nat → Prop} {post : Option Value → va_W → Prop} (F : jF p9 s9 m9 a9 me9 c9 cX10_runs 5 yX10_runs.cls (some .int) D ay A9) (vi : Nat → Int32) (ga : Nat → Nat → Int32) (N s q : Nat) (h23 : vi 23 = nI N) (hN : N ≤ 300) (hret : post (some (.int (nI s))) (mW ay ad vi ga)) : jJ p9 l e9 ({ frames := 4, cells := 0, slots := 0, locals := 92 } : Room) s9 m9 a9 b9 me9 c9 (MQ b9 (jQ post D ay A9) a9 s9 0 0 A9) D A9 5 0 0 (mW ay ad vi ga) 6 [(1, .int (nI s)), (2, .int (nI q)), (3, .int (nI N)), (0, .ref (ad 0))] [] := by
  refine j_iload_n F 2 dX10_runs_6 rfl ?_
  refine j_aload_n F 3 dX10_runs_7 rfl ?_
  refine j_getf F fX10_177 0 (v := .int (vi 23)) rfl rfl dX10_runs_8 ?_
  refine j_top (nI N) h23 ?_
  refine j_icmp_ge F 132 dX10_runs_11 (by decide) (fun c_11 => ?_) (fun c_11 => absurd (Int32.le_refl _) c_11)
  refine j_iload_n F 0 dX10_runs_132 rfl ?_
  exact j_iret F hret dX10_runs_133 (Nat.le_of_ble_eq_true rfl) (Nat.le_of_ble_eq_true rfl)

