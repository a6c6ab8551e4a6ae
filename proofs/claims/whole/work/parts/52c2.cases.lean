set_option maxHeartbeats 4000000 in
set_option maxRecDepth 100000 in
theorem case_12 (l : Launch) (hfl : l.stackTraces = false) (D : va_G) (ay : Nat → ClassId) (sa : Nat → Nat) (ad ae : Nat → Nat) (o oD bS L : Nat) (xs : Nat → Int32) {p9 : Program} {e9 : Env} {s9 : State} {m9 : MethodId} {a9 : Array Value} {b9 : List Frame} {me9 : Method} {c9 : Code} {A9 : Nat → Prop} {Q9 : State → Prop} (F : jF p9 s9 m9 a9 me9 c9 cL_law 10 RL (some .boolean) D ay A9) (hX : jX sa A9 s9 s9.heap) (hN : jN s9) (hXb : va_X bS L xs s9 s9.heap) (hbl : bS < s9.heap.size) (hbA : ¬ A9 bS) (k n : Nat) (hk : k + 3 ≤ room_1.cells ∧ n + 18 ≤ room_1.slots) (t : Nat) (ht : 6 * t + 6 ≤ L) (hL : L ≤ 3072) (Z : DS) (vi : Nat → Int32) (ga : Nat → Nat → Int32) (fo : Nat → Int64) (fd : Nat → UInt64) (hG : GI Z vi ga) (kk : ∀ (Z' : DS) (vi' : Nat → Int32) (ga' : Nat → Nat → Int32) (fo' : Nat → Int64) (fd' : Nat → UInt64), GI Z' vi' ga' → jJ p9 l e9 room_1 s9 m9 a9 b9 me9 c9 Q9 D A9 10 (k + 3) (n + 18) (LW ay ad ae o oD Z' vi' ga' fo' fd') 2682 [(5, .int (nI (6 * t))), (0, .ref bS), (1, .ref (ad 0)), (2, .ref (ae 0)), (3, .ref o), (4, .ref oD)] []) : jJ p9 l e9 room_1 s9 m9 a9 b9 me9 c9 Q9 D A9 10 k n (LW ay ad ae o oD Z vi ga fo fd) 1082 [(5, .int (nI (6 * t))), (0, .ref bS), (1, .ref (ad 0)), (2, .ref (ae 0)), (3, .ref o), (4, .ref oD)] [] := by
  obtain ⟨x1, hx1⟩ : ∃ y, y = xs (6 * t + 1) := ⟨_, rfl⟩
  obtain ⟨x2, hx2⟩ : ∃ y, y = xs (6 * t + 2) := ⟨_, rfl⟩
  refine j_aload_n F 2 dL_law_1082 rfl ?_
  refine j_aload_n F 1 dL_law_1083 rfl ?_
  refine j_iload F 0 dL_law_1084 rfl ?_
  refine j_iconst F (v := 1) dL_law_1086 (by decide) ?_
  refine j_iadd F dL_law_1087 ?_
  refine j_top (nI (6 * t + 1)) (nI_add _ _) ?_
  refine j_sld F hXb hbl hbA hL (6 * t + 1) (by omega) dL_law_1088 ?_
  refine j_top x1 hx1.symm ?_
  refine j_aload_n F 1 dL_law_1089 rfl ?_
  refine j_iload F 0 dL_law_1090 rfl ?_
  refine j_iconst F (v := 2) dL_law_1092 (by decide) ?_
  refine j_iadd F dL_law_1093 ?_
  refine j_top (nI (6 * t + 2)) (nI_add _ _) ?_
  refine j_sld F hXb hbl hbA hL (6 * t + 2) (by omega) dL_law_1094 ?_
  refine j_top x2 hx2.symm ?_
  refine j_aload_n F 4 dL_law_1095 rfl ?_
  refine j_hcallS F hX hN kL_178 (As := [.ref (ad 0), .int x1, .int x2, .ref o]) (rest := []) (h_placeOf l hfl D ay sa ad Z x1 x2 o fo (fun m hm => (hG.1 m hm).1)) 1 56 rfl rfl rfl rfl rfl ⟨hk.1, hk.2⟩ dL_law_1096 (fun v w hw => ?_)
  rcases hw with ⟨m, y, g0, g1, rfl, rfl, rfl, rfl⟩ | ⟨g0, rfl, rfl⟩
  · skip
    refine ⟨rfl, (LW ay ad ae o oD Z vi ga (vp_updL fo 0 ((fxI (Z.2.2 (2 * m)) (nI y) (Z.1 m) : Int32)).toInt64) fd), rfl, ?_⟩
    refine j_istore F 6 [(6, .int 0), (5, .int (nI (6 * t))), (0, .ref bS), (1, .ref (ad 0)), (2, .ref (ae 0)), (3, .ref o), (4, .ref oD)] dL_law_1099 (by decide) rfl ?_
    refine j_aload_n F 4 dL_law_1101 rfl ?_
    refine j_aload_n F 2 dL_law_1102 rfl ?_
    refine j_iload F 1 dL_law_1103 rfl ?_
    refine j_iconst F (v := 1) dL_law_1105 (by decide) ?_
    refine j_iadd F dL_law_1106 ?_
    refine j_top (nI (6 * t + 1)) (nI_add _ _) ?_
    refine j_sld F hXb hbl hbA hL (6 * t + 1) (by omega) dL_law_1107 ?_
    refine j_top (nI m) hx1.symm ?_
    refine j_aload_n F 2 dL_law_1108 rfl ?_
    refine j_iload F 1 dL_law_1109 rfl ?_
    refine j_iconst F (v := 2) dL_law_1111 (by decide) ?_
    refine j_iadd F dL_law_1112 ?_
    refine j_top (nI (6 * t + 2)) (nI_add _ _) ?_
    refine j_sld F hXb hbl hbA hL (6 * t + 2) (by omega) dL_law_1113 ?_
    refine j_top (nI y) hx2.symm ?_
    refine j_scallV F kL_180 (As := [.int (nI m), .int (nI y)]) (rest := []) (c_X10_placeOf_ok l D ay ae vi ga Z m y hG (by first | assumption | exact ⟨‹_›, ‹_›⟩ | omega) (by first | assumption | exact ⟨‹_›, ‹_›⟩ | omega)) 57 57 20 rfl rfl rfl rfl rfl rfl ⟨hk.1, hk.2⟩ dL_law_1114 (fun v w hw => ?_)
    obtain ⟨vi1, ga1, hG1, hc1, rfl, rfl⟩ := hw
    refine ⟨rfl, (LW ay ad ae o oD Z vi1 ga1 (vp_updL fo 0 ((fxI (Z.2.2 (2 * m)) (nI y) (Z.1 m) : Int32)).toInt64) fd), rfl, ?_⟩
    refine j_top (fxI (Z.2.2 (2 * m)) (nI y) (Z.1 m)) rfl ?_
    refine j_istore F 7 [(7, .int (fxI (Z.2.2 (2 * m)) (nI y) (Z.1 m))), (6, .int 0), (5, .int (nI (6 * t))), (0, .ref bS), (1, .ref (ad 0)), (2, .ref (ae 0)), (3, .ref o), (4, .ref oD)] dL_law_1117 (by decide) rfl ?_
    refine j_aload_n F 5 dL_law_1119 rfl ?_
    refine j_scallV F kL_140 (As := []) (rest := []) (c_X10_thrown l D ay ae vi1 ga1) 57 57 20 rfl rfl rfl rfl rfl rfl ⟨hk.1, hk.2⟩ dL_law_1120 (fun v w hw => ?_)
    obtain ⟨rfl, rfl⟩ := hw
    refine ⟨rfl, (LW ay ad ae o oD Z vi1 ga1 (vp_updL fo 0 ((fxI (Z.2.2 (2 * m)) (nI y) (Z.1 m) : Int32)).toInt64) fd), rfl, ?_⟩
    refine j_top 0 hc1 ?_
    refine j_iload F 1 dL_law_1123 rfl ?_
    refine j_icmp_eq F 1130 dL_law_1125 (by decide) (fun c_1125 => ?_) (fun c_1125 => absurd (by decide) c_1125)
    refine j_iload F 1 dL_law_1130 rfl ?_
    refine j_if_ne F 1147 dL_law_1132 (by decide) (fun c_1132 => absurd (by decide) c_1132) (fun c_1132 => ?_)
    refine j_aload_n F 6 dL_law_1135 rfl ?_
    refine j_iconst F (v := 0) dL_law_1136 (by decide) ?_
    refine j_lald F 56 0 (f := vp_updL fo 0 ((fxI (Z.2.2 (2 * m)) (nI y) (Z.1 m) : Int32)).toInt64) rfl rfl (by decide) (Nat.le_of_ble_eq_true rfl) dL_law_1137 ?_
    refine j_iload F 0 dL_law_1138 rfl ?_
    refine j_i2l F dL_law_1140 ?_
    refine j_lcmp F dL_law_1141 ?_
    refine j_top 0 (lg_self _) ?_
    refine j_if_eq F 1147 dL_law_1142 (by decide) (fun c_1142 => ?_) (fun c_1142 => absurd (by decide) c_1142)
    refine j_goto F 2682 dL_law_1147 (by decide) ?_
    refine j_sub [2, 3, 4, 5, 6, 7] [(5, .int (nI (6 * t))), (0, .ref bS), (1, .ref (ad 0)), (2, .ref (ae 0)), (3, .ref o), (4, .ref oD)] rfl ?_
    exact kk Z vi1 ga1 (vp_updL fo 0 ((fxI (Z.2.2 (2 * m)) (nI y) (Z.1 m) : Int32)).toInt64) fd hG1
  · skip
    refine ⟨rfl, (LW ay ad ae o oD Z vi ga fo fd), rfl, ?_⟩
    refine j_istore F 6 [(6, .int 1), (5, .int (nI (6 * t))), (0, .ref bS), (1, .ref (ad 0)), (2, .ref (ae 0)), (3, .ref o), (4, .ref oD)] dL_law_1099 (by decide) rfl ?_
    refine j_aload_n F 4 dL_law_1101 rfl ?_
    refine j_aload_n F 2 dL_law_1102 rfl ?_
    refine j_iload F 1 dL_law_1103 rfl ?_
    refine j_iconst F (v := 1) dL_law_1105 (by decide) ?_
    refine j_iadd F dL_law_1106 ?_
    refine j_top (nI (6 * t + 1)) (nI_add _ _) ?_
    refine j_sld F hXb hbl hbA hL (6 * t + 1) (by omega) dL_law_1107 ?_
    refine j_top x1 hx1.symm ?_
    refine j_aload_n F 2 dL_law_1108 rfl ?_
    refine j_iload F 1 dL_law_1109 rfl ?_
    refine j_iconst F (v := 2) dL_law_1111 (by decide) ?_
    refine j_iadd F dL_law_1112 ?_
    refine j_top (nI (6 * t + 2)) (nI_add _ _) ?_
    refine j_sld F hXb hbl hbA hL (6 * t + 2) (by omega) dL_law_1113 ?_
    refine j_top x2 hx2.symm ?_
    refine j_scallV F kL_180 (As := [.int x1, .int x2]) (rest := []) (c_X10_placeOf_no l D ay ae vi ga Z x1 x2 hG (by first | assumption | exact ⟨‹_›, ‹_›⟩ | omega)) 57 57 20 rfl rfl rfl rfl rfl rfl ⟨hk.1, hk.2⟩ dL_law_1114 (fun v w hw => ?_)
    obtain ⟨vi1, ga1, hG1, hc1, rfl, rfl⟩ := hw
    refine ⟨rfl, (LW ay ad ae o oD Z vi1 ga1 fo fd), rfl, ?_⟩
    refine j_top 0 rfl ?_
    refine j_istore F 7 [(7, .int 0), (6, .int 1), (5, .int (nI (6 * t))), (0, .ref bS), (1, .ref (ad 0)), (2, .ref (ae 0)), (3, .ref o), (4, .ref oD)] dL_law_1117 (by decide) rfl ?_
    refine j_aload_n F 5 dL_law_1119 rfl ?_
    refine j_scallV F kL_140 (As := []) (rest := []) (c_X10_thrown l D ay ae vi1 ga1) 57 57 20 rfl rfl rfl rfl rfl rfl ⟨hk.1, hk.2⟩ dL_law_1120 (fun v w hw => ?_)
    obtain ⟨rfl, rfl⟩ := hw
    refine ⟨rfl, (LW ay ad ae o oD Z vi1 ga1 fo fd), rfl, ?_⟩
    refine j_top 1 hc1 ?_
    refine j_iload F 1 dL_law_1123 rfl ?_
    refine j_icmp_eq F 1130 dL_law_1125 (by decide) (fun c_1125 => ?_) (fun c_1125 => absurd (by decide) c_1125)
    refine j_iload F 1 dL_law_1130 rfl ?_
    refine j_if_ne F 1147 dL_law_1132 (by decide) (fun c_1132 => ?_) (fun c_1132 => absurd c_1132 (by decide))
    refine j_goto F 2682 dL_law_1147 (by decide) ?_
    refine j_sub [2, 3, 4, 5, 6, 7] [(5, .int (nI (6 * t))), (0, .ref bS), (1, .ref (ad 0)), (2, .ref (ae 0)), (3, .ref o), (4, .ref oD)] rfl ?_
    exact kk Z vi1 ga1 fo fd hG1

set_option maxHeartbeats 4000000 in
set_option maxRecDepth 100000 in
theorem case_13 (l : Launch) (hfl : l.stackTraces = false) (D : va_G) (ay : Nat → ClassId) (sa : Nat → Nat) (ad ae : Nat → Nat) (o oD bS L : Nat) (xs : Nat → Int32) {p9 : Program} {e9 : Env} {s9 : State} {m9 : MethodId} {a9 : Array Value} {b9 : List Frame} {me9 : Method} {c9 : Code} {A9 : Nat → Prop} {Q9 : State → Prop} (F : jF p9 s9 m9 a9 me9 c9 cL_law 10 RL (some .boolean) D ay A9) (hX : jX sa A9 s9 s9.heap) (hN : jN s9) (hXb : va_X bS L xs s9 s9.heap) (hbl : bS < s9.heap.size) (hbA : ¬ A9 bS) (k n : Nat) (hk : k + 3 ≤ room_1.cells ∧ n + 18 ≤ room_1.slots) (t : Nat) (ht : 6 * t + 6 ≤ L) (hL : L ≤ 3072) (Z : DS) (vi : Nat → Int32) (ga : Nat → Nat → Int32) (fo : Nat → Int64) (fd : Nat → UInt64) (hG : GI Z vi ga) (kk : ∀ (Z' : DS) (vi' : Nat → Int32) (ga' : Nat → Nat → Int32) (fo' : Nat → Int64) (fd' : Nat → UInt64), GI Z' vi' ga' → jJ p9 l e9 room_1 s9 m9 a9 b9 me9 c9 Q9 D A9 10 (k + 3) (n + 18) (LW ay ad ae o oD Z' vi' ga' fo' fd') 2682 [(5, .int (nI (6 * t))), (0, .ref bS), (1, .ref (ad 0)), (2, .ref (ae 0)), (3, .ref o), (4, .ref oD)] []) : jJ p9 l e9 room_1 s9 m9 a9 b9 me9 c9 Q9 D A9 10 k n (LW ay ad ae o oD Z vi ga fo fd) 1150 [(5, .int (nI (6 * t))), (0, .ref bS), (1, .ref (ad 0)), (2, .ref (ae 0)), (3, .ref o), (4, .ref oD)] [] := by
  obtain ⟨x1, hx1⟩ : ∃ y, y = xs (6 * t + 1) := ⟨_, rfl⟩
  refine j_aload_n F 2 dL_law_1150 rfl ?_
  refine j_aload_n F 1 dL_law_1151 rfl ?_
  refine j_iload F 0 dL_law_1152 rfl ?_
  refine j_iconst F (v := 1) dL_law_1154 (by decide) ?_
  refine j_iadd F dL_law_1155 ?_
  refine j_top (nI (6 * t + 1)) (nI_add _ _) ?_
  refine j_sld F hXb hbl hbA hL (6 * t + 1) (by omega) dL_law_1156 ?_
  refine j_top x1 hx1.symm ?_
  refine j_aload_n F 4 dL_law_1157 rfl ?_
  refine j_hcallS F hX hN kL_181 (As := [.ref (ad 0), .int x1, .ref o]) (rest := []) (h_sum l hfl D ay sa ad Z x1 o fo (fun m hm => (hG.1 m hm).1)) 1 56 rfl rfl rfl rfl rfl ⟨hk.1, hk.2⟩ dL_law_1158 (fun v w hw => ?_)
  rcases hw with ⟨m, g0, rfl, rfl, rfl⟩ | ⟨g0, rfl, rfl⟩
  · skip
    refine ⟨rfl, (LW ay ad ae o oD Z vi ga (vp_updL fo 0 ((sm (fun j => Z.2.2 (2 * m + 1) (kN (Z.2.2 (2 * m)) j)) (Z.1 m) : Int32)).toInt64) fd), rfl, ?_⟩
    refine j_istore F 6 [(6, .int 0), (5, .int (nI (6 * t))), (0, .ref bS), (1, .ref (ad 0)), (2, .ref (ae 0)), (3, .ref o), (4, .ref oD)] dL_law_1161 (by decide) rfl ?_
    refine j_aload_n F 4 dL_law_1163 rfl ?_
    refine j_aload_n F 2 dL_law_1164 rfl ?_
    refine j_iload F 1 dL_law_1165 rfl ?_
    refine j_iconst F (v := 1) dL_law_1167 (by decide) ?_
    refine j_iadd F dL_law_1168 ?_
    refine j_top (nI (6 * t + 1)) (nI_add _ _) ?_
    refine j_sld F hXb hbl hbA hL (6 * t + 1) (by omega) dL_law_1169 ?_
    refine j_top (nI m) hx1.symm ?_
    refine j_scallV F kL_183 (As := [.int (nI m)]) (rest := []) (c_X10_sum_ok l D ay ae vi ga Z m hG (by first | assumption | exact ⟨‹_›, ‹_›⟩ | omega)) 57 57 20 rfl rfl rfl rfl rfl rfl ⟨hk.1, hk.2⟩ dL_law_1170 (fun v w hw => ?_)
    obtain ⟨vi1, ga1, hG1, hc1, rfl, rfl⟩ := hw
    refine ⟨rfl, (LW ay ad ae o oD Z vi1 ga1 (vp_updL fo 0 ((sm (fun j => Z.2.2 (2 * m + 1) (kN (Z.2.2 (2 * m)) j)) (Z.1 m) : Int32)).toInt64) fd), rfl, ?_⟩
    refine j_top (sm (fun j => Z.2.2 (2 * m + 1) (kN (Z.2.2 (2 * m)) j)) (Z.1 m)) rfl ?_
    refine j_istore F 7 [(7, .int (sm (fun j => Z.2.2 (2 * m + 1) (kN (Z.2.2 (2 * m)) j)) (Z.1 m))), (6, .int 0), (5, .int (nI (6 * t))), (0, .ref bS), (1, .ref (ad 0)), (2, .ref (ae 0)), (3, .ref o), (4, .ref oD)] dL_law_1173 (by decide) rfl ?_
    refine j_aload_n F 5 dL_law_1175 rfl ?_
    refine j_scallV F kL_140 (As := []) (rest := []) (c_X10_thrown l D ay ae vi1 ga1) 57 57 20 rfl rfl rfl rfl rfl rfl ⟨hk.1, hk.2⟩ dL_law_1176 (fun v w hw => ?_)
    obtain ⟨rfl, rfl⟩ := hw
    refine ⟨rfl, (LW ay ad ae o oD Z vi1 ga1 (vp_updL fo 0 ((sm (fun j => Z.2.2 (2 * m + 1) (kN (Z.2.2 (2 * m)) j)) (Z.1 m) : Int32)).toInt64) fd), rfl, ?_⟩
    refine j_top 0 hc1 ?_
    refine j_iload F 1 dL_law_1179 rfl ?_
    refine j_icmp_eq F 1186 dL_law_1181 (by decide) (fun c_1181 => ?_) (fun c_1181 => absurd (by decide) c_1181)
    refine j_iload F 1 dL_law_1186 rfl ?_
    refine j_if_ne F 1203 dL_law_1188 (by decide) (fun c_1188 => absurd (by decide) c_1188) (fun c_1188 => ?_)
    refine j_aload_n F 6 dL_law_1191 rfl ?_
    refine j_iconst F (v := 0) dL_law_1192 (by decide) ?_
    refine j_lald F 56 0 (f := vp_updL fo 0 ((sm (fun j => Z.2.2 (2 * m + 1) (kN (Z.2.2 (2 * m)) j)) (Z.1 m) : Int32)).toInt64) rfl rfl (by decide) (Nat.le_of_ble_eq_true rfl) dL_law_1193 ?_
    refine j_iload F 0 dL_law_1194 rfl ?_
    refine j_i2l F dL_law_1196 ?_
    refine j_lcmp F dL_law_1197 ?_
    refine j_top 0 (lg_self _) ?_
    refine j_if_eq F 1203 dL_law_1198 (by decide) (fun c_1198 => ?_) (fun c_1198 => absurd (by decide) c_1198)
    refine j_goto F 2682 dL_law_1203 (by decide) ?_
    refine j_sub [2, 3, 4, 5, 6, 7] [(5, .int (nI (6 * t))), (0, .ref bS), (1, .ref (ad 0)), (2, .ref (ae 0)), (3, .ref o), (4, .ref oD)] rfl ?_
    exact kk Z vi1 ga1 (vp_updL fo 0 ((sm (fun j => Z.2.2 (2 * m + 1) (kN (Z.2.2 (2 * m)) j)) (Z.1 m) : Int32)).toInt64) fd hG1
  · skip
    refine ⟨rfl, (LW ay ad ae o oD Z vi ga fo fd), rfl, ?_⟩
    refine j_istore F 6 [(6, .int 1), (5, .int (nI (6 * t))), (0, .ref bS), (1, .ref (ad 0)), (2, .ref (ae 0)), (3, .ref o), (4, .ref oD)] dL_law_1161 (by decide) rfl ?_
    refine j_aload_n F 4 dL_law_1163 rfl ?_
    refine j_aload_n F 2 dL_law_1164 rfl ?_
    refine j_iload F 1 dL_law_1165 rfl ?_
    refine j_iconst F (v := 1) dL_law_1167 (by decide) ?_
    refine j_iadd F dL_law_1168 ?_
    refine j_top (nI (6 * t + 1)) (nI_add _ _) ?_
    refine j_sld F hXb hbl hbA hL (6 * t + 1) (by omega) dL_law_1169 ?_
    refine j_top x1 hx1.symm ?_
    refine j_scallV F kL_183 (As := [.int x1]) (rest := []) (c_X10_sum_no l D ay ae vi ga Z x1 hG (by first | assumption | exact ⟨‹_›, ‹_›⟩ | omega)) 57 57 20 rfl rfl rfl rfl rfl rfl ⟨hk.1, hk.2⟩ dL_law_1170 (fun v w hw => ?_)
    obtain ⟨vi1, ga1, hG1, hc1, rfl, rfl⟩ := hw
    refine ⟨rfl, (LW ay ad ae o oD Z vi1 ga1 fo fd), rfl, ?_⟩
    refine j_top 0 rfl ?_
    refine j_istore F 7 [(7, .int 0), (6, .int 1), (5, .int (nI (6 * t))), (0, .ref bS), (1, .ref (ad 0)), (2, .ref (ae 0)), (3, .ref o), (4, .ref oD)] dL_law_1173 (by decide) rfl ?_
    refine j_aload_n F 5 dL_law_1175 rfl ?_
    refine j_scallV F kL_140 (As := []) (rest := []) (c_X10_thrown l D ay ae vi1 ga1) 57 57 20 rfl rfl rfl rfl rfl rfl ⟨hk.1, hk.2⟩ dL_law_1176 (fun v w hw => ?_)
    obtain ⟨rfl, rfl⟩ := hw
    refine ⟨rfl, (LW ay ad ae o oD Z vi1 ga1 fo fd), rfl, ?_⟩
    refine j_top 1 hc1 ?_
    refine j_iload F 1 dL_law_1179 rfl ?_
    refine j_icmp_eq F 1186 dL_law_1181 (by decide) (fun c_1181 => ?_) (fun c_1181 => absurd (by decide) c_1181)
    refine j_iload F 1 dL_law_1186 rfl ?_
    refine j_if_ne F 1203 dL_law_1188 (by decide) (fun c_1188 => ?_) (fun c_1188 => absurd c_1188 (by decide))
    refine j_goto F 2682 dL_law_1203 (by decide) ?_
    refine j_sub [2, 3, 4, 5, 6, 7] [(5, .int (nI (6 * t))), (0, .ref bS), (1, .ref (ad 0)), (2, .ref (ae 0)), (3, .ref o), (4, .ref oD)] rfl ?_
    exact kk Z vi1 ga1 fo fd hG1

set_option maxHeartbeats 4000000 in
set_option maxRecDepth 100000 in
theorem case_14 (l : Launch) (hfl : l.stackTraces = false) (D : va_G) (ay : Nat → ClassId) (sa : Nat → Nat) (ad ae : Nat → Nat) (o oD bS L : Nat) (xs : Nat → Int32) {p9 : Program} {e9 : Env} {s9 : State} {m9 : MethodId} {a9 : Array Value} {b9 : List Frame} {me9 : Method} {c9 : Code} {A9 : Nat → Prop} {Q9 : State → Prop} (F : jF p9 s9 m9 a9 me9 c9 cL_law 10 RL (some .boolean) D ay A9) (hX : jX sa A9 s9 s9.heap) (hN : jN s9) (hXb : va_X bS L xs s9 s9.heap) (hbl : bS < s9.heap.size) (hbA : ¬ A9 bS) (k n : Nat) (hk : k + 3 ≤ room_1.cells ∧ n + 18 ≤ room_1.slots) (t : Nat) (ht : 6 * t + 6 ≤ L) (hL : L ≤ 3072) (Z : DS) (vi : Nat → Int32) (ga : Nat → Nat → Int32) (fo : Nat → Int64) (fd : Nat → UInt64) (hG : GI Z vi ga) (kk : ∀ (Z' : DS) (vi' : Nat → Int32) (ga' : Nat → Nat → Int32) (fo' : Nat → Int64) (fd' : Nat → UInt64), GI Z' vi' ga' → jJ p9 l e9 room_1 s9 m9 a9 b9 me9 c9 Q9 D A9 10 (k + 3) (n + 18) (LW ay ad ae o oD Z' vi' ga' fo' fd') 2682 [(5, .int (nI (6 * t))), (0, .ref bS), (1, .ref (ad 0)), (2, .ref (ae 0)), (3, .ref o), (4, .ref oD)] []) : jJ p9 l e9 room_1 s9 m9 a9 b9 me9 c9 Q9 D A9 10 k n (LW ay ad ae o oD Z vi ga fo fd) 1206 [(5, .int (nI (6 * t))), (0, .ref bS), (1, .ref (ad 0)), (2, .ref (ae 0)), (3, .ref o), (4, .ref oD)] [] := by
  refine j_aload_n F 2 dL_law_1206 rfl ?_
  refine j_scallV F kL_184 (As := []) (rest := []) (c_X9_putOut l D ay ad Z) 1 1 55 rfl rfl rfl rfl rfl rfl ⟨Nat.le_trans (Nat.le_add_right _ _) hk.1, Nat.le_trans (Nat.le_add_right _ _) hk.2⟩ dL_law_1207 (fun v w hw => ?_)
  obtain ⟨rfl, rfl⟩ := hw
  refine ⟨rfl, (LW ay ad ae o oD Z vi ga fo fd), rfl, ?_⟩
  refine j_aload_n F 3 dL_law_1210 rfl ?_
  refine j_scallV F kL_187 (As := []) (rest := [.int (Z.2.1 9)]) (c_X10_putOut_ok l D ay ae vi ga Z hG) 57 57 20 rfl rfl rfl rfl rfl rfl ⟨Nat.le_trans (Nat.le_add_right _ _) hk.1, Nat.le_trans (Nat.le_add_right _ _) hk.2⟩ dL_law_1211 (fun v w hw => ?_)
  obtain ⟨vi1, ga1, hG1, hc1, rfl, rfl⟩ := hw
  refine ⟨rfl, (LW ay ad ae o oD Z vi1 ga1 fo fd), rfl, ?_⟩
  refine j_top (Z.2.1 9) rfl ?_
  refine j_icmp_eq F 2682 dL_law_1214 (by decide) (fun c_1214 => ?_) (fun c_1214 => absurd rfl c_1214)
  refine j_widen (Nat.le_add_right k 3) (Nat.le_add_right n 18) ?_
  refine j_sub [0, 1, 2, 3, 4, 5] [(5, .int (nI (6 * t))), (0, .ref bS), (1, .ref (ad 0)), (2, .ref (ae 0)), (3, .ref o), (4, .ref oD)] rfl ?_
  exact kk Z vi1 ga1 fo fd hG1

set_option maxHeartbeats 4000000 in
set_option maxRecDepth 100000 in
theorem case_15 (l : Launch) (hfl : l.stackTraces = false) (D : va_G) (ay : Nat → ClassId) (sa : Nat → Nat) (ad ae : Nat → Nat) (o oD bS L : Nat) (xs : Nat → Int32) {p9 : Program} {e9 : Env} {s9 : State} {m9 : MethodId} {a9 : Array Value} {b9 : List Frame} {me9 : Method} {c9 : Code} {A9 : Nat → Prop} {Q9 : State → Prop} (F : jF p9 s9 m9 a9 me9 c9 cL_law 10 RL (some .boolean) D ay A9) (hX : jX sa A9 s9 s9.heap) (hN : jN s9) (hXb : va_X bS L xs s9 s9.heap) (hbl : bS < s9.heap.size) (hbA : ¬ A9 bS) (k n : Nat) (hk : k + 3 ≤ room_1.cells ∧ n + 18 ≤ room_1.slots) (t : Nat) (ht : 6 * t + 6 ≤ L) (hL : L ≤ 3072) (Z : DS) (vi : Nat → Int32) (ga : Nat → Nat → Int32) (fo : Nat → Int64) (fd : Nat → UInt64) (hG : GI Z vi ga) (kk : ∀ (Z' : DS) (vi' : Nat → Int32) (ga' : Nat → Nat → Int32) (fo' : Nat → Int64) (fd' : Nat → UInt64), GI Z' vi' ga' → jJ p9 l e9 room_1 s9 m9 a9 b9 me9 c9 Q9 D A9 10 (k + 3) (n + 18) (LW ay ad ae o oD Z' vi' ga' fo' fd') 2682 [(5, .int (nI (6 * t))), (0, .ref bS), (1, .ref (ad 0)), (2, .ref (ae 0)), (3, .ref o), (4, .ref oD)] []) : jJ p9 l e9 room_1 s9 m9 a9 b9 me9 c9 Q9 D A9 10 k n (LW ay ad ae o oD Z vi ga fo fd) 1219 [(5, .int (nI (6 * t))), (0, .ref bS), (1, .ref (ad 0)), (2, .ref (ae 0)), (3, .ref o), (4, .ref oD)] [] := by
  refine j_aload_n F 2 dL_law_1219 rfl ?_
  refine j_scallV F kL_188 (As := []) (rest := []) (c_X9_lastPutOut l D ay ad Z) 1 1 55 rfl rfl rfl rfl rfl rfl ⟨Nat.le_trans (Nat.le_add_right _ _) hk.1, Nat.le_trans (Nat.le_add_right _ _) hk.2⟩ dL_law_1220 (fun v w hw => ?_)
  obtain ⟨rfl, rfl⟩ := hw
  refine ⟨rfl, (LW ay ad ae o oD Z vi ga fo fd), rfl, ?_⟩
  refine j_aload_n F 3 dL_law_1223 rfl ?_
  refine j_scallV F kL_191 (As := []) (rest := [.int (Z.2.1 10)]) (c_X10_lastPutOut_ok l D ay ae vi ga Z hG) 57 57 20 rfl rfl rfl rfl rfl rfl ⟨Nat.le_trans (Nat.le_add_right _ _) hk.1, Nat.le_trans (Nat.le_add_right _ _) hk.2⟩ dL_law_1224 (fun v w hw => ?_)
  obtain ⟨vi1, ga1, hG1, hc1, rfl, rfl⟩ := hw
  refine ⟨rfl, (LW ay ad ae o oD Z vi1 ga1 fo fd), rfl, ?_⟩
  refine j_top (Z.2.1 10) rfl ?_
  refine j_icmp_eq F 2682 dL_law_1227 (by decide) (fun c_1227 => ?_) (fun c_1227 => absurd rfl c_1227)
  refine j_widen (Nat.le_add_right k 3) (Nat.le_add_right n 18) ?_
  refine j_sub [0, 1, 2, 3, 4, 5] [(5, .int (nI (6 * t))), (0, .ref bS), (1, .ref (ad 0)), (2, .ref (ae 0)), (3, .ref o), (4, .ref oD)] rfl ?_
  exact kk Z vi1 ga1 fo fd hG1

set_option maxHeartbeats 4000000 in
set_option maxRecDepth 100000 in
theorem case_16 (l : Launch) (hfl : l.stackTraces = false) (D : va_G) (ay : Nat → ClassId) (sa : Nat → Nat) (ad ae : Nat → Nat) (o oD bS L : Nat) (xs : Nat → Int32) {p9 : Program} {e9 : Env} {s9 : State} {m9 : MethodId} {a9 : Array Value} {b9 : List Frame} {me9 : Method} {c9 : Code} {A9 : Nat → Prop} {Q9 : State → Prop} (F : jF p9 s9 m9 a9 me9 c9 cL_law 10 RL (some .boolean) D ay A9) (hX : jX sa A9 s9 s9.heap) (hN : jN s9) (hXb : va_X bS L xs s9 s9.heap) (hbl : bS < s9.heap.size) (hbA : ¬ A9 bS) (k n : Nat) (hk : k + 3 ≤ room_1.cells ∧ n + 18 ≤ room_1.slots) (t : Nat) (ht : 6 * t + 6 ≤ L) (hL : L ≤ 3072) (Z : DS) (vi : Nat → Int32) (ga : Nat → Nat → Int32) (fo : Nat → Int64) (fd : Nat → UInt64) (hG : GI Z vi ga) (kk : ∀ (Z' : DS) (vi' : Nat → Int32) (ga' : Nat → Nat → Int32) (fo' : Nat → Int64) (fd' : Nat → UInt64), GI Z' vi' ga' → jJ p9 l e9 room_1 s9 m9 a9 b9 me9 c9 Q9 D A9 10 (k + 3) (n + 18) (LW ay ad ae o oD Z' vi' ga' fo' fd') 2682 [(5, .int (nI (6 * t))), (0, .ref bS), (1, .ref (ad 0)), (2, .ref (ae 0)), (3, .ref o), (4, .ref oD)] []) : jJ p9 l e9 room_1 s9 m9 a9 b9 me9 c9 Q9 D A9 10 k n (LW ay ad ae o oD Z vi ga fo fd) 1232 [(5, .int (nI (6 * t))), (0, .ref bS), (1, .ref (ad 0)), (2, .ref (ae 0)), (3, .ref o), (4, .ref oD)] [] := by
  obtain ⟨x1, hx1⟩ : ∃ y, y = xs (6 * t + 1) := ⟨_, rfl⟩
  refine j_aload_n F 2 dL_law_1232 rfl ?_
  refine j_aload_n F 1 dL_law_1233 rfl ?_
  refine j_iload F 0 dL_law_1234 rfl ?_
  refine j_iconst F (v := 1) dL_law_1236 (by decide) ?_
  refine j_iadd F dL_law_1237 ?_
  refine j_top (nI (6 * t + 1)) (nI_add _ _) ?_
  refine j_sld F hXb hbl hbA hL (6 * t + 1) (by omega) dL_law_1238 ?_
  refine j_top x1 hx1.symm ?_
  refine j_aload_n F 4 dL_law_1239 rfl ?_
  refine j_hcallS F hX hN kL_192 (As := [.ref (ad 0), .int x1, .ref o]) (rest := []) (h_beginCursor l hfl D ay sa ad Z x1 o fo) 1 56 rfl rfl rfl rfl rfl ⟨hk.1, hk.2⟩ dL_law_1240 (fun v w hw => ?_)
  rcases hw with ⟨m, g0, rfl, rfl, rfl⟩ | ⟨g0, rfl, rfl⟩
  · skip
    refine ⟨rfl, (LW ay ad ae o oD (mU Z m (Z.1 m) (Z.2.2 (2 * m)) 1 0 0 (Z.2.2 (2 * m + 1)) (Z.1 (12 + m)) (Z.2.1 (4 + 5 * m)) (Z.2.1 (5 + 5 * m))) vi ga (vp_updL fo 0 ((nI (Z.1 m) : Int32)).toInt64) fd), rfl, ?_⟩
    refine j_istore F 6 [(6, .int 0), (5, .int (nI (6 * t))), (0, .ref bS), (1, .ref (ad 0)), (2, .ref (ae 0)), (3, .ref o), (4, .ref oD)] dL_law_1243 (by decide) rfl ?_
    refine j_aload_n F 4 dL_law_1245 rfl ?_
    refine j_aload_n F 2 dL_law_1246 rfl ?_
    refine j_iload F 1 dL_law_1247 rfl ?_
    refine j_iconst F (v := 1) dL_law_1249 (by decide) ?_
    refine j_iadd F dL_law_1250 ?_
    refine j_top (nI (6 * t + 1)) (nI_add _ _) ?_
    refine j_sld F hXb hbl hbA hL (6 * t + 1) (by omega) dL_law_1251 ?_
    refine j_top (nI m) hx1.symm ?_
    refine j_scallV F kL_194 (As := [.int (nI m)]) (rest := []) (c_X10_beginCursor_ok l D ay ae vi ga Z m hG (by first | assumption | exact ⟨‹_›, ‹_›⟩ | omega)) 57 57 20 rfl rfl rfl rfl rfl rfl ⟨hk.1, hk.2⟩ dL_law_1252 (fun v w hw => ?_)
    obtain ⟨vi1, ga1, hG1, hc1, rfl, rfl⟩ := hw
    refine ⟨rfl, (LW ay ad ae o oD (mU Z m (Z.1 m) (Z.2.2 (2 * m)) 1 0 0 (Z.2.2 (2 * m + 1)) (Z.1 (12 + m)) (Z.2.1 (4 + 5 * m)) (Z.2.1 (5 + 5 * m))) vi1 ga1 (vp_updL fo 0 ((nI (Z.1 m) : Int32)).toInt64) fd), rfl, ?_⟩
    refine j_top (nI (Z.1 m)) rfl ?_
    refine j_istore F 7 [(7, .int (nI (Z.1 m))), (6, .int 0), (5, .int (nI (6 * t))), (0, .ref bS), (1, .ref (ad 0)), (2, .ref (ae 0)), (3, .ref o), (4, .ref oD)] dL_law_1255 (by decide) rfl ?_
    refine j_aload_n F 5 dL_law_1257 rfl ?_
    refine j_scallV F kL_140 (As := []) (rest := []) (c_X10_thrown l D ay ae vi1 ga1) 57 57 20 rfl rfl rfl rfl rfl rfl ⟨hk.1, hk.2⟩ dL_law_1258 (fun v w hw => ?_)
    obtain ⟨rfl, rfl⟩ := hw
    refine ⟨rfl, (LW ay ad ae o oD (mU Z m (Z.1 m) (Z.2.2 (2 * m)) 1 0 0 (Z.2.2 (2 * m + 1)) (Z.1 (12 + m)) (Z.2.1 (4 + 5 * m)) (Z.2.1 (5 + 5 * m))) vi1 ga1 (vp_updL fo 0 ((nI (Z.1 m) : Int32)).toInt64) fd), rfl, ?_⟩
    refine j_top 0 hc1 ?_
    refine j_iload F 1 dL_law_1261 rfl ?_
    refine j_icmp_eq F 1268 dL_law_1263 (by decide) (fun c_1263 => ?_) (fun c_1263 => absurd (by decide) c_1263)
    refine j_iload F 1 dL_law_1268 rfl ?_
    refine j_if_ne F 1285 dL_law_1270 (by decide) (fun c_1270 => absurd (by decide) c_1270) (fun c_1270 => ?_)
    refine j_aload_n F 6 dL_law_1273 rfl ?_
    refine j_iconst F (v := 0) dL_law_1274 (by decide) ?_
    refine j_lald F 56 0 (f := vp_updL fo 0 ((nI (Z.1 m) : Int32)).toInt64) rfl rfl (by decide) (Nat.le_of_ble_eq_true rfl) dL_law_1275 ?_
    refine j_iload F 0 dL_law_1276 rfl ?_
    refine j_i2l F dL_law_1278 ?_
    refine j_lcmp F dL_law_1279 ?_
    refine j_top 0 (lg_self _) ?_
    refine j_if_eq F 1285 dL_law_1280 (by decide) (fun c_1280 => ?_) (fun c_1280 => absurd (by decide) c_1280)
    refine j_goto F 2682 dL_law_1285 (by decide) ?_
    refine j_sub [2, 3, 4, 5, 6, 7] [(5, .int (nI (6 * t))), (0, .ref bS), (1, .ref (ad 0)), (2, .ref (ae 0)), (3, .ref o), (4, .ref oD)] rfl ?_
    exact kk (mU Z m (Z.1 m) (Z.2.2 (2 * m)) 1 0 0 (Z.2.2 (2 * m + 1)) (Z.1 (12 + m)) (Z.2.1 (4 + 5 * m)) (Z.2.1 (5 + 5 * m))) vi1 ga1 (vp_updL fo 0 ((nI (Z.1 m) : Int32)).toInt64) fd hG1
  · skip
    refine ⟨rfl, (LW ay ad ae o oD Z vi ga fo fd), rfl, ?_⟩
    refine j_istore F 6 [(6, .int 1), (5, .int (nI (6 * t))), (0, .ref bS), (1, .ref (ad 0)), (2, .ref (ae 0)), (3, .ref o), (4, .ref oD)] dL_law_1243 (by decide) rfl ?_
    refine j_aload_n F 4 dL_law_1245 rfl ?_
    refine j_aload_n F 2 dL_law_1246 rfl ?_
    refine j_iload F 1 dL_law_1247 rfl ?_
    refine j_iconst F (v := 1) dL_law_1249 (by decide) ?_
    refine j_iadd F dL_law_1250 ?_
    refine j_top (nI (6 * t + 1)) (nI_add _ _) ?_
    refine j_sld F hXb hbl hbA hL (6 * t + 1) (by omega) dL_law_1251 ?_
    refine j_top x1 hx1.symm ?_
    refine j_scallV F kL_194 (As := [.int x1]) (rest := []) (c_X10_beginCursor_no l D ay ae vi ga Z x1 hG (by first | assumption | exact ⟨‹_›, ‹_›⟩ | omega)) 57 57 20 rfl rfl rfl rfl rfl rfl ⟨hk.1, hk.2⟩ dL_law_1252 (fun v w hw => ?_)
    obtain ⟨vi1, ga1, hG1, hc1, rfl, rfl⟩ := hw
    refine ⟨rfl, (LW ay ad ae o oD Z vi1 ga1 fo fd), rfl, ?_⟩
    refine j_top 0 rfl ?_
    refine j_istore F 7 [(7, .int 0), (6, .int 1), (5, .int (nI (6 * t))), (0, .ref bS), (1, .ref (ad 0)), (2, .ref (ae 0)), (3, .ref o), (4, .ref oD)] dL_law_1255 (by decide) rfl ?_
    refine j_aload_n F 5 dL_law_1257 rfl ?_
    refine j_scallV F kL_140 (As := []) (rest := []) (c_X10_thrown l D ay ae vi1 ga1) 57 57 20 rfl rfl rfl rfl rfl rfl ⟨hk.1, hk.2⟩ dL_law_1258 (fun v w hw => ?_)
    obtain ⟨rfl, rfl⟩ := hw
    refine ⟨rfl, (LW ay ad ae o oD Z vi1 ga1 fo fd), rfl, ?_⟩
    refine j_top 1 hc1 ?_
    refine j_iload F 1 dL_law_1261 rfl ?_
    refine j_icmp_eq F 1268 dL_law_1263 (by decide) (fun c_1263 => ?_) (fun c_1263 => absurd (by decide) c_1263)
    refine j_iload F 1 dL_law_1268 rfl ?_
    refine j_if_ne F 1285 dL_law_1270 (by decide) (fun c_1270 => ?_) (fun c_1270 => absurd c_1270 (by decide))
    refine j_goto F 2682 dL_law_1285 (by decide) ?_
    refine j_sub [2, 3, 4, 5, 6, 7] [(5, .int (nI (6 * t))), (0, .ref bS), (1, .ref (ad 0)), (2, .ref (ae 0)), (3, .ref o), (4, .ref oD)] rfl ?_
    exact kk Z vi1 ga1 fo fd hG1

set_option maxHeartbeats 4000000 in
set_option maxRecDepth 100000 in
theorem case_17 (l : Launch) (hfl : l.stackTraces = false) (D : va_G) (ay : Nat → ClassId) (sa : Nat → Nat) (ad ae : Nat → Nat) (o oD bS L : Nat) (xs : Nat → Int32) {p9 : Program} {e9 : Env} {s9 : State} {m9 : MethodId} {a9 : Array Value} {b9 : List Frame} {me9 : Method} {c9 : Code} {A9 : Nat → Prop} {Q9 : State → Prop} (F : jF p9 s9 m9 a9 me9 c9 cL_law 10 RL (some .boolean) D ay A9) (hX : jX sa A9 s9 s9.heap) (hN : jN s9) (hXb : va_X bS L xs s9 s9.heap) (hbl : bS < s9.heap.size) (hbA : ¬ A9 bS) (k n : Nat) (hk : k + 3 ≤ room_1.cells ∧ n + 18 ≤ room_1.slots) (t : Nat) (ht : 6 * t + 6 ≤ L) (hL : L ≤ 3072) (Z : DS) (vi : Nat → Int32) (ga : Nat → Nat → Int32) (fo : Nat → Int64) (fd : Nat → UInt64) (hG : GI Z vi ga) (kk : ∀ (Z' : DS) (vi' : Nat → Int32) (ga' : Nat → Nat → Int32) (fo' : Nat → Int64) (fd' : Nat → UInt64), GI Z' vi' ga' → jJ p9 l e9 room_1 s9 m9 a9 b9 me9 c9 Q9 D A9 10 (k + 3) (n + 18) (LW ay ad ae o oD Z' vi' ga' fo' fd') 2682 [(5, .int (nI (6 * t))), (0, .ref bS), (1, .ref (ad 0)), (2, .ref (ae 0)), (3, .ref o), (4, .ref oD)] []) : jJ p9 l e9 room_1 s9 m9 a9 b9 me9 c9 Q9 D A9 10 k n (LW ay ad ae o oD Z vi ga fo fd) 1288 [(5, .int (nI (6 * t))), (0, .ref bS), (1, .ref (ad 0)), (2, .ref (ae 0)), (3, .ref o), (4, .ref oD)] [] := by
  obtain ⟨x1, hx1⟩ : ∃ y, y = xs (6 * t + 1) := ⟨_, rfl⟩
  refine j_aload_n F 2 dL_law_1288 rfl ?_
  refine j_aload_n F 1 dL_law_1289 rfl ?_
  refine j_iload F 0 dL_law_1290 rfl ?_
  refine j_iconst F (v := 1) dL_law_1292 (by decide) ?_
  refine j_iadd F dL_law_1293 ?_
  refine j_top (nI (6 * t + 1)) (nI_add _ _) ?_
  refine j_sld F hXb hbl hbA hL (6 * t + 1) (by omega) dL_law_1294 ?_
  refine j_top x1 hx1.symm ?_
  refine j_aload_n F 4 dL_law_1295 rfl ?_
  refine j_hcallS F hX hN kL_195 (As := [.ref (ad 0), .int x1, .ref o]) (rest := []) (h_hasNext l hfl D ay sa ad Z x1 o fo) 1 56 rfl rfl rfl rfl rfl ⟨hk.1, hk.2⟩ dL_law_1296 (fun v w hw => ?_)
  rcases hw with ⟨m, g0, rfl, rfl, rfl⟩ | ⟨g0, rfl, rfl⟩
  · skip
    refine ⟨rfl, (LW ay ad ae o oD Z vi ga (vp_updL fo 0 (if (if ¬ Z.2.1 (1 + 5 * m) = 0 ∧ ¬ nI (Z.1 m) ≤ Z.2.1 (2 + 5 * m) then 1 else 0 : Int32) = 0 then 0 else 1)) fd), rfl, ?_⟩
    refine j_istore F 6 [(6, .int 0), (5, .int (nI (6 * t))), (0, .ref bS), (1, .ref (ad 0)), (2, .ref (ae 0)), (3, .ref o), (4, .ref oD)] dL_law_1299 (by decide) rfl ?_
    refine j_aload_n F 4 dL_law_1301 rfl ?_
    refine j_aload_n F 2 dL_law_1302 rfl ?_
    refine j_iload F 1 dL_law_1303 rfl ?_
    refine j_iconst F (v := 1) dL_law_1305 (by decide) ?_
    refine j_iadd F dL_law_1306 ?_
    refine j_top (nI (6 * t + 1)) (nI_add _ _) ?_
    refine j_sld F hXb hbl hbA hL (6 * t + 1) (by omega) dL_law_1307 ?_
    refine j_top (nI m) hx1.symm ?_
    refine j_scallV F kL_197 (As := [.int (nI m)]) (rest := []) (c_X10_hasNext_ok l D ay ae vi ga Z m hG (by first | assumption | exact ⟨‹_›, ‹_›⟩ | omega)) 57 57 20 rfl rfl rfl rfl rfl rfl ⟨hk.1, hk.2⟩ dL_law_1308 (fun v w hw => ?_)
    obtain ⟨vi1, ga1, hG1, hc1, rfl, rfl⟩ := hw
    refine ⟨rfl, (LW ay ad ae o oD Z vi1 ga1 (vp_updL fo 0 (if (if ¬ Z.2.1 (1 + 5 * m) = 0 ∧ ¬ nI (Z.1 m) ≤ Z.2.1 (2 + 5 * m) then 1 else 0 : Int32) = 0 then 0 else 1)) fd), rfl, ?_⟩
    refine j_top (if ¬ Z.2.1 (1 + 5 * m) = 0 ∧ ¬ nI (Z.1 m) ≤ Z.2.1 (2 + 5 * m) then 1 else 0) rfl ?_
    refine j_istore F 7 [(7, .int (if ¬ Z.2.1 (1 + 5 * m) = 0 ∧ ¬ nI (Z.1 m) ≤ Z.2.1 (2 + 5 * m) then 1 else 0)), (6, .int 0), (5, .int (nI (6 * t))), (0, .ref bS), (1, .ref (ad 0)), (2, .ref (ae 0)), (3, .ref o), (4, .ref oD)] dL_law_1311 (by decide) rfl ?_
    refine j_aload_n F 5 dL_law_1313 rfl ?_
    refine j_scallV F kL_140 (As := []) (rest := []) (c_X10_thrown l D ay ae vi1 ga1) 57 57 20 rfl rfl rfl rfl rfl rfl ⟨hk.1, hk.2⟩ dL_law_1314 (fun v w hw => ?_)
    obtain ⟨rfl, rfl⟩ := hw
    refine ⟨rfl, (LW ay ad ae o oD Z vi1 ga1 (vp_updL fo 0 (if (if ¬ Z.2.1 (1 + 5 * m) = 0 ∧ ¬ nI (Z.1 m) ≤ Z.2.1 (2 + 5 * m) then 1 else 0 : Int32) = 0 then 0 else 1)) fd), rfl, ?_⟩
    refine j_top 0 hc1 ?_
    refine j_iload F 1 dL_law_1317 rfl ?_
    refine j_icmp_eq F 1324 dL_law_1319 (by decide) (fun c_1319 => ?_) (fun c_1319 => absurd (by decide) c_1319)
    refine j_iload F 1 dL_law_1324 rfl ?_
    refine j_if_ne F 1348 dL_law_1326 (by decide) (fun c_1326 => absurd (by decide) c_1326) (fun c_1326 => ?_)
    refine j_aload_n F 6 dL_law_1329 rfl ?_
    refine j_iconst F (v := 0) dL_law_1330 (by decide) ?_
    refine j_lald F 56 0 (f := vp_updL fo 0 (if (if ¬ Z.2.1 (1 + 5 * m) = 0 ∧ ¬ nI (Z.1 m) ≤ Z.2.1 (2 + 5 * m) then 1 else 0 : Int32) = 0 then 0 else 1)) rfl rfl (by decide) (Nat.le_of_ble_eq_true rfl) dL_law_1331 ?_
    refine j_iload F 0 dL_law_1332 rfl ?_
    refine j_if_eq F 1341 dL_law_1334 (by decide) (fun c_1334 => ?_) (fun c_1334 => ?_)
    · skip
      refine j_lconst F (v := 0) dL_law_1341 (by decide) ?_
      refine j_lcmp F dL_law_1342 ?_
      refine j_top 0 ((congrArg (fun z => lg_cmp z 0) ((if_pos c_1334 : (if (if ¬ Z.2.1 (1 + 5 * m) = 0 ∧ ¬ nI (Z.1 m) ≤ Z.2.1 (2 + 5 * m) then 1 else 0 : Int32) = 0 then (0 : Int64) else 1) = 0))).trans (lg_self _)) ?_
      refine j_if_eq F 1348 dL_law_1343 (by decide) (fun c_1343 => ?_) (fun c_1343 => absurd (by decide) c_1343)
      refine j_goto F 2682 dL_law_1348 (by decide) ?_
      refine j_sub [2, 3, 4, 5, 6, 7] [(5, .int (nI (6 * t))), (0, .ref bS), (1, .ref (ad 0)), (2, .ref (ae 0)), (3, .ref o), (4, .ref oD)] rfl ?_
      exact kk Z vi1 ga1 (vp_updL fo 0 (if (if ¬ Z.2.1 (1 + 5 * m) = 0 ∧ ¬ nI (Z.1 m) ≤ Z.2.1 (2 + 5 * m) then 1 else 0 : Int32) = 0 then 0 else 1)) fd hG1
    · skip
      refine j_lconst F (v := 1) dL_law_1337 (by decide) ?_
      refine j_goto F 1342 dL_law_1338 (by decide) ?_
      refine j_lcmp F dL_law_1342 ?_
      refine j_top 0 ((congrArg (fun z => lg_cmp z 1) ((if_neg c_1334 : (if (if ¬ Z.2.1 (1 + 5 * m) = 0 ∧ ¬ nI (Z.1 m) ≤ Z.2.1 (2 + 5 * m) then 1 else 0 : Int32) = 0 then (0 : Int64) else 1) = 1))).trans (lg_self _)) ?_
      refine j_if_eq F 1348 dL_law_1343 (by decide) (fun c_1343 => ?_) (fun c_1343 => absurd (by decide) c_1343)
      refine j_goto F 2682 dL_law_1348 (by decide) ?_
      refine j_sub [2, 3, 4, 5, 6, 7] [(5, .int (nI (6 * t))), (0, .ref bS), (1, .ref (ad 0)), (2, .ref (ae 0)), (3, .ref o), (4, .ref oD)] rfl ?_
      exact kk Z vi1 ga1 (vp_updL fo 0 (if (if ¬ Z.2.1 (1 + 5 * m) = 0 ∧ ¬ nI (Z.1 m) ≤ Z.2.1 (2 + 5 * m) then 1 else 0 : Int32) = 0 then 0 else 1)) fd hG1
  · skip
    refine ⟨rfl, (LW ay ad ae o oD Z vi ga fo fd), rfl, ?_⟩
    refine j_istore F 6 [(6, .int 1), (5, .int (nI (6 * t))), (0, .ref bS), (1, .ref (ad 0)), (2, .ref (ae 0)), (3, .ref o), (4, .ref oD)] dL_law_1299 (by decide) rfl ?_
    refine j_aload_n F 4 dL_law_1301 rfl ?_
    refine j_aload_n F 2 dL_law_1302 rfl ?_
    refine j_iload F 1 dL_law_1303 rfl ?_
    refine j_iconst F (v := 1) dL_law_1305 (by decide) ?_
    refine j_iadd F dL_law_1306 ?_
    refine j_top (nI (6 * t + 1)) (nI_add _ _) ?_
    refine j_sld F hXb hbl hbA hL (6 * t + 1) (by omega) dL_law_1307 ?_
    refine j_top x1 hx1.symm ?_
    refine j_scallV F kL_197 (As := [.int x1]) (rest := []) (c_X10_hasNext_no l D ay ae vi ga Z x1 hG (by first | assumption | exact ⟨‹_›, ‹_›⟩ | omega)) 57 57 20 rfl rfl rfl rfl rfl rfl ⟨hk.1, hk.2⟩ dL_law_1308 (fun v w hw => ?_)
    obtain ⟨vi1, ga1, hG1, hc1, rfl, rfl⟩ := hw
    refine ⟨rfl, (LW ay ad ae o oD Z vi1 ga1 fo fd), rfl, ?_⟩
    refine j_top 0 rfl ?_
    refine j_istore F 7 [(7, .int 0), (6, .int 1), (5, .int (nI (6 * t))), (0, .ref bS), (1, .ref (ad 0)), (2, .ref (ae 0)), (3, .ref o), (4, .ref oD)] dL_law_1311 (by decide) rfl ?_
    refine j_aload_n F 5 dL_law_1313 rfl ?_
    refine j_scallV F kL_140 (As := []) (rest := []) (c_X10_thrown l D ay ae vi1 ga1) 57 57 20 rfl rfl rfl rfl rfl rfl ⟨hk.1, hk.2⟩ dL_law_1314 (fun v w hw => ?_)
    obtain ⟨rfl, rfl⟩ := hw
    refine ⟨rfl, (LW ay ad ae o oD Z vi1 ga1 fo fd), rfl, ?_⟩
    refine j_top 1 hc1 ?_
    refine j_iload F 1 dL_law_1317 rfl ?_
    refine j_icmp_eq F 1324 dL_law_1319 (by decide) (fun c_1319 => ?_) (fun c_1319 => absurd (by decide) c_1319)
    refine j_iload F 1 dL_law_1324 rfl ?_
    refine j_if_ne F 1348 dL_law_1326 (by decide) (fun c_1326 => ?_) (fun c_1326 => absurd c_1326 (by decide))
    refine j_goto F 2682 dL_law_1348 (by decide) ?_
    refine j_sub [2, 3, 4, 5, 6, 7] [(5, .int (nI (6 * t))), (0, .ref bS), (1, .ref (ad 0)), (2, .ref (ae 0)), (3, .ref o), (4, .ref oD)] rfl ?_
    exact kk Z vi1 ga1 fo fd hG1

set_option maxHeartbeats 4000000 in
set_option maxRecDepth 100000 in
theorem case_18 (l : Launch) (hfl : l.stackTraces = false) (D : va_G) (ay : Nat → ClassId) (sa : Nat → Nat) (ad ae : Nat → Nat) (o oD bS L : Nat) (xs : Nat → Int32) {p9 : Program} {e9 : Env} {s9 : State} {m9 : MethodId} {a9 : Array Value} {b9 : List Frame} {me9 : Method} {c9 : Code} {A9 : Nat → Prop} {Q9 : State → Prop} (F : jF p9 s9 m9 a9 me9 c9 cL_law 10 RL (some .boolean) D ay A9) (hX : jX sa A9 s9 s9.heap) (hN : jN s9) (hXb : va_X bS L xs s9 s9.heap) (hbl : bS < s9.heap.size) (hbA : ¬ A9 bS) (k n : Nat) (hk : k + 3 ≤ room_1.cells ∧ n + 18 ≤ room_1.slots) (t : Nat) (ht : 6 * t + 6 ≤ L) (hL : L ≤ 3072) (Z : DS) (vi : Nat → Int32) (ga : Nat → Nat → Int32) (fo : Nat → Int64) (fd : Nat → UInt64) (hG : GI Z vi ga) (kk : ∀ (Z' : DS) (vi' : Nat → Int32) (ga' : Nat → Nat → Int32) (fo' : Nat → Int64) (fd' : Nat → UInt64), GI Z' vi' ga' → jJ p9 l e9 room_1 s9 m9 a9 b9 me9 c9 Q9 D A9 10 (k + 3) (n + 18) (LW ay ad ae o oD Z' vi' ga' fo' fd') 2682 [(5, .int (nI (6 * t))), (0, .ref bS), (1, .ref (ad 0)), (2, .ref (ae 0)), (3, .ref o), (4, .ref oD)] []) : jJ p9 l e9 room_1 s9 m9 a9 b9 me9 c9 Q9 D A9 10 k n (LW ay ad ae o oD Z vi ga fo fd) 1351 [(5, .int (nI (6 * t))), (0, .ref bS), (1, .ref (ad 0)), (2, .ref (ae 0)), (3, .ref o), (4, .ref oD)] [] := by
  obtain ⟨x1, hx1⟩ : ∃ y, y = xs (6 * t + 1) := ⟨_, rfl⟩
  refine j_aload_n F 2 dL_law_1351 rfl ?_
  refine j_aload_n F 1 dL_law_1352 rfl ?_
  refine j_iload F 0 dL_law_1353 rfl ?_
  refine j_iconst F (v := 1) dL_law_1355 (by decide) ?_
  refine j_iadd F dL_law_1356 ?_
  refine j_top (nI (6 * t + 1)) (nI_add _ _) ?_
  refine j_sld F hXb hbl hbA hL (6 * t + 1) (by omega) dL_law_1357 ?_
  refine j_top x1 hx1.symm ?_
  refine j_aload_n F 4 dL_law_1358 rfl ?_
  refine j_hcallS F hX hN kL_198 (As := [.ref (ad 0), .int x1, .ref o]) (rest := []) (h_next l hfl D ay sa ad Z x1 o fo (fun m hm => (hG.1 m hm).1)) 1 56 rfl rfl rfl rfl rfl ⟨hk.1, hk.2⟩ dL_law_1359 (fun v w hw => ?_)
  rcases hw with ⟨m, j, g0, g1, g2, g3, rfl, rfl, rfl⟩ | ⟨g0, rfl, rfl⟩ | ⟨⟨m, g0, rfl, g2⟩, rfl, rfl⟩ | ⟨⟨m, g0, rfl, g2, g3⟩, rfl, rfl⟩
  · skip
    refine ⟨rfl, (LW ay ad ae o oD (mU Z m (Z.1 m) (Z.2.2 (2 * m)) (Z.2.1 (1 + 5 * m)) (nI (j + 1)) 1 (Z.2.2 (2 * m + 1)) (Z.1 (12 + m)) (Z.2.1 (4 + 5 * m)) (Z.2.1 (5 + 5 * m))) vi ga (vp_updL fo 0 ((1000 * Z.2.2 (2 * m) j + Z.2.2 (2 * m + 1) (kN (Z.2.2 (2 * m)) j) : Int32)).toInt64) fd), rfl, ?_⟩
    refine j_istore F 6 [(6, .int 0), (5, .int (nI (6 * t))), (0, .ref bS), (1, .ref (ad 0)), (2, .ref (ae 0)), (3, .ref o), (4, .ref oD)] dL_law_1362 (by decide) rfl ?_
    refine j_aload_n F 4 dL_law_1364 rfl ?_
    refine j_aload_n F 2 dL_law_1365 rfl ?_
    refine j_iload F 1 dL_law_1366 rfl ?_
    refine j_iconst F (v := 1) dL_law_1368 (by decide) ?_
    refine j_iadd F dL_law_1369 ?_
    refine j_top (nI (6 * t + 1)) (nI_add _ _) ?_
    refine j_sld F hXb hbl hbA hL (6 * t + 1) (by omega) dL_law_1370 ?_
    refine j_top (nI m) hx1.symm ?_
    refine j_scallV F kL_200 (As := [.int (nI m)]) (rest := []) (c_X10_next_ok l D ay ae vi ga Z m j hG (by first | assumption | exact ⟨‹_›, ‹_›⟩ | omega) (by first | assumption | exact ⟨‹_›, ‹_›⟩ | omega) (by first | assumption | exact ⟨‹_›, ‹_›⟩ | omega) (by first | assumption | exact ⟨‹_›, ‹_›⟩ | omega)) 57 57 20 rfl rfl rfl rfl rfl rfl ⟨hk.1, hk.2⟩ dL_law_1371 (fun v w hw => ?_)
    obtain ⟨vi1, ga1, hG1, hc1, rfl, rfl⟩ := hw
    refine ⟨rfl, (LW ay ad ae o oD (mU Z m (Z.1 m) (Z.2.2 (2 * m)) (Z.2.1 (1 + 5 * m)) (nI (j + 1)) 1 (Z.2.2 (2 * m + 1)) (Z.1 (12 + m)) (Z.2.1 (4 + 5 * m)) (Z.2.1 (5 + 5 * m))) vi1 ga1 (vp_updL fo 0 ((1000 * Z.2.2 (2 * m) j + Z.2.2 (2 * m + 1) (kN (Z.2.2 (2 * m)) j) : Int32)).toInt64) fd), rfl, ?_⟩
    refine j_top (1000 * Z.2.2 (2 * m) j + Z.2.2 (2 * m + 1) (kN (Z.2.2 (2 * m)) j)) rfl ?_
    refine j_istore F 7 [(7, .int (1000 * Z.2.2 (2 * m) j + Z.2.2 (2 * m + 1) (kN (Z.2.2 (2 * m)) j))), (6, .int 0), (5, .int (nI (6 * t))), (0, .ref bS), (1, .ref (ad 0)), (2, .ref (ae 0)), (3, .ref o), (4, .ref oD)] dL_law_1374 (by decide) rfl ?_
    refine j_aload_n F 5 dL_law_1376 rfl ?_
    refine j_scallV F kL_140 (As := []) (rest := []) (c_X10_thrown l D ay ae vi1 ga1) 57 57 20 rfl rfl rfl rfl rfl rfl ⟨hk.1, hk.2⟩ dL_law_1377 (fun v w hw => ?_)
    obtain ⟨rfl, rfl⟩ := hw
    refine ⟨rfl, (LW ay ad ae o oD (mU Z m (Z.1 m) (Z.2.2 (2 * m)) (Z.2.1 (1 + 5 * m)) (nI (j + 1)) 1 (Z.2.2 (2 * m + 1)) (Z.1 (12 + m)) (Z.2.1 (4 + 5 * m)) (Z.2.1 (5 + 5 * m))) vi1 ga1 (vp_updL fo 0 ((1000 * Z.2.2 (2 * m) j + Z.2.2 (2 * m + 1) (kN (Z.2.2 (2 * m)) j) : Int32)).toInt64) fd), rfl, ?_⟩
    refine j_top 0 hc1 ?_
    refine j_iload F 1 dL_law_1380 rfl ?_
    refine j_icmp_eq F 1387 dL_law_1382 (by decide) (fun c_1382 => ?_) (fun c_1382 => absurd (by decide) c_1382)
    refine j_iload F 1 dL_law_1387 rfl ?_
    refine j_if_ne F 1404 dL_law_1389 (by decide) (fun c_1389 => absurd (by decide) c_1389) (fun c_1389 => ?_)
    refine j_aload_n F 6 dL_law_1392 rfl ?_
    refine j_iconst F (v := 0) dL_law_1393 (by decide) ?_
    refine j_lald F 56 0 (f := vp_updL fo 0 ((1000 * Z.2.2 (2 * m) j + Z.2.2 (2 * m + 1) (kN (Z.2.2 (2 * m)) j) : Int32)).toInt64) rfl rfl (by decide) (Nat.le_of_ble_eq_true rfl) dL_law_1394 ?_
    refine j_iload F 0 dL_law_1395 rfl ?_
    refine j_i2l F dL_law_1397 ?_
    refine j_lcmp F dL_law_1398 ?_
    refine j_top 0 (lg_self _) ?_
    refine j_if_eq F 1404 dL_law_1399 (by decide) (fun c_1399 => ?_) (fun c_1399 => absurd (by decide) c_1399)
    refine j_goto F 2682 dL_law_1404 (by decide) ?_
    refine j_sub [2, 3, 4, 5, 6, 7] [(5, .int (nI (6 * t))), (0, .ref bS), (1, .ref (ad 0)), (2, .ref (ae 0)), (3, .ref o), (4, .ref oD)] rfl ?_
    exact kk (mU Z m (Z.1 m) (Z.2.2 (2 * m)) (Z.2.1 (1 + 5 * m)) (nI (j + 1)) 1 (Z.2.2 (2 * m + 1)) (Z.1 (12 + m)) (Z.2.1 (4 + 5 * m)) (Z.2.1 (5 + 5 * m))) vi1 ga1 (vp_updL fo 0 ((1000 * Z.2.2 (2 * m) j + Z.2.2 (2 * m + 1) (kN (Z.2.2 (2 * m)) j) : Int32)).toInt64) fd hG1
  · skip
    refine ⟨rfl, (LW ay ad ae o oD Z vi ga fo fd), rfl, ?_⟩
    refine j_istore F 6 [(6, .int 1), (5, .int (nI (6 * t))), (0, .ref bS), (1, .ref (ad 0)), (2, .ref (ae 0)), (3, .ref o), (4, .ref oD)] dL_law_1362 (by decide) rfl ?_
    refine j_aload_n F 4 dL_law_1364 rfl ?_
    refine j_aload_n F 2 dL_law_1365 rfl ?_
    refine j_iload F 1 dL_law_1366 rfl ?_
    refine j_iconst F (v := 1) dL_law_1368 (by decide) ?_
    refine j_iadd F dL_law_1369 ?_
    refine j_top (nI (6 * t + 1)) (nI_add _ _) ?_
    refine j_sld F hXb hbl hbA hL (6 * t + 1) (by omega) dL_law_1370 ?_
    refine j_top x1 hx1.symm ?_
    refine j_scallV F kL_200 (As := [.int x1]) (rest := []) (c_X10_next_no1 l D ay ae vi ga Z x1 hG (by first | assumption | exact ⟨‹_›, ‹_›⟩ | omega)) 57 57 20 rfl rfl rfl rfl rfl rfl ⟨hk.1, hk.2⟩ dL_law_1371 (fun v w hw => ?_)
    obtain ⟨vi1, ga1, hG1, hc1, rfl, rfl⟩ := hw
    refine ⟨rfl, (LW ay ad ae o oD Z vi1 ga1 fo fd), rfl, ?_⟩
    refine j_top 0 rfl ?_
    refine j_istore F 7 [(7, .int 0), (6, .int 1), (5, .int (nI (6 * t))), (0, .ref bS), (1, .ref (ad 0)), (2, .ref (ae 0)), (3, .ref o), (4, .ref oD)] dL_law_1374 (by decide) rfl ?_
    refine j_aload_n F 5 dL_law_1376 rfl ?_
    refine j_scallV F kL_140 (As := []) (rest := []) (c_X10_thrown l D ay ae vi1 ga1) 57 57 20 rfl rfl rfl rfl rfl rfl ⟨hk.1, hk.2⟩ dL_law_1377 (fun v w hw => ?_)
    obtain ⟨rfl, rfl⟩ := hw
    refine ⟨rfl, (LW ay ad ae o oD Z vi1 ga1 fo fd), rfl, ?_⟩
    refine j_top 1 hc1 ?_
    refine j_iload F 1 dL_law_1380 rfl ?_
    refine j_icmp_eq F 1387 dL_law_1382 (by decide) (fun c_1382 => ?_) (fun c_1382 => absurd (by decide) c_1382)
    refine j_iload F 1 dL_law_1387 rfl ?_
    refine j_if_ne F 1404 dL_law_1389 (by decide) (fun c_1389 => ?_) (fun c_1389 => absurd c_1389 (by decide))
    refine j_goto F 2682 dL_law_1404 (by decide) ?_
    refine j_sub [2, 3, 4, 5, 6, 7] [(5, .int (nI (6 * t))), (0, .ref bS), (1, .ref (ad 0)), (2, .ref (ae 0)), (3, .ref o), (4, .ref oD)] rfl ?_
    exact kk Z vi1 ga1 fo fd hG1
  · skip
    refine ⟨rfl, (LW ay ad ae o oD Z vi ga fo fd), rfl, ?_⟩
    refine j_istore F 6 [(6, .int 2), (5, .int (nI (6 * t))), (0, .ref bS), (1, .ref (ad 0)), (2, .ref (ae 0)), (3, .ref o), (4, .ref oD)] dL_law_1362 (by decide) rfl ?_
    refine j_aload_n F 4 dL_law_1364 rfl ?_
    refine j_aload_n F 2 dL_law_1365 rfl ?_
    refine j_iload F 1 dL_law_1366 rfl ?_
    refine j_iconst F (v := 1) dL_law_1368 (by decide) ?_
    refine j_iadd F dL_law_1369 ?_
    refine j_top (nI (6 * t + 1)) (nI_add _ _) ?_
    refine j_sld F hXb hbl hbA hL (6 * t + 1) (by omega) dL_law_1370 ?_
    refine j_top (nI m) hx1.symm ?_
    refine j_scallV F kL_200 (As := [.int (nI m)]) (rest := []) (c_X10_next_no2 l D ay ae vi ga Z m hG (by first | assumption | exact ⟨‹_›, ‹_›⟩ | omega) (by first | assumption | exact ⟨‹_›, ‹_›⟩ | omega)) 57 57 20 rfl rfl rfl rfl rfl rfl ⟨hk.1, hk.2⟩ dL_law_1371 (fun v w hw => ?_)
    obtain ⟨vi1, ga1, hG1, hc1, rfl, rfl⟩ := hw
    refine ⟨rfl, (LW ay ad ae o oD Z vi1 ga1 fo fd), rfl, ?_⟩
    refine j_top 0 rfl ?_
    refine j_istore F 7 [(7, .int 0), (6, .int 2), (5, .int (nI (6 * t))), (0, .ref bS), (1, .ref (ad 0)), (2, .ref (ae 0)), (3, .ref o), (4, .ref oD)] dL_law_1374 (by decide) rfl ?_
    refine j_aload_n F 5 dL_law_1376 rfl ?_
    refine j_scallV F kL_140 (As := []) (rest := []) (c_X10_thrown l D ay ae vi1 ga1) 57 57 20 rfl rfl rfl rfl rfl rfl ⟨hk.1, hk.2⟩ dL_law_1377 (fun v w hw => ?_)
    obtain ⟨rfl, rfl⟩ := hw
    refine ⟨rfl, (LW ay ad ae o oD Z vi1 ga1 fo fd), rfl, ?_⟩
    refine j_top 2 hc1 ?_
    refine j_iload F 1 dL_law_1380 rfl ?_
    refine j_icmp_eq F 1387 dL_law_1382 (by decide) (fun c_1382 => ?_) (fun c_1382 => absurd (by decide) c_1382)
    refine j_iload F 1 dL_law_1387 rfl ?_
    refine j_if_ne F 1404 dL_law_1389 (by decide) (fun c_1389 => ?_) (fun c_1389 => absurd c_1389 (by decide))
    refine j_goto F 2682 dL_law_1404 (by decide) ?_
    refine j_sub [2, 3, 4, 5, 6, 7] [(5, .int (nI (6 * t))), (0, .ref bS), (1, .ref (ad 0)), (2, .ref (ae 0)), (3, .ref o), (4, .ref oD)] rfl ?_
    exact kk Z vi1 ga1 fo fd hG1
  · skip
    refine ⟨rfl, (LW ay ad ae o oD Z vi ga fo fd), rfl, ?_⟩
    refine j_istore F 6 [(6, .int 3), (5, .int (nI (6 * t))), (0, .ref bS), (1, .ref (ad 0)), (2, .ref (ae 0)), (3, .ref o), (4, .ref oD)] dL_law_1362 (by decide) rfl ?_
    refine j_aload_n F 4 dL_law_1364 rfl ?_
    refine j_aload_n F 2 dL_law_1365 rfl ?_
    refine j_iload F 1 dL_law_1366 rfl ?_
    refine j_iconst F (v := 1) dL_law_1368 (by decide) ?_
    refine j_iadd F dL_law_1369 ?_
    refine j_top (nI (6 * t + 1)) (nI_add _ _) ?_
    refine j_sld F hXb hbl hbA hL (6 * t + 1) (by omega) dL_law_1370 ?_
    refine j_top (nI m) hx1.symm ?_
    refine j_scallV F kL_200 (As := [.int (nI m)]) (rest := []) (c_X10_next_no3 l D ay ae vi ga Z m hG (by first | assumption | exact ⟨‹_›, ‹_›⟩ | omega) (by first | assumption | exact ⟨‹_›, ‹_›⟩ | omega) (by first | assumption | exact ⟨‹_›, ‹_›⟩ | omega)) 57 57 20 rfl rfl rfl rfl rfl rfl ⟨hk.1, hk.2⟩ dL_law_1371 (fun v w hw => ?_)
    obtain ⟨vi1, ga1, hG1, hc1, rfl, rfl⟩ := hw
    refine ⟨rfl, (LW ay ad ae o oD Z vi1 ga1 fo fd), rfl, ?_⟩
    refine j_top 0 rfl ?_
    refine j_istore F 7 [(7, .int 0), (6, .int 3), (5, .int (nI (6 * t))), (0, .ref bS), (1, .ref (ad 0)), (2, .ref (ae 0)), (3, .ref o), (4, .ref oD)] dL_law_1374 (by decide) rfl ?_
    refine j_aload_n F 5 dL_law_1376 rfl ?_
    refine j_scallV F kL_140 (As := []) (rest := []) (c_X10_thrown l D ay ae vi1 ga1) 57 57 20 rfl rfl rfl rfl rfl rfl ⟨hk.1, hk.2⟩ dL_law_1377 (fun v w hw => ?_)
    obtain ⟨rfl, rfl⟩ := hw
    refine ⟨rfl, (LW ay ad ae o oD Z vi1 ga1 fo fd), rfl, ?_⟩
    refine j_top 3 hc1 ?_
    refine j_iload F 1 dL_law_1380 rfl ?_
    refine j_icmp_eq F 1387 dL_law_1382 (by decide) (fun c_1382 => ?_) (fun c_1382 => absurd (by decide) c_1382)
    refine j_iload F 1 dL_law_1387 rfl ?_
    refine j_if_ne F 1404 dL_law_1389 (by decide) (fun c_1389 => ?_) (fun c_1389 => absurd c_1389 (by decide))
    refine j_goto F 2682 dL_law_1404 (by decide) ?_
    refine j_sub [2, 3, 4, 5, 6, 7] [(5, .int (nI (6 * t))), (0, .ref bS), (1, .ref (ad 0)), (2, .ref (ae 0)), (3, .ref o), (4, .ref oD)] rfl ?_
    exact kk Z vi1 ga1 fo fd hG1

set_option maxHeartbeats 4000000 in
set_option maxRecDepth 100000 in
theorem case_19 (l : Launch) (hfl : l.stackTraces = false) (D : va_G) (ay : Nat → ClassId) (sa : Nat → Nat) (ad ae : Nat → Nat) (o oD bS L : Nat) (xs : Nat → Int32) {p9 : Program} {e9 : Env} {s9 : State} {m9 : MethodId} {a9 : Array Value} {b9 : List Frame} {me9 : Method} {c9 : Code} {A9 : Nat → Prop} {Q9 : State → Prop} (F : jF p9 s9 m9 a9 me9 c9 cL_law 10 RL (some .boolean) D ay A9) (hX : jX sa A9 s9 s9.heap) (hN : jN s9) (hXb : va_X bS L xs s9 s9.heap) (hbl : bS < s9.heap.size) (hbA : ¬ A9 bS) (k n : Nat) (hk : k + 3 ≤ room_1.cells ∧ n + 18 ≤ room_1.slots) (t : Nat) (ht : 6 * t + 6 ≤ L) (hL : L ≤ 3072) (Z : DS) (vi : Nat → Int32) (ga : Nat → Nat → Int32) (fo : Nat → Int64) (fd : Nat → UInt64) (hG : GI Z vi ga) (kk : ∀ (Z' : DS) (vi' : Nat → Int32) (ga' : Nat → Nat → Int32) (fo' : Nat → Int64) (fd' : Nat → UInt64), GI Z' vi' ga' → jJ p9 l e9 room_1 s9 m9 a9 b9 me9 c9 Q9 D A9 10 (k + 3) (n + 18) (LW ay ad ae o oD Z' vi' ga' fo' fd') 2682 [(5, .int (nI (6 * t))), (0, .ref bS), (1, .ref (ad 0)), (2, .ref (ae 0)), (3, .ref o), (4, .ref oD)] []) : jJ p9 l e9 room_1 s9 m9 a9 b9 me9 c9 Q9 D A9 10 k n (LW ay ad ae o oD Z vi ga fo fd) 1407 [(5, .int (nI (6 * t))), (0, .ref bS), (1, .ref (ad 0)), (2, .ref (ae 0)), (3, .ref o), (4, .ref oD)] [] := by
  obtain ⟨x1, hx1⟩ : ∃ y, y = xs (6 * t + 1) := ⟨_, rfl⟩
  refine j_aload_n F 2 dL_law_1407 rfl ?_
  refine j_aload_n F 1 dL_law_1408 rfl ?_
  refine j_iload F 0 dL_law_1409 rfl ?_
  refine j_iconst F (v := 1) dL_law_1411 (by decide) ?_
  refine j_iadd F dL_law_1412 ?_
  refine j_top (nI (6 * t + 1)) (nI_add _ _) ?_
  refine j_sld F hXb hbl hbA hL (6 * t + 1) (by omega) dL_law_1413 ?_
  refine j_top x1 hx1.symm ?_
  refine j_aload_n F 4 dL_law_1414 rfl ?_
  refine j_hcallS F hX hN kL_201 (As := [.ref (ad 0), .int x1, .ref o]) (rest := []) (h_takeOut l hfl D ay sa ad Z x1 o fo (fun m hm => (hG.1 m hm).1)) 1 56 rfl rfl rfl rfl rfl ⟨hk.1, hk.2⟩ dL_law_1415 (fun v w hw => ?_)
  rcases hw with ⟨m, j, g0, g1, g2, g3, g4, g5, rfl, rfl, rfl⟩ | ⟨g0, rfl, rfl⟩ | ⟨⟨m, g0, rfl, g2⟩, rfl, rfl⟩
  · skip
    refine ⟨rfl, (LW ay ad ae o oD (mU Z m (Z.1 m - 1) (shf (Z.2.2 (2 * m)) (j - 1) (Z.1 m)) (Z.2.1 (1 + 5 * m)) (nI (j - 1)) 0 (Z.2.2 (2 * m + 1)) (Z.1 (12 + m)) (Z.2.1 (4 + 5 * m)) (Z.2.1 (5 + 5 * m))) vi ga (vp_updL fo 0 ((nI (Z.1 m - 1) : Int32)).toInt64) fd), rfl, ?_⟩
    refine j_istore F 6 [(6, .int 0), (5, .int (nI (6 * t))), (0, .ref bS), (1, .ref (ad 0)), (2, .ref (ae 0)), (3, .ref o), (4, .ref oD)] dL_law_1418 (by decide) rfl ?_
    refine j_aload_n F 4 dL_law_1420 rfl ?_
    refine j_aload_n F 2 dL_law_1421 rfl ?_
    refine j_iload F 1 dL_law_1422 rfl ?_
    refine j_iconst F (v := 1) dL_law_1424 (by decide) ?_
    refine j_iadd F dL_law_1425 ?_
    refine j_top (nI (6 * t + 1)) (nI_add _ _) ?_
    refine j_sld F hXb hbl hbA hL (6 * t + 1) (by omega) dL_law_1426 ?_
    refine j_top (nI m) hx1.symm ?_
    refine j_scallV F kL_203 (As := [.int (nI m)]) (rest := []) (c_X10_takeOut_ok l D ay ae vi ga Z m j hG (by first | assumption | exact ⟨‹_›, ‹_›⟩ | omega) (by first | assumption | exact ⟨‹_›, ‹_›⟩ | omega) (by first | assumption | exact ⟨‹_›, ‹_›⟩ | omega) (by first | assumption | exact ⟨‹_›, ‹_›⟩ | omega) (by first | assumption | exact ⟨‹_›, ‹_›⟩ | omega)) 57 57 20 rfl rfl rfl rfl rfl rfl ⟨hk.1, hk.2⟩ dL_law_1427 (fun v w hw => ?_)
    obtain ⟨vi1, ga1, hG1, hc1, rfl, rfl⟩ := hw
    refine ⟨rfl, (LW ay ad ae o oD (mU Z m (Z.1 m - 1) (shf (Z.2.2 (2 * m)) (j - 1) (Z.1 m)) (Z.2.1 (1 + 5 * m)) (nI (j - 1)) 0 (Z.2.2 (2 * m + 1)) (Z.1 (12 + m)) (Z.2.1 (4 + 5 * m)) (Z.2.1 (5 + 5 * m))) vi1 ga1 (vp_updL fo 0 ((nI (Z.1 m - 1) : Int32)).toInt64) fd), rfl, ?_⟩
    refine j_top (nI (Z.1 m - 1)) rfl ?_
    refine j_istore F 7 [(7, .int (nI (Z.1 m - 1))), (6, .int 0), (5, .int (nI (6 * t))), (0, .ref bS), (1, .ref (ad 0)), (2, .ref (ae 0)), (3, .ref o), (4, .ref oD)] dL_law_1430 (by decide) rfl ?_
    refine j_aload_n F 5 dL_law_1432 rfl ?_
    refine j_scallV F kL_140 (As := []) (rest := []) (c_X10_thrown l D ay ae vi1 ga1) 57 57 20 rfl rfl rfl rfl rfl rfl ⟨hk.1, hk.2⟩ dL_law_1433 (fun v w hw => ?_)
    obtain ⟨rfl, rfl⟩ := hw
    refine ⟨rfl, (LW ay ad ae o oD (mU Z m (Z.1 m - 1) (shf (Z.2.2 (2 * m)) (j - 1) (Z.1 m)) (Z.2.1 (1 + 5 * m)) (nI (j - 1)) 0 (Z.2.2 (2 * m + 1)) (Z.1 (12 + m)) (Z.2.1 (4 + 5 * m)) (Z.2.1 (5 + 5 * m))) vi1 ga1 (vp_updL fo 0 ((nI (Z.1 m - 1) : Int32)).toInt64) fd), rfl, ?_⟩
    refine j_top 0 hc1 ?_
    refine j_iload F 1 dL_law_1436 rfl ?_
    refine j_icmp_eq F 1443 dL_law_1438 (by decide) (fun c_1438 => ?_) (fun c_1438 => absurd (by decide) c_1438)
    refine j_iload F 1 dL_law_1443 rfl ?_
    refine j_if_ne F 1460 dL_law_1445 (by decide) (fun c_1445 => absurd (by decide) c_1445) (fun c_1445 => ?_)
    refine j_aload_n F 6 dL_law_1448 rfl ?_
    refine j_iconst F (v := 0) dL_law_1449 (by decide) ?_
    refine j_lald F 56 0 (f := vp_updL fo 0 ((nI (Z.1 m - 1) : Int32)).toInt64) rfl rfl (by decide) (Nat.le_of_ble_eq_true rfl) dL_law_1450 ?_
    refine j_iload F 0 dL_law_1451 rfl ?_
    refine j_i2l F dL_law_1453 ?_
    refine j_lcmp F dL_law_1454 ?_
    refine j_top 0 (lg_self _) ?_
    refine j_if_eq F 1460 dL_law_1455 (by decide) (fun c_1455 => ?_) (fun c_1455 => absurd (by decide) c_1455)
    refine j_goto F 2682 dL_law_1460 (by decide) ?_
    refine j_sub [2, 3, 4, 5, 6, 7] [(5, .int (nI (6 * t))), (0, .ref bS), (1, .ref (ad 0)), (2, .ref (ae 0)), (3, .ref o), (4, .ref oD)] rfl ?_
    exact kk (mU Z m (Z.1 m - 1) (shf (Z.2.2 (2 * m)) (j - 1) (Z.1 m)) (Z.2.1 (1 + 5 * m)) (nI (j - 1)) 0 (Z.2.2 (2 * m + 1)) (Z.1 (12 + m)) (Z.2.1 (4 + 5 * m)) (Z.2.1 (5 + 5 * m))) vi1 ga1 (vp_updL fo 0 ((nI (Z.1 m - 1) : Int32)).toInt64) fd hG1
  · skip
    refine ⟨rfl, (LW ay ad ae o oD Z vi ga fo fd), rfl, ?_⟩
    refine j_istore F 6 [(6, .int 1), (5, .int (nI (6 * t))), (0, .ref bS), (1, .ref (ad 0)), (2, .ref (ae 0)), (3, .ref o), (4, .ref oD)] dL_law_1418 (by decide) rfl ?_
    refine j_aload_n F 4 dL_law_1420 rfl ?_
    refine j_aload_n F 2 dL_law_1421 rfl ?_
    refine j_iload F 1 dL_law_1422 rfl ?_
    refine j_iconst F (v := 1) dL_law_1424 (by decide) ?_
    refine j_iadd F dL_law_1425 ?_
    refine j_top (nI (6 * t + 1)) (nI_add _ _) ?_
    refine j_sld F hXb hbl hbA hL (6 * t + 1) (by omega) dL_law_1426 ?_
    refine j_top x1 hx1.symm ?_
    refine j_scallV F kL_203 (As := [.int x1]) (rest := []) (c_X10_takeOut_no1 l D ay ae vi ga Z x1 hG (by first | assumption | exact ⟨‹_›, ‹_›⟩ | omega)) 57 57 20 rfl rfl rfl rfl rfl rfl ⟨hk.1, hk.2⟩ dL_law_1427 (fun v w hw => ?_)
    obtain ⟨vi1, ga1, hG1, hc1, rfl, rfl⟩ := hw
    refine ⟨rfl, (LW ay ad ae o oD Z vi1 ga1 fo fd), rfl, ?_⟩
    refine j_top 0 rfl ?_
    refine j_istore F 7 [(7, .int 0), (6, .int 1), (5, .int (nI (6 * t))), (0, .ref bS), (1, .ref (ad 0)), (2, .ref (ae 0)), (3, .ref o), (4, .ref oD)] dL_law_1430 (by decide) rfl ?_
    refine j_aload_n F 5 dL_law_1432 rfl ?_
    refine j_scallV F kL_140 (As := []) (rest := []) (c_X10_thrown l D ay ae vi1 ga1) 57 57 20 rfl rfl rfl rfl rfl rfl ⟨hk.1, hk.2⟩ dL_law_1433 (fun v w hw => ?_)
    obtain ⟨rfl, rfl⟩ := hw
    refine ⟨rfl, (LW ay ad ae o oD Z vi1 ga1 fo fd), rfl, ?_⟩
    refine j_top 1 hc1 ?_
    refine j_iload F 1 dL_law_1436 rfl ?_
    refine j_icmp_eq F 1443 dL_law_1438 (by decide) (fun c_1438 => ?_) (fun c_1438 => absurd (by decide) c_1438)
    refine j_iload F 1 dL_law_1443 rfl ?_
    refine j_if_ne F 1460 dL_law_1445 (by decide) (fun c_1445 => ?_) (fun c_1445 => absurd c_1445 (by decide))
    refine j_goto F 2682 dL_law_1460 (by decide) ?_
    refine j_sub [2, 3, 4, 5, 6, 7] [(5, .int (nI (6 * t))), (0, .ref bS), (1, .ref (ad 0)), (2, .ref (ae 0)), (3, .ref o), (4, .ref oD)] rfl ?_
    exact kk Z vi1 ga1 fo fd hG1
  · skip
    refine ⟨rfl, (LW ay ad ae o oD Z vi ga fo fd), rfl, ?_⟩
    refine j_istore F 6 [(6, .int 2), (5, .int (nI (6 * t))), (0, .ref bS), (1, .ref (ad 0)), (2, .ref (ae 0)), (3, .ref o), (4, .ref oD)] dL_law_1418 (by decide) rfl ?_
    refine j_aload_n F 4 dL_law_1420 rfl ?_
    refine j_aload_n F 2 dL_law_1421 rfl ?_
    refine j_iload F 1 dL_law_1422 rfl ?_
    refine j_iconst F (v := 1) dL_law_1424 (by decide) ?_
    refine j_iadd F dL_law_1425 ?_
    refine j_top (nI (6 * t + 1)) (nI_add _ _) ?_
    refine j_sld F hXb hbl hbA hL (6 * t + 1) (by omega) dL_law_1426 ?_
    refine j_top (nI m) hx1.symm ?_
    refine j_scallV F kL_203 (As := [.int (nI m)]) (rest := []) (c_X10_takeOut_no2 l D ay ae vi ga Z m hG (by first | assumption | exact ⟨‹_›, ‹_›⟩ | omega) (by first | assumption | exact ⟨‹_›, ‹_›⟩ | omega)) 57 57 20 rfl rfl rfl rfl rfl rfl ⟨hk.1, hk.2⟩ dL_law_1427 (fun v w hw => ?_)
    obtain ⟨vi1, ga1, hG1, hc1, rfl, rfl⟩ := hw
    refine ⟨rfl, (LW ay ad ae o oD Z vi1 ga1 fo fd), rfl, ?_⟩
    refine j_top 0 rfl ?_
    refine j_istore F 7 [(7, .int 0), (6, .int 2), (5, .int (nI (6 * t))), (0, .ref bS), (1, .ref (ad 0)), (2, .ref (ae 0)), (3, .ref o), (4, .ref oD)] dL_law_1430 (by decide) rfl ?_
    refine j_aload_n F 5 dL_law_1432 rfl ?_
    refine j_scallV F kL_140 (As := []) (rest := []) (c_X10_thrown l D ay ae vi1 ga1) 57 57 20 rfl rfl rfl rfl rfl rfl ⟨hk.1, hk.2⟩ dL_law_1433 (fun v w hw => ?_)
    obtain ⟨rfl, rfl⟩ := hw
    refine ⟨rfl, (LW ay ad ae o oD Z vi1 ga1 fo fd), rfl, ?_⟩
    refine j_top 2 hc1 ?_
    refine j_iload F 1 dL_law_1436 rfl ?_
    refine j_icmp_eq F 1443 dL_law_1438 (by decide) (fun c_1438 => ?_) (fun c_1438 => absurd (by decide) c_1438)
    refine j_iload F 1 dL_law_1443 rfl ?_
    refine j_if_ne F 1460 dL_law_1445 (by decide) (fun c_1445 => ?_) (fun c_1445 => absurd c_1445 (by decide))
    refine j_goto F 2682 dL_law_1460 (by decide) ?_
    refine j_sub [2, 3, 4, 5, 6, 7] [(5, .int (nI (6 * t))), (0, .ref bS), (1, .ref (ad 0)), (2, .ref (ae 0)), (3, .ref o), (4, .ref oD)] rfl ?_
    exact kk Z vi1 ga1 fo fd hG1

set_option maxHeartbeats 4000000 in
set_option maxRecDepth 100000 in
theorem case_20 (l : Launch) (hfl : l.stackTraces = false) (D : va_G) (ay : Nat → ClassId) (sa : Nat → Nat) (ad ae : Nat → Nat) (o oD bS L : Nat) (xs : Nat → Int32) {p9 : Program} {e9 : Env} {s9 : State} {m9 : MethodId} {a9 : Array Value} {b9 : List Frame} {me9 : Method} {c9 : Code} {A9 : Nat → Prop} {Q9 : State → Prop} (F : jF p9 s9 m9 a9 me9 c9 cL_law 10 RL (some .boolean) D ay A9) (hX : jX sa A9 s9 s9.heap) (hN : jN s9) (hXb : va_X bS L xs s9 s9.heap) (hbl : bS < s9.heap.size) (hbA : ¬ A9 bS) (k n : Nat) (hk : k + 3 ≤ room_1.cells ∧ n + 18 ≤ room_1.slots) (t : Nat) (ht : 6 * t + 6 ≤ L) (hL : L ≤ 3072) (Z : DS) (vi : Nat → Int32) (ga : Nat → Nat → Int32) (fo : Nat → Int64) (fd : Nat → UInt64) (hG : GI Z vi ga) (kk : ∀ (Z' : DS) (vi' : Nat → Int32) (ga' : Nat → Nat → Int32) (fo' : Nat → Int64) (fd' : Nat → UInt64), GI Z' vi' ga' → jJ p9 l e9 room_1 s9 m9 a9 b9 me9 c9 Q9 D A9 10 (k + 3) (n + 18) (LW ay ad ae o oD Z' vi' ga' fo' fd') 2682 [(5, .int (nI (6 * t))), (0, .ref bS), (1, .ref (ad 0)), (2, .ref (ae 0)), (3, .ref o), (4, .ref oD)] []) : jJ p9 l e9 room_1 s9 m9 a9 b9 me9 c9 Q9 D A9 10 k n (LW ay ad ae o oD Z vi ga fo fd) 1463 [(5, .int (nI (6 * t))), (0, .ref bS), (1, .ref (ad 0)), (2, .ref (ae 0)), (3, .ref o), (4, .ref oD)] [] := by
  obtain ⟨x1, hx1⟩ : ∃ y, y = xs (6 * t + 1) := ⟨_, rfl⟩
  refine j_aload_n F 2 dL_law_1463 rfl ?_
  refine j_aload_n F 1 dL_law_1464 rfl ?_
  refine j_iload F 0 dL_law_1465 rfl ?_
  refine j_iconst F (v := 1) dL_law_1467 (by decide) ?_
  refine j_iadd F dL_law_1468 ?_
  refine j_top (nI (6 * t + 1)) (nI_add _ _) ?_
  refine j_sld F hXb hbl hbA hL (6 * t + 1) (by omega) dL_law_1469 ?_
  refine j_top x1 hx1.symm ?_
  refine j_aload_n F 4 dL_law_1470 rfl ?_
  refine j_hcallS F hX hN kL_204 (As := [.ref (ad 0), .int x1, .ref o]) (rest := []) (h_request l hfl D ay sa ad Z x1 o fo (hG.2.2.1)) 1 56 rfl rfl rfl rfl rfl ⟨hk.1, hk.2⟩ dL_law_1471 (fun v w hw => ?_)
  rcases hw with ⟨y, g0, rfl, g2, rfl, rfl⟩ | ⟨g0, rfl, rfl⟩ | ⟨⟨y, g0, rfl, g2⟩, rfl, rfl⟩
  · skip
    refine ⟨rfl, (LW ay ad ae o oD (askS Z (nI y)) vi ga (vp_updL fo 0 ((mskC Z (nI y) 8 : Int32)).toInt64) fd), rfl, ?_⟩
    refine j_istore F 6 [(6, .int 0), (5, .int (nI (6 * t))), (0, .ref bS), (1, .ref (ad 0)), (2, .ref (ae 0)), (3, .ref o), (4, .ref oD)] dL_law_1474 (by decide) rfl ?_
    refine j_aload_n F 4 dL_law_1476 rfl ?_
    refine j_aload_n F 2 dL_law_1477 rfl ?_
    refine j_iload F 1 dL_law_1478 rfl ?_
    refine j_iconst F (v := 1) dL_law_1480 (by decide) ?_
    refine j_iadd F dL_law_1481 ?_
    refine j_top (nI (6 * t + 1)) (nI_add _ _) ?_
    refine j_sld F hXb hbl hbA hL (6 * t + 1) (by omega) dL_law_1482 ?_
    refine j_top (nI y) hx1.symm ?_
    refine j_scallV F kL_206 (As := [.int (nI y)]) (rest := []) (c_X10_request_ok l D ay ae vi ga Z y hG (by first | assumption | exact ⟨‹_›, ‹_›⟩ | omega) (by first | assumption | exact ⟨‹_›, ‹_›⟩ | omega)) 57 57 20 rfl rfl rfl rfl rfl rfl ⟨hk.1, hk.2⟩ dL_law_1483 (fun v w hw => ?_)
    obtain ⟨vi1, ga1, hG1, hc1, rfl, rfl⟩ := hw
    refine ⟨rfl, (LW ay ad ae o oD (askS Z (nI y)) vi1 ga1 (vp_updL fo 0 ((mskC Z (nI y) 8 : Int32)).toInt64) fd), rfl, ?_⟩
    refine j_top (mskC Z (nI y) 8) rfl ?_
    refine j_istore F 7 [(7, .int (mskC Z (nI y) 8)), (6, .int 0), (5, .int (nI (6 * t))), (0, .ref bS), (1, .ref (ad 0)), (2, .ref (ae 0)), (3, .ref o), (4, .ref oD)] dL_law_1486 (by decide) rfl ?_
    refine j_aload_n F 5 dL_law_1488 rfl ?_
    refine j_scallV F kL_140 (As := []) (rest := []) (c_X10_thrown l D ay ae vi1 ga1) 57 57 20 rfl rfl rfl rfl rfl rfl ⟨hk.1, hk.2⟩ dL_law_1489 (fun v w hw => ?_)
    obtain ⟨rfl, rfl⟩ := hw
    refine ⟨rfl, (LW ay ad ae o oD (askS Z (nI y)) vi1 ga1 (vp_updL fo 0 ((mskC Z (nI y) 8 : Int32)).toInt64) fd), rfl, ?_⟩
    refine j_top 0 hc1 ?_
    refine j_iload F 1 dL_law_1492 rfl ?_
    refine j_icmp_eq F 1499 dL_law_1494 (by decide) (fun c_1494 => ?_) (fun c_1494 => absurd (by decide) c_1494)
    refine j_iload F 1 dL_law_1499 rfl ?_
    refine j_if_ne F 1516 dL_law_1501 (by decide) (fun c_1501 => absurd (by decide) c_1501) (fun c_1501 => ?_)
    refine j_aload_n F 6 dL_law_1504 rfl ?_
    refine j_iconst F (v := 0) dL_law_1505 (by decide) ?_
    refine j_lald F 56 0 (f := vp_updL fo 0 ((mskC Z (nI y) 8 : Int32)).toInt64) rfl rfl (by decide) (Nat.le_of_ble_eq_true rfl) dL_law_1506 ?_
    refine j_iload F 0 dL_law_1507 rfl ?_
    refine j_i2l F dL_law_1509 ?_
    refine j_lcmp F dL_law_1510 ?_
    refine j_top 0 (lg_self _) ?_
    refine j_if_eq F 1516 dL_law_1511 (by decide) (fun c_1511 => ?_) (fun c_1511 => absurd (by decide) c_1511)
    refine j_goto F 2682 dL_law_1516 (by decide) ?_
    refine j_sub [2, 3, 4, 5, 6, 7] [(5, .int (nI (6 * t))), (0, .ref bS), (1, .ref (ad 0)), (2, .ref (ae 0)), (3, .ref o), (4, .ref oD)] rfl ?_
    exact kk (askS Z (nI y)) vi1 ga1 (vp_updL fo 0 ((mskC Z (nI y) 8 : Int32)).toInt64) fd hG1
  · skip
    refine ⟨rfl, (LW ay ad ae o oD Z vi ga fo fd), rfl, ?_⟩
    refine j_istore F 6 [(6, .int 1), (5, .int (nI (6 * t))), (0, .ref bS), (1, .ref (ad 0)), (2, .ref (ae 0)), (3, .ref o), (4, .ref oD)] dL_law_1474 (by decide) rfl ?_
    refine j_aload_n F 4 dL_law_1476 rfl ?_
    refine j_aload_n F 2 dL_law_1477 rfl ?_
    refine j_iload F 1 dL_law_1478 rfl ?_
    refine j_iconst F (v := 1) dL_law_1480 (by decide) ?_
    refine j_iadd F dL_law_1481 ?_
    refine j_top (nI (6 * t + 1)) (nI_add _ _) ?_
    refine j_sld F hXb hbl hbA hL (6 * t + 1) (by omega) dL_law_1482 ?_
    refine j_top x1 hx1.symm ?_
    refine j_scallV F kL_206 (As := [.int x1]) (rest := []) (c_X10_request_no1 l D ay ae vi ga Z x1 hG (by first | assumption | exact ⟨‹_›, ‹_›⟩ | omega)) 57 57 20 rfl rfl rfl rfl rfl rfl ⟨hk.1, hk.2⟩ dL_law_1483 (fun v w hw => ?_)
    obtain ⟨vi1, ga1, hG1, hc1, rfl, rfl⟩ := hw
    refine ⟨rfl, (LW ay ad ae o oD Z vi1 ga1 fo fd), rfl, ?_⟩
    refine j_top 0 rfl ?_
    refine j_istore F 7 [(7, .int 0), (6, .int 1), (5, .int (nI (6 * t))), (0, .ref bS), (1, .ref (ad 0)), (2, .ref (ae 0)), (3, .ref o), (4, .ref oD)] dL_law_1486 (by decide) rfl ?_
    refine j_aload_n F 5 dL_law_1488 rfl ?_
    refine j_scallV F kL_140 (As := []) (rest := []) (c_X10_thrown l D ay ae vi1 ga1) 57 57 20 rfl rfl rfl rfl rfl rfl ⟨hk.1, hk.2⟩ dL_law_1489 (fun v w hw => ?_)
    obtain ⟨rfl, rfl⟩ := hw
    refine ⟨rfl, (LW ay ad ae o oD Z vi1 ga1 fo fd), rfl, ?_⟩
    refine j_top 1 hc1 ?_
    refine j_iload F 1 dL_law_1492 rfl ?_
    refine j_icmp_eq F 1499 dL_law_1494 (by decide) (fun c_1494 => ?_) (fun c_1494 => absurd (by decide) c_1494)
    refine j_iload F 1 dL_law_1499 rfl ?_
    refine j_if_ne F 1516 dL_law_1501 (by decide) (fun c_1501 => ?_) (fun c_1501 => absurd c_1501 (by decide))
    refine j_goto F 2682 dL_law_1516 (by decide) ?_
    refine j_sub [2, 3, 4, 5, 6, 7] [(5, .int (nI (6 * t))), (0, .ref bS), (1, .ref (ad 0)), (2, .ref (ae 0)), (3, .ref o), (4, .ref oD)] rfl ?_
    exact kk Z vi1 ga1 fo fd hG1
  · skip
    refine ⟨rfl, (LW ay ad ae o oD Z vi ga fo fd), rfl, ?_⟩
    refine j_istore F 6 [(6, .int 2), (5, .int (nI (6 * t))), (0, .ref bS), (1, .ref (ad 0)), (2, .ref (ae 0)), (3, .ref o), (4, .ref oD)] dL_law_1474 (by decide) rfl ?_
    refine j_aload_n F 4 dL_law_1476 rfl ?_
    refine j_aload_n F 2 dL_law_1477 rfl ?_
    refine j_iload F 1 dL_law_1478 rfl ?_
    refine j_iconst F (v := 1) dL_law_1480 (by decide) ?_
    refine j_iadd F dL_law_1481 ?_
    refine j_top (nI (6 * t + 1)) (nI_add _ _) ?_
    refine j_sld F hXb hbl hbA hL (6 * t + 1) (by omega) dL_law_1482 ?_
    refine j_top (nI y) hx1.symm ?_
    refine j_scallV F kL_206 (As := [.int (nI y)]) (rest := []) (c_X10_request_no2 l D ay ae vi ga Z y hG (by first | assumption | exact ⟨‹_›, ‹_›⟩ | omega) (by first | assumption | exact ⟨‹_›, ‹_›⟩ | omega)) 57 57 20 rfl rfl rfl rfl rfl rfl ⟨hk.1, hk.2⟩ dL_law_1483 (fun v w hw => ?_)
    obtain ⟨vi1, ga1, hG1, hc1, rfl, rfl⟩ := hw
    refine ⟨rfl, (LW ay ad ae o oD Z vi1 ga1 fo fd), rfl, ?_⟩
    refine j_top 0 rfl ?_
    refine j_istore F 7 [(7, .int 0), (6, .int 2), (5, .int (nI (6 * t))), (0, .ref bS), (1, .ref (ad 0)), (2, .ref (ae 0)), (3, .ref o), (4, .ref oD)] dL_law_1486 (by decide) rfl ?_
    refine j_aload_n F 5 dL_law_1488 rfl ?_
    refine j_scallV F kL_140 (As := []) (rest := []) (c_X10_thrown l D ay ae vi1 ga1) 57 57 20 rfl rfl rfl rfl rfl rfl ⟨hk.1, hk.2⟩ dL_law_1489 (fun v w hw => ?_)
    obtain ⟨rfl, rfl⟩ := hw
    refine ⟨rfl, (LW ay ad ae o oD Z vi1 ga1 fo fd), rfl, ?_⟩
    refine j_top 2 hc1 ?_
    refine j_iload F 1 dL_law_1492 rfl ?_
    refine j_icmp_eq F 1499 dL_law_1494 (by decide) (fun c_1494 => ?_) (fun c_1494 => absurd (by decide) c_1494)
    refine j_iload F 1 dL_law_1499 rfl ?_
    refine j_if_ne F 1516 dL_law_1501 (by decide) (fun c_1501 => ?_) (fun c_1501 => absurd c_1501 (by decide))
    refine j_goto F 2682 dL_law_1516 (by decide) ?_
    refine j_sub [2, 3, 4, 5, 6, 7] [(5, .int (nI (6 * t))), (0, .ref bS), (1, .ref (ad 0)), (2, .ref (ae 0)), (3, .ref o), (4, .ref oD)] rfl ?_
    exact kk Z vi1 ga1 fo fd hG1

set_option maxHeartbeats 4000000 in
set_option maxRecDepth 100000 in
theorem case_21 (l : Launch) (hfl : l.stackTraces = false) (D : va_G) (ay : Nat → ClassId) (sa : Nat → Nat) (ad ae : Nat → Nat) (o oD bS L : Nat) (xs : Nat → Int32) {p9 : Program} {e9 : Env} {s9 : State} {m9 : MethodId} {a9 : Array Value} {b9 : List Frame} {me9 : Method} {c9 : Code} {A9 : Nat → Prop} {Q9 : State → Prop} (F : jF p9 s9 m9 a9 me9 c9 cL_law 10 RL (some .boolean) D ay A9) (hX : jX sa A9 s9 s9.heap) (hN : jN s9) (hXb : va_X bS L xs s9 s9.heap) (hbl : bS < s9.heap.size) (hbA : ¬ A9 bS) (k n : Nat) (hk : k + 3 ≤ room_1.cells ∧ n + 18 ≤ room_1.slots) (t : Nat) (ht : 6 * t + 6 ≤ L) (hL : L ≤ 3072) (Z : DS) (vi : Nat → Int32) (ga : Nat → Nat → Int32) (fo : Nat → Int64) (fd : Nat → UInt64) (hG : GI Z vi ga) (kk : ∀ (Z' : DS) (vi' : Nat → Int32) (ga' : Nat → Nat → Int32) (fo' : Nat → Int64) (fd' : Nat → UInt64), GI Z' vi' ga' → jJ p9 l e9 room_1 s9 m9 a9 b9 me9 c9 Q9 D A9 10 (k + 3) (n + 18) (LW ay ad ae o oD Z' vi' ga' fo' fd') 2682 [(5, .int (nI (6 * t))), (0, .ref bS), (1, .ref (ad 0)), (2, .ref (ae 0)), (3, .ref o), (4, .ref oD)] []) : jJ p9 l e9 room_1 s9 m9 a9 b9 me9 c9 Q9 D A9 10 k n (LW ay ad ae o oD Z vi ga fo fd) 1519 [(5, .int (nI (6 * t))), (0, .ref bS), (1, .ref (ad 0)), (2, .ref (ae 0)), (3, .ref o), (4, .ref oD)] [] := by
  refine j_aload_n F 2 dL_law_1519 rfl ?_
  refine j_scallV F kL_207 (As := []) (rest := []) (c_X9_clearCaches l D ay ad Z) 1 1 55 rfl rfl rfl rfl rfl rfl ⟨Nat.le_trans (Nat.le_add_right _ _) hk.1, Nat.le_trans (Nat.le_add_right _ _) hk.2⟩ dL_law_1520 (fun v w hw => ?_)
  obtain ⟨rfl, rfl⟩ := hw
  refine ⟨rfl, (LW ay ad ae o oD (lU (clrC Z 8) 0 (Z.2.2 12) (Z.2.2 13) 0 (Z.2.2 14)) vi ga fo fd), rfl, ?_⟩
  refine j_aload_n F 3 dL_law_1523 rfl ?_
  refine j_scallV F kL_210 (As := []) (rest := [.int (nI (Z.1 14))]) (c_X10_clearCaches_ok l D ay ae vi ga Z hG) 57 57 20 rfl rfl rfl rfl rfl rfl ⟨Nat.le_trans (Nat.le_add_right _ _) hk.1, Nat.le_trans (Nat.le_add_right _ _) hk.2⟩ dL_law_1524 (fun v w hw => ?_)
  obtain ⟨vi1, ga1, hG1, hc1, rfl, rfl⟩ := hw
  refine ⟨rfl, (LW ay ad ae o oD (lU (clrC Z 8) 0 (Z.2.2 12) (Z.2.2 13) 0 (Z.2.2 14)) vi1 ga1 fo fd), rfl, ?_⟩
  refine j_top (nI (Z.1 14)) rfl ?_
  refine j_icmp_eq F 2682 dL_law_1527 (by decide) (fun c_1527 => ?_) (fun c_1527 => absurd rfl c_1527)
  refine j_widen (Nat.le_add_right k 3) (Nat.le_add_right n 18) ?_
  refine j_sub [0, 1, 2, 3, 4, 5] [(5, .int (nI (6 * t))), (0, .ref bS), (1, .ref (ad 0)), (2, .ref (ae 0)), (3, .ref o), (4, .ref oD)] rfl ?_
  exact kk (lU (clrC Z 8) 0 (Z.2.2 12) (Z.2.2 13) 0 (Z.2.2 14)) vi1 ga1 fo fd hG1

set_option maxHeartbeats 4000000 in
set_option maxRecDepth 100000 in
theorem case_22 (l : Launch) (hfl : l.stackTraces = false) (D : va_G) (ay : Nat → ClassId) (sa : Nat → Nat) (ad ae : Nat → Nat) (o oD bS L : Nat) (xs : Nat → Int32) {p9 : Program} {e9 : Env} {s9 : State} {m9 : MethodId} {a9 : Array Value} {b9 : List Frame} {me9 : Method} {c9 : Code} {A9 : Nat → Prop} {Q9 : State → Prop} (F : jF p9 s9 m9 a9 me9 c9 cL_law 10 RL (some .boolean) D ay A9) (hX : jX sa A9 s9 s9.heap) (hN : jN s9) (hXb : va_X bS L xs s9 s9.heap) (hbl : bS < s9.heap.size) (hbA : ¬ A9 bS) (k n : Nat) (hk : k + 3 ≤ room_1.cells ∧ n + 18 ≤ room_1.slots) (t : Nat) (ht : 6 * t + 6 ≤ L) (hL : L ≤ 3072) (Z : DS) (vi : Nat → Int32) (ga : Nat → Nat → Int32) (fo : Nat → Int64) (fd : Nat → UInt64) (hG : GI Z vi ga) (kk : ∀ (Z' : DS) (vi' : Nat → Int32) (ga' : Nat → Nat → Int32) (fo' : Nat → Int64) (fd' : Nat → UInt64), GI Z' vi' ga' → jJ p9 l e9 room_1 s9 m9 a9 b9 me9 c9 Q9 D A9 10 (k + 3) (n + 18) (LW ay ad ae o oD Z' vi' ga' fo' fd') 2682 [(5, .int (nI (6 * t))), (0, .ref bS), (1, .ref (ad 0)), (2, .ref (ae 0)), (3, .ref o), (4, .ref oD)] []) : jJ p9 l e9 room_1 s9 m9 a9 b9 me9 c9 Q9 D A9 10 k n (LW ay ad ae o oD Z vi ga fo fd) 1532 [(5, .int (nI (6 * t))), (0, .ref bS), (1, .ref (ad 0)), (2, .ref (ae 0)), (3, .ref o), (4, .ref oD)] [] := by
  obtain ⟨x1, hx1⟩ : ∃ y, y = xs (6 * t + 1) := ⟨_, rfl⟩
  refine j_aload_n F 2 dL_law_1532 rfl ?_
  refine j_aload_n F 1 dL_law_1533 rfl ?_
  refine j_iload F 0 dL_law_1534 rfl ?_
  refine j_iconst F (v := 1) dL_law_1536 (by decide) ?_
  refine j_iadd F dL_law_1537 ?_
  refine j_top (nI (6 * t + 1)) (nI_add _ _) ?_
  refine j_sld F hXb hbl hbA hL (6 * t + 1) (by omega) dL_law_1538 ?_
  refine j_top x1 hx1.symm ?_
  refine j_aload_n F 4 dL_law_1539 rfl ?_
  refine j_hcallS F hX hN kL_211 (As := [.ref (ad 0), .int x1, .ref o]) (rest := []) (h_hits l hfl D ay sa ad Z x1 o fo) 1 56 rfl rfl rfl rfl rfl ⟨hk.1, hk.2⟩ dL_law_1540 (fun v w hw => ?_)
  rcases hw with ⟨i, g0, rfl, rfl, rfl⟩ | ⟨g0, rfl, rfl⟩
  · skip
    refine ⟨rfl, (LW ay ad ae o oD Z vi ga (vp_updL fo 0 ((Z.2.1 (11 + i) : Int32)).toInt64) fd), rfl, ?_⟩
    refine j_istore F 6 [(6, .int 0), (5, .int (nI (6 * t))), (0, .ref bS), (1, .ref (ad 0)), (2, .ref (ae 0)), (3, .ref o), (4, .ref oD)] dL_law_1543 (by decide) rfl ?_
    refine j_aload_n F 4 dL_law_1545 rfl ?_
    refine j_aload_n F 2 dL_law_1546 rfl ?_
    refine j_iload F 1 dL_law_1547 rfl ?_
    refine j_iconst F (v := 1) dL_law_1549 (by decide) ?_
    refine j_iadd F dL_law_1550 ?_
    refine j_top (nI (6 * t + 1)) (nI_add _ _) ?_
    refine j_sld F hXb hbl hbA hL (6 * t + 1) (by omega) dL_law_1551 ?_
    refine j_top (nI (i + 1)) hx1.symm ?_
    refine j_scallV F kL_213 (As := [.int (nI (i + 1))]) (rest := []) (c_X10_hits_ok l D ay ae vi ga Z i hG (by first | assumption | exact ⟨‹_›, ‹_›⟩ | omega)) 57 57 20 rfl rfl rfl rfl rfl rfl ⟨hk.1, hk.2⟩ dL_law_1552 (fun v w hw => ?_)
    obtain ⟨vi1, ga1, hG1, hc1, rfl, rfl⟩ := hw
    refine ⟨rfl, (LW ay ad ae o oD Z vi1 ga1 (vp_updL fo 0 ((Z.2.1 (11 + i) : Int32)).toInt64) fd), rfl, ?_⟩
    refine j_top (Z.2.1 (11 + i)) rfl ?_
    refine j_istore F 7 [(7, .int (Z.2.1 (11 + i))), (6, .int 0), (5, .int (nI (6 * t))), (0, .ref bS), (1, .ref (ad 0)), (2, .ref (ae 0)), (3, .ref o), (4, .ref oD)] dL_law_1555 (by decide) rfl ?_
    refine j_aload_n F 5 dL_law_1557 rfl ?_
    refine j_scallV F kL_140 (As := []) (rest := []) (c_X10_thrown l D ay ae vi1 ga1) 57 57 20 rfl rfl rfl rfl rfl rfl ⟨hk.1, hk.2⟩ dL_law_1558 (fun v w hw => ?_)
    obtain ⟨rfl, rfl⟩ := hw
    refine ⟨rfl, (LW ay ad ae o oD Z vi1 ga1 (vp_updL fo 0 ((Z.2.1 (11 + i) : Int32)).toInt64) fd), rfl, ?_⟩
    refine j_top 0 hc1 ?_
    refine j_iload F 1 dL_law_1561 rfl ?_
    refine j_icmp_eq F 1568 dL_law_1563 (by decide) (fun c_1563 => ?_) (fun c_1563 => absurd (by decide) c_1563)
    refine j_iload F 1 dL_law_1568 rfl ?_
    refine j_if_ne F 1585 dL_law_1570 (by decide) (fun c_1570 => absurd (by decide) c_1570) (fun c_1570 => ?_)
    refine j_aload_n F 6 dL_law_1573 rfl ?_
    refine j_iconst F (v := 0) dL_law_1574 (by decide) ?_
    refine j_lald F 56 0 (f := vp_updL fo 0 ((Z.2.1 (11 + i) : Int32)).toInt64) rfl rfl (by decide) (Nat.le_of_ble_eq_true rfl) dL_law_1575 ?_
    refine j_iload F 0 dL_law_1576 rfl ?_
    refine j_i2l F dL_law_1578 ?_
    refine j_lcmp F dL_law_1579 ?_
    refine j_top 0 (lg_self _) ?_
    refine j_if_eq F 1585 dL_law_1580 (by decide) (fun c_1580 => ?_) (fun c_1580 => absurd (by decide) c_1580)
    refine j_goto F 2682 dL_law_1585 (by decide) ?_
    refine j_sub [2, 3, 4, 5, 6, 7] [(5, .int (nI (6 * t))), (0, .ref bS), (1, .ref (ad 0)), (2, .ref (ae 0)), (3, .ref o), (4, .ref oD)] rfl ?_
    exact kk Z vi1 ga1 (vp_updL fo 0 ((Z.2.1 (11 + i) : Int32)).toInt64) fd hG1
  · skip
    refine ⟨rfl, (LW ay ad ae o oD Z vi ga fo fd), rfl, ?_⟩
    refine j_istore F 6 [(6, .int 1), (5, .int (nI (6 * t))), (0, .ref bS), (1, .ref (ad 0)), (2, .ref (ae 0)), (3, .ref o), (4, .ref oD)] dL_law_1543 (by decide) rfl ?_
    refine j_aload_n F 4 dL_law_1545 rfl ?_
    refine j_aload_n F 2 dL_law_1546 rfl ?_
    refine j_iload F 1 dL_law_1547 rfl ?_
    refine j_iconst F (v := 1) dL_law_1549 (by decide) ?_
    refine j_iadd F dL_law_1550 ?_
    refine j_top (nI (6 * t + 1)) (nI_add _ _) ?_
    refine j_sld F hXb hbl hbA hL (6 * t + 1) (by omega) dL_law_1551 ?_
    refine j_top x1 hx1.symm ?_
    refine j_scallV F kL_213 (As := [.int x1]) (rest := []) (c_X10_hits_no l D ay ae vi ga Z x1 hG (by first | assumption | exact ⟨‹_›, ‹_›⟩ | omega)) 57 57 20 rfl rfl rfl rfl rfl rfl ⟨hk.1, hk.2⟩ dL_law_1552 (fun v w hw => ?_)
    obtain ⟨vi1, ga1, hG1, hc1, rfl, rfl⟩ := hw
    refine ⟨rfl, (LW ay ad ae o oD Z vi1 ga1 fo fd), rfl, ?_⟩
    refine j_top 0 rfl ?_
    refine j_istore F 7 [(7, .int 0), (6, .int 1), (5, .int (nI (6 * t))), (0, .ref bS), (1, .ref (ad 0)), (2, .ref (ae 0)), (3, .ref o), (4, .ref oD)] dL_law_1555 (by decide) rfl ?_
    refine j_aload_n F 5 dL_law_1557 rfl ?_
    refine j_scallV F kL_140 (As := []) (rest := []) (c_X10_thrown l D ay ae vi1 ga1) 57 57 20 rfl rfl rfl rfl rfl rfl ⟨hk.1, hk.2⟩ dL_law_1558 (fun v w hw => ?_)
    obtain ⟨rfl, rfl⟩ := hw
    refine ⟨rfl, (LW ay ad ae o oD Z vi1 ga1 fo fd), rfl, ?_⟩
    refine j_top 1 hc1 ?_
    refine j_iload F 1 dL_law_1561 rfl ?_
    refine j_icmp_eq F 1568 dL_law_1563 (by decide) (fun c_1563 => ?_) (fun c_1563 => absurd (by decide) c_1563)
    refine j_iload F 1 dL_law_1568 rfl ?_
    refine j_if_ne F 1585 dL_law_1570 (by decide) (fun c_1570 => ?_) (fun c_1570 => absurd c_1570 (by decide))
    refine j_goto F 2682 dL_law_1585 (by decide) ?_
    refine j_sub [2, 3, 4, 5, 6, 7] [(5, .int (nI (6 * t))), (0, .ref bS), (1, .ref (ad 0)), (2, .ref (ae 0)), (3, .ref o), (4, .ref oD)] rfl ?_
    exact kk Z vi1 ga1 fo fd hG1

set_option maxHeartbeats 4000000 in
set_option maxRecDepth 100000 in
theorem case_23 (l : Launch) (hfl : l.stackTraces = false) (D : va_G) (ay : Nat → ClassId) (sa : Nat → Nat) (ad ae : Nat → Nat) (o oD bS L : Nat) (xs : Nat → Int32) {p9 : Program} {e9 : Env} {s9 : State} {m9 : MethodId} {a9 : Array Value} {b9 : List Frame} {me9 : Method} {c9 : Code} {A9 : Nat → Prop} {Q9 : State → Prop} (F : jF p9 s9 m9 a9 me9 c9 cL_law 10 RL (some .boolean) D ay A9) (hX : jX sa A9 s9 s9.heap) (hN : jN s9) (hXb : va_X bS L xs s9 s9.heap) (hbl : bS < s9.heap.size) (hbA : ¬ A9 bS) (k n : Nat) (hk : k + 3 ≤ room_1.cells ∧ n + 18 ≤ room_1.slots) (t : Nat) (ht : 6 * t + 6 ≤ L) (hL : L ≤ 3072) (Z : DS) (vi : Nat → Int32) (ga : Nat → Nat → Int32) (fo : Nat → Int64) (fd : Nat → UInt64) (hG : GI Z vi ga) (kk : ∀ (Z' : DS) (vi' : Nat → Int32) (ga' : Nat → Nat → Int32) (fo' : Nat → Int64) (fd' : Nat → UInt64), GI Z' vi' ga' → jJ p9 l e9 room_1 s9 m9 a9 b9 me9 c9 Q9 D A9 10 (k + 3) (n + 18) (LW ay ad ae o oD Z' vi' ga' fo' fd') 2682 [(5, .int (nI (6 * t))), (0, .ref bS), (1, .ref (ad 0)), (2, .ref (ae 0)), (3, .ref o), (4, .ref oD)] []) : jJ p9 l e9 room_1 s9 m9 a9 b9 me9 c9 Q9 D A9 10 k n (LW ay ad ae o oD Z vi ga fo fd) 1588 [(5, .int (nI (6 * t))), (0, .ref bS), (1, .ref (ad 0)), (2, .ref (ae 0)), (3, .ref o), (4, .ref oD)] [] := by
  obtain ⟨x1, hx1⟩ : ∃ y, y = xs (6 * t + 1) := ⟨_, rfl⟩
  refine j_aload_n F 2 dL_law_1588 rfl ?_
  refine j_aload_n F 1 dL_law_1589 rfl ?_
  refine j_iload F 0 dL_law_1590 rfl ?_
  refine j_iconst F (v := 1) dL_law_1592 (by decide) ?_
  refine j_iadd F dL_law_1593 ?_
  refine j_top (nI (6 * t + 1)) (nI_add _ _) ?_
  refine j_sld F hXb hbl hbA hL (6 * t + 1) (by omega) dL_law_1594 ?_
  refine j_top x1 hx1.symm ?_
  refine j_aload_n F 4 dL_law_1595 rfl ?_
  refine j_hcallS F hX hN kL_214 (As := [.ref (ad 0), .int x1, .ref o]) (rest := []) (h_cached l hfl D ay sa ad Z x1 o fo) 1 56 rfl rfl rfl rfl rfl ⟨hk.1, hk.2⟩ dL_law_1596 (fun v w hw => ?_)
  rcases hw with ⟨i, g0, rfl, rfl, rfl⟩ | ⟨g0, rfl, rfl⟩
  · skip
    refine ⟨rfl, (LW ay ad ae o oD Z vi ga (vp_updL fo 0 ((nI (Z.1 (2 + i)) : Int32)).toInt64) fd), rfl, ?_⟩
    refine j_istore F 6 [(6, .int 0), (5, .int (nI (6 * t))), (0, .ref bS), (1, .ref (ad 0)), (2, .ref (ae 0)), (3, .ref o), (4, .ref oD)] dL_law_1599 (by decide) rfl ?_
    refine j_aload_n F 4 dL_law_1601 rfl ?_
    refine j_aload_n F 2 dL_law_1602 rfl ?_
    refine j_iload F 1 dL_law_1603 rfl ?_
    refine j_iconst F (v := 1) dL_law_1605 (by decide) ?_
    refine j_iadd F dL_law_1606 ?_
    refine j_top (nI (6 * t + 1)) (nI_add _ _) ?_
    refine j_sld F hXb hbl hbA hL (6 * t + 1) (by omega) dL_law_1607 ?_
    refine j_top (nI (i + 1)) hx1.symm ?_
    refine j_scallV F kL_216 (As := [.int (nI (i + 1))]) (rest := []) (c_X10_cached_ok l D ay ae vi ga Z i hG (by first | assumption | exact ⟨‹_›, ‹_›⟩ | omega)) 57 57 20 rfl rfl rfl rfl rfl rfl ⟨hk.1, hk.2⟩ dL_law_1608 (fun v w hw => ?_)
    obtain ⟨vi1, ga1, hG1, hc1, rfl, rfl⟩ := hw
    refine ⟨rfl, (LW ay ad ae o oD Z vi1 ga1 (vp_updL fo 0 ((nI (Z.1 (2 + i)) : Int32)).toInt64) fd), rfl, ?_⟩
    refine j_top (nI (Z.1 (2 + i))) rfl ?_
    refine j_istore F 7 [(7, .int (nI (Z.1 (2 + i)))), (6, .int 0), (5, .int (nI (6 * t))), (0, .ref bS), (1, .ref (ad 0)), (2, .ref (ae 0)), (3, .ref o), (4, .ref oD)] dL_law_1611 (by decide) rfl ?_
    refine j_aload_n F 5 dL_law_1613 rfl ?_
    refine j_scallV F kL_140 (As := []) (rest := []) (c_X10_thrown l D ay ae vi1 ga1) 57 57 20 rfl rfl rfl rfl rfl rfl ⟨hk.1, hk.2⟩ dL_law_1614 (fun v w hw => ?_)
    obtain ⟨rfl, rfl⟩ := hw
    refine ⟨rfl, (LW ay ad ae o oD Z vi1 ga1 (vp_updL fo 0 ((nI (Z.1 (2 + i)) : Int32)).toInt64) fd), rfl, ?_⟩
    refine j_top 0 hc1 ?_
    refine j_iload F 1 dL_law_1617 rfl ?_
    refine j_icmp_eq F 1624 dL_law_1619 (by decide) (fun c_1619 => ?_) (fun c_1619 => absurd (by decide) c_1619)
    refine j_iload F 1 dL_law_1624 rfl ?_
    refine j_if_ne F 1641 dL_law_1626 (by decide) (fun c_1626 => absurd (by decide) c_1626) (fun c_1626 => ?_)
    refine j_aload_n F 6 dL_law_1629 rfl ?_
    refine j_iconst F (v := 0) dL_law_1630 (by decide) ?_
    refine j_lald F 56 0 (f := vp_updL fo 0 ((nI (Z.1 (2 + i)) : Int32)).toInt64) rfl rfl (by decide) (Nat.le_of_ble_eq_true rfl) dL_law_1631 ?_
    refine j_iload F 0 dL_law_1632 rfl ?_
    refine j_i2l F dL_law_1634 ?_
    refine j_lcmp F dL_law_1635 ?_
    refine j_top 0 (lg_self _) ?_
    refine j_if_eq F 1641 dL_law_1636 (by decide) (fun c_1636 => ?_) (fun c_1636 => absurd (by decide) c_1636)
    refine j_goto F 2682 dL_law_1641 (by decide) ?_
    refine j_sub [2, 3, 4, 5, 6, 7] [(5, .int (nI (6 * t))), (0, .ref bS), (1, .ref (ad 0)), (2, .ref (ae 0)), (3, .ref o), (4, .ref oD)] rfl ?_
    exact kk Z vi1 ga1 (vp_updL fo 0 ((nI (Z.1 (2 + i)) : Int32)).toInt64) fd hG1
  · skip
    refine ⟨rfl, (LW ay ad ae o oD Z vi ga fo fd), rfl, ?_⟩
    refine j_istore F 6 [(6, .int 1), (5, .int (nI (6 * t))), (0, .ref bS), (1, .ref (ad 0)), (2, .ref (ae 0)), (3, .ref o), (4, .ref oD)] dL_law_1599 (by decide) rfl ?_
    refine j_aload_n F 4 dL_law_1601 rfl ?_
    refine j_aload_n F 2 dL_law_1602 rfl ?_
    refine j_iload F 1 dL_law_1603 rfl ?_
    refine j_iconst F (v := 1) dL_law_1605 (by decide) ?_
    refine j_iadd F dL_law_1606 ?_
    refine j_top (nI (6 * t + 1)) (nI_add _ _) ?_
    refine j_sld F hXb hbl hbA hL (6 * t + 1) (by omega) dL_law_1607 ?_
    refine j_top x1 hx1.symm ?_
    refine j_scallV F kL_216 (As := [.int x1]) (rest := []) (c_X10_cached_no l D ay ae vi ga Z x1 hG (by first | assumption | exact ⟨‹_›, ‹_›⟩ | omega)) 57 57 20 rfl rfl rfl rfl rfl rfl ⟨hk.1, hk.2⟩ dL_law_1608 (fun v w hw => ?_)
    obtain ⟨vi1, ga1, hG1, hc1, rfl, rfl⟩ := hw
    refine ⟨rfl, (LW ay ad ae o oD Z vi1 ga1 fo fd), rfl, ?_⟩
    refine j_top 0 rfl ?_
    refine j_istore F 7 [(7, .int 0), (6, .int 1), (5, .int (nI (6 * t))), (0, .ref bS), (1, .ref (ad 0)), (2, .ref (ae 0)), (3, .ref o), (4, .ref oD)] dL_law_1611 (by decide) rfl ?_
    refine j_aload_n F 5 dL_law_1613 rfl ?_
    refine j_scallV F kL_140 (As := []) (rest := []) (c_X10_thrown l D ay ae vi1 ga1) 57 57 20 rfl rfl rfl rfl rfl rfl ⟨hk.1, hk.2⟩ dL_law_1614 (fun v w hw => ?_)
    obtain ⟨rfl, rfl⟩ := hw
    refine ⟨rfl, (LW ay ad ae o oD Z vi1 ga1 fo fd), rfl, ?_⟩
    refine j_top 1 hc1 ?_
    refine j_iload F 1 dL_law_1617 rfl ?_
    refine j_icmp_eq F 1624 dL_law_1619 (by decide) (fun c_1619 => ?_) (fun c_1619 => absurd (by decide) c_1619)
    refine j_iload F 1 dL_law_1624 rfl ?_
    refine j_if_ne F 1641 dL_law_1626 (by decide) (fun c_1626 => ?_) (fun c_1626 => absurd c_1626 (by decide))
    refine j_goto F 2682 dL_law_1641 (by decide) ?_
    refine j_sub [2, 3, 4, 5, 6, 7] [(5, .int (nI (6 * t))), (0, .ref bS), (1, .ref (ad 0)), (2, .ref (ae 0)), (3, .ref o), (4, .ref oD)] rfl ?_
    exact kk Z vi1 ga1 fo fd hG1

