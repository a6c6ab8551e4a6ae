set_option maxHeartbeats 4000000 in
set_option maxRecDepth 100000 in
theorem case_24 (l : Launch) (hfl : l.stackTraces = false) (D : va_G) (ay : Nat → ClassId) (sa : Nat → Nat) (ad ae : Nat → Nat) (o oD bS L : Nat) (xs : Nat → Int32) {p9 : Program} {e9 : Env} {s9 : State} {m9 : MethodId} {a9 : Array Value} {b9 : List Frame} {me9 : Method} {c9 : Code} {A9 : Nat → Prop} {Q9 : State → Prop} (F : jF p9 s9 m9 a9 me9 c9 cL_law 10 RL (some .boolean) D ay A9) (hX : jX sa A9 s9 s9.heap) (hN : jN s9) (hXb : va_X bS L xs s9 s9.heap) (hbl : bS < s9.heap.size) (hbA : ¬ A9 bS) (k n : Nat) (hk : k + 3 ≤ room_1.cells ∧ n + 18 ≤ room_1.slots) (t : Nat) (ht : 6 * t + 6 ≤ L) (hL : L ≤ 3072) (Z : DS) (vi : Nat → Int32) (ga : Nat → Nat → Int32) (fo : Nat → Int64) (fd : Nat → UInt64) (hG : GI Z vi ga) (kk : ∀ (Z' : DS) (vi' : Nat → Int32) (ga' : Nat → Nat → Int32) (fo' : Nat → Int64) (fd' : Nat → UInt64), GI Z' vi' ga' → jJ p9 l e9 room_1 s9 m9 a9 b9 me9 c9 Q9 D A9 10 (k + 3) (n + 18) (LW ay ad ae o oD Z' vi' ga' fo' fd') 2682 [(5, .int (nI (6 * t))), (0, .ref bS), (1, .ref (ad 0)), (2, .ref (ae 0)), (3, .ref o), (4, .ref oD)] []) : jJ p9 l e9 room_1 s9 m9 a9 b9 me9 c9 Q9 D A9 10 k n (LW ay ad ae o oD Z vi ga fo fd) 1644 [(5, .int (nI (6 * t))), (0, .ref bS), (1, .ref (ad 0)), (2, .ref (ae 0)), (3, .ref o), (4, .ref oD)] [] := by
  obtain ⟨x1, hx1⟩ : ∃ y, y = xs (6 * t + 1) := ⟨_, rfl⟩
  obtain ⟨x2, hx2⟩ : ∃ y, y = xs (6 * t + 2) := ⟨_, rfl⟩
  refine j_aload_n F 2 dL_law_1644 rfl ?_
  refine j_aload_n F 1 dL_law_1645 rfl ?_
  refine j_iload F 0 dL_law_1646 rfl ?_
  refine j_iconst F (v := 1) dL_law_1648 (by decide) ?_
  refine j_iadd F dL_law_1649 ?_
  refine j_top (nI (6 * t + 1)) (nI_add _ _) ?_
  refine j_sld F hXb hbl hbA hL (6 * t + 1) (by omega) dL_law_1650 ?_
  refine j_top x1 hx1.symm ?_
  refine j_aload_n F 1 dL_law_1651 rfl ?_
  refine j_iload F 0 dL_law_1652 rfl ?_
  refine j_iconst F (v := 2) dL_law_1654 (by decide) ?_
  refine j_iadd F dL_law_1655 ?_
  refine j_top (nI (6 * t + 2)) (nI_add _ _) ?_
  refine j_sld F hXb hbl hbA hL (6 * t + 2) (by omega) dL_law_1656 ?_
  refine j_top x2 hx2.symm ?_
  refine j_aload_n F 4 dL_law_1657 rfl ?_
  refine j_hcallS F hX hN kL_217 (As := [.ref (ad 0), .int x1, .int x2, .ref o]) (rest := []) (h_isCached l hfl D ay sa ad Z x1 x2 o fo (hG.2.2.1)) 1 56 rfl rfl rfl rfl rfl ⟨hk.1, hk.2⟩ dL_law_1658 (fun v w hw => ?_)
  rcases hw with ⟨i, y, g0, g1, rfl, rfl, rfl, rfl⟩ | ⟨g0, rfl, rfl⟩
  · skip
    refine ⟨rfl, (LW ay ad ae o oD Z vi ga (vp_updL fo 0 (if (if fx (Z.2.2 (4 + i)) (nI y) (Z.1 (2 + i)) < Z.1 (2 + i) then 1 else 0 : Int32) = 0 then 0 else 1)) fd), rfl, ?_⟩
    refine j_istore F 6 [(6, .int 0), (5, .int (nI (6 * t))), (0, .ref bS), (1, .ref (ad 0)), (2, .ref (ae 0)), (3, .ref o), (4, .ref oD)] dL_law_1661 (by decide) rfl ?_
    refine j_aload_n F 4 dL_law_1663 rfl ?_
    refine j_aload_n F 2 dL_law_1664 rfl ?_
    refine j_iload F 1 dL_law_1665 rfl ?_
    refine j_iconst F (v := 1) dL_law_1667 (by decide) ?_
    refine j_iadd F dL_law_1668 ?_
    refine j_top (nI (6 * t + 1)) (nI_add _ _) ?_
    refine j_sld F hXb hbl hbA hL (6 * t + 1) (by omega) dL_law_1669 ?_
    refine j_top (nI (i + 1)) hx1.symm ?_
    refine j_aload_n F 2 dL_law_1670 rfl ?_
    refine j_iload F 1 dL_law_1671 rfl ?_
    refine j_iconst F (v := 2) dL_law_1673 (by decide) ?_
    refine j_iadd F dL_law_1674 ?_
    refine j_top (nI (6 * t + 2)) (nI_add _ _) ?_
    refine j_sld F hXb hbl hbA hL (6 * t + 2) (by omega) dL_law_1675 ?_
    refine j_top (nI y) hx2.symm ?_
    refine j_scallV F kL_219 (As := [.int (nI (i + 1)), .int (nI y)]) (rest := []) (c_X10_isCached_ok l D ay ae vi ga Z i y hG (by first | assumption | exact ⟨‹_›, ‹_›⟩ | omega) (by first | assumption | exact ⟨‹_›, ‹_›⟩ | omega)) 57 57 20 rfl rfl rfl rfl rfl rfl ⟨hk.1, hk.2⟩ dL_law_1676 (fun v w hw => ?_)
    obtain ⟨vi1, ga1, hG1, hc1, rfl, rfl⟩ := hw
    refine ⟨rfl, (LW ay ad ae o oD Z vi1 ga1 (vp_updL fo 0 (if (if fx (Z.2.2 (4 + i)) (nI y) (Z.1 (2 + i)) < Z.1 (2 + i) then 1 else 0 : Int32) = 0 then 0 else 1)) fd), rfl, ?_⟩
    refine j_top (if fx (Z.2.2 (4 + i)) (nI y) (Z.1 (2 + i)) < Z.1 (2 + i) then 1 else 0) rfl ?_
    refine j_istore F 7 [(7, .int (if fx (Z.2.2 (4 + i)) (nI y) (Z.1 (2 + i)) < Z.1 (2 + i) then 1 else 0)), (6, .int 0), (5, .int (nI (6 * t))), (0, .ref bS), (1, .ref (ad 0)), (2, .ref (ae 0)), (3, .ref o), (4, .ref oD)] dL_law_1679 (by decide) rfl ?_
    refine j_aload_n F 5 dL_law_1681 rfl ?_
    refine j_scallV F kL_140 (As := []) (rest := []) (c_X10_thrown l D ay ae vi1 ga1) 57 57 20 rfl rfl rfl rfl rfl rfl ⟨hk.1, hk.2⟩ dL_law_1682 (fun v w hw => ?_)
    obtain ⟨rfl, rfl⟩ := hw
    refine ⟨rfl, (LW ay ad ae o oD Z vi1 ga1 (vp_updL fo 0 (if (if fx (Z.2.2 (4 + i)) (nI y) (Z.1 (2 + i)) < Z.1 (2 + i) then 1 else 0 : Int32) = 0 then 0 else 1)) fd), rfl, ?_⟩
    refine j_top 0 hc1 ?_
    refine j_iload F 1 dL_law_1685 rfl ?_
    refine j_icmp_eq F 1692 dL_law_1687 (by decide) (fun c_1687 => ?_) (fun c_1687 => absurd (by decide) c_1687)
    refine j_iload F 1 dL_law_1692 rfl ?_
    refine j_if_ne F 1716 dL_law_1694 (by decide) (fun c_1694 => absurd (by decide) c_1694) (fun c_1694 => ?_)
    refine j_aload_n F 6 dL_law_1697 rfl ?_
    refine j_iconst F (v := 0) dL_law_1698 (by decide) ?_
    refine j_lald F 56 0 (f := vp_updL fo 0 (if (if fx (Z.2.2 (4 + i)) (nI y) (Z.1 (2 + i)) < Z.1 (2 + i) then 1 else 0 : Int32) = 0 then 0 else 1)) rfl rfl (by decide) (Nat.le_of_ble_eq_true rfl) dL_law_1699 ?_
    refine j_iload F 0 dL_law_1700 rfl ?_
    refine j_if_eq F 1709 dL_law_1702 (by decide) (fun c_1702 => ?_) (fun c_1702 => ?_)
    · skip
      refine j_lconst F (v := 0) dL_law_1709 (by decide) ?_
      refine j_lcmp F dL_law_1710 ?_
      refine j_top 0 ((congrArg (fun z => lg_cmp z 0) ((if_pos c_1702 : (if (if fx (Z.2.2 (4 + i)) (nI y) (Z.1 (2 + i)) < Z.1 (2 + i) then 1 else 0 : Int32) = 0 then (0 : Int64) else 1) = 0))).trans (lg_self _)) ?_
      refine j_if_eq F 1716 dL_law_1711 (by decide) (fun c_1711 => ?_) (fun c_1711 => absurd (by decide) c_1711)
      refine j_goto F 2682 dL_law_1716 (by decide) ?_
      refine j_sub [2, 3, 4, 5, 6, 7] [(5, .int (nI (6 * t))), (0, .ref bS), (1, .ref (ad 0)), (2, .ref (ae 0)), (3, .ref o), (4, .ref oD)] rfl ?_
      exact kk Z vi1 ga1 (vp_updL fo 0 (if (if fx (Z.2.2 (4 + i)) (nI y) (Z.1 (2 + i)) < Z.1 (2 + i) then 1 else 0 : Int32) = 0 then 0 else 1)) fd hG1
    · skip
      refine j_lconst F (v := 1) dL_law_1705 (by decide) ?_
      refine j_goto F 1710 dL_law_1706 (by decide) ?_
      refine j_lcmp F dL_law_1710 ?_
      refine j_top 0 ((congrArg (fun z => lg_cmp z 1) ((if_neg c_1702 : (if (if fx (Z.2.2 (4 + i)) (nI y) (Z.1 (2 + i)) < Z.1 (2 + i) then 1 else 0 : Int32) = 0 then (0 : Int64) else 1) = 1))).trans (lg_self _)) ?_
      refine j_if_eq F 1716 dL_law_1711 (by decide) (fun c_1711 => ?_) (fun c_1711 => absurd (by decide) c_1711)
      refine j_goto F 2682 dL_law_1716 (by decide) ?_
      refine j_sub [2, 3, 4, 5, 6, 7] [(5, .int (nI (6 * t))), (0, .ref bS), (1, .ref (ad 0)), (2, .ref (ae 0)), (3, .ref o), (4, .ref oD)] rfl ?_
      exact kk Z vi1 ga1 (vp_updL fo 0 (if (if fx (Z.2.2 (4 + i)) (nI y) (Z.1 (2 + i)) < Z.1 (2 + i) then 1 else 0 : Int32) = 0 then 0 else 1)) fd hG1
  · skip
    refine ⟨rfl, (LW ay ad ae o oD Z vi ga fo fd), rfl, ?_⟩
    refine j_istore F 6 [(6, .int 1), (5, .int (nI (6 * t))), (0, .ref bS), (1, .ref (ad 0)), (2, .ref (ae 0)), (3, .ref o), (4, .ref oD)] dL_law_1661 (by decide) rfl ?_
    refine j_aload_n F 4 dL_law_1663 rfl ?_
    refine j_aload_n F 2 dL_law_1664 rfl ?_
    refine j_iload F 1 dL_law_1665 rfl ?_
    refine j_iconst F (v := 1) dL_law_1667 (by decide) ?_
    refine j_iadd F dL_law_1668 ?_
    refine j_top (nI (6 * t + 1)) (nI_add _ _) ?_
    refine j_sld F hXb hbl hbA hL (6 * t + 1) (by omega) dL_law_1669 ?_
    refine j_top x1 hx1.symm ?_
    refine j_aload_n F 2 dL_law_1670 rfl ?_
    refine j_iload F 1 dL_law_1671 rfl ?_
    refine j_iconst F (v := 2) dL_law_1673 (by decide) ?_
    refine j_iadd F dL_law_1674 ?_
    refine j_top (nI (6 * t + 2)) (nI_add _ _) ?_
    refine j_sld F hXb hbl hbA hL (6 * t + 2) (by omega) dL_law_1675 ?_
    refine j_top x2 hx2.symm ?_
    refine j_scallV F kL_219 (As := [.int x1, .int x2]) (rest := []) (c_X10_isCached_no l D ay ae vi ga Z x1 x2 hG (by first | assumption | exact ⟨‹_›, ‹_›⟩ | omega)) 57 57 20 rfl rfl rfl rfl rfl rfl ⟨hk.1, hk.2⟩ dL_law_1676 (fun v w hw => ?_)
    obtain ⟨vi1, ga1, hG1, hc1, rfl, rfl⟩ := hw
    refine ⟨rfl, (LW ay ad ae o oD Z vi1 ga1 fo fd), rfl, ?_⟩
    refine j_top 0 rfl ?_
    refine j_istore F 7 [(7, .int 0), (6, .int 1), (5, .int (nI (6 * t))), (0, .ref bS), (1, .ref (ad 0)), (2, .ref (ae 0)), (3, .ref o), (4, .ref oD)] dL_law_1679 (by decide) rfl ?_
    refine j_aload_n F 5 dL_law_1681 rfl ?_
    refine j_scallV F kL_140 (As := []) (rest := []) (c_X10_thrown l D ay ae vi1 ga1) 57 57 20 rfl rfl rfl rfl rfl rfl ⟨hk.1, hk.2⟩ dL_law_1682 (fun v w hw => ?_)
    obtain ⟨rfl, rfl⟩ := hw
    refine ⟨rfl, (LW ay ad ae o oD Z vi1 ga1 fo fd), rfl, ?_⟩
    refine j_top 1 hc1 ?_
    refine j_iload F 1 dL_law_1685 rfl ?_
    refine j_icmp_eq F 1692 dL_law_1687 (by decide) (fun c_1687 => ?_) (fun c_1687 => absurd (by decide) c_1687)
    refine j_iload F 1 dL_law_1692 rfl ?_
    refine j_if_ne F 1716 dL_law_1694 (by decide) (fun c_1694 => ?_) (fun c_1694 => absurd c_1694 (by decide))
    refine j_goto F 2682 dL_law_1716 (by decide) ?_
    refine j_sub [2, 3, 4, 5, 6, 7] [(5, .int (nI (6 * t))), (0, .ref bS), (1, .ref (ad 0)), (2, .ref (ae 0)), (3, .ref o), (4, .ref oD)] rfl ?_
    exact kk Z vi1 ga1 fo fd hG1

set_option maxHeartbeats 4000000 in
set_option maxRecDepth 100000 in
theorem case_25 (l : Launch) (hfl : l.stackTraces = false) (D : va_G) (ay : Nat → ClassId) (sa : Nat → Nat) (ad ae : Nat → Nat) (o oD bS L : Nat) (xs : Nat → Int32) {p9 : Program} {e9 : Env} {s9 : State} {m9 : MethodId} {a9 : Array Value} {b9 : List Frame} {me9 : Method} {c9 : Code} {A9 : Nat → Prop} {Q9 : State → Prop} (F : jF p9 s9 m9 a9 me9 c9 cL_law 10 RL (some .boolean) D ay A9) (hX : jX sa A9 s9 s9.heap) (hN : jN s9) (hXb : va_X bS L xs s9 s9.heap) (hbl : bS < s9.heap.size) (hbA : ¬ A9 bS) (k n : Nat) (hk : k + 3 ≤ room_1.cells ∧ n + 18 ≤ room_1.slots) (t : Nat) (ht : 6 * t + 6 ≤ L) (hL : L ≤ 3072) (Z : DS) (vi : Nat → Int32) (ga : Nat → Nat → Int32) (fo : Nat → Int64) (fd : Nat → UInt64) (hG : GI Z vi ga) (kk : ∀ (Z' : DS) (vi' : Nat → Int32) (ga' : Nat → Nat → Int32) (fo' : Nat → Int64) (fd' : Nat → UInt64), GI Z' vi' ga' → jJ p9 l e9 room_1 s9 m9 a9 b9 me9 c9 Q9 D A9 10 (k + 3) (n + 18) (LW ay ad ae o oD Z' vi' ga' fo' fd') 2682 [(5, .int (nI (6 * t))), (0, .ref bS), (1, .ref (ad 0)), (2, .ref (ae 0)), (3, .ref o), (4, .ref oD)] []) : jJ p9 l e9 room_1 s9 m9 a9 b9 me9 c9 Q9 D A9 10 k n (LW ay ad ae o oD Z vi ga fo fd) 1719 [(5, .int (nI (6 * t))), (0, .ref bS), (1, .ref (ad 0)), (2, .ref (ae 0)), (3, .ref o), (4, .ref oD)] [] := by
  obtain ⟨x1, hx1⟩ : ∃ y, y = xs (6 * t + 1) := ⟨_, rfl⟩
  obtain ⟨x2, hx2⟩ : ∃ y, y = xs (6 * t + 2) := ⟨_, rfl⟩
  refine j_aload_n F 2 dL_law_1719 rfl ?_
  refine j_aload_n F 1 dL_law_1720 rfl ?_
  refine j_iload F 0 dL_law_1721 rfl ?_
  refine j_iconst F (v := 1) dL_law_1723 (by decide) ?_
  refine j_iadd F dL_law_1724 ?_
  refine j_top (nI (6 * t + 1)) (nI_add _ _) ?_
  refine j_sld F hXb hbl hbA hL (6 * t + 1) (by omega) dL_law_1725 ?_
  refine j_top x1 hx1.symm ?_
  refine j_aload_n F 1 dL_law_1726 rfl ?_
  refine j_iload F 0 dL_law_1727 rfl ?_
  refine j_iconst F (v := 2) dL_law_1729 (by decide) ?_
  refine j_iadd F dL_law_1730 ?_
  refine j_top (nI (6 * t + 2)) (nI_add _ _) ?_
  refine j_sld F hXb hbl hbA hL (6 * t + 2) (by omega) dL_law_1731 ?_
  refine j_top x2 hx2.symm ?_
  refine j_aload_n F 4 dL_law_1732 rfl ?_
  refine j_hcallS F hX hN kL_220 (As := [.ref (ad 0), .int x1, .int x2, .ref o]) (rest := []) (h_cachedAt l hfl D ay sa ad Z x1 x2 o fo (hG.2.2.1)) 1 56 rfl rfl rfl rfl rfl ⟨hk.1, hk.2⟩ dL_law_1733 (fun v w hw => ?_)
  rcases hw with ⟨i, j, g0, g1, rfl, rfl, rfl, rfl⟩ | ⟨g0, rfl, rfl⟩ | ⟨⟨i, g0, rfl, g2⟩, rfl, rfl⟩
  · skip
    refine ⟨rfl, (LW ay ad ae o oD Z vi ga (vp_updL fo 0 ((Z.2.2 (4 + i) j : Int32)).toInt64) fd), rfl, ?_⟩
    refine j_istore F 6 [(6, .int 0), (5, .int (nI (6 * t))), (0, .ref bS), (1, .ref (ad 0)), (2, .ref (ae 0)), (3, .ref o), (4, .ref oD)] dL_law_1736 (by decide) rfl ?_
    refine j_aload_n F 4 dL_law_1738 rfl ?_
    refine j_aload_n F 2 dL_law_1739 rfl ?_
    refine j_iload F 1 dL_law_1740 rfl ?_
    refine j_iconst F (v := 1) dL_law_1742 (by decide) ?_
    refine j_iadd F dL_law_1743 ?_
    refine j_top (nI (6 * t + 1)) (nI_add _ _) ?_
    refine j_sld F hXb hbl hbA hL (6 * t + 1) (by omega) dL_law_1744 ?_
    refine j_top (nI (i + 1)) hx1.symm ?_
    refine j_aload_n F 2 dL_law_1745 rfl ?_
    refine j_iload F 1 dL_law_1746 rfl ?_
    refine j_iconst F (v := 2) dL_law_1748 (by decide) ?_
    refine j_iadd F dL_law_1749 ?_
    refine j_top (nI (6 * t + 2)) (nI_add _ _) ?_
    refine j_sld F hXb hbl hbA hL (6 * t + 2) (by omega) dL_law_1750 ?_
    refine j_top (nI j) hx2.symm ?_
    refine j_scallV F kL_222 (As := [.int (nI (i + 1)), .int (nI j)]) (rest := []) (c_X10_cachedAt_ok l D ay ae vi ga Z i j hG (by first | assumption | exact ⟨‹_›, ‹_›⟩ | omega) (by first | assumption | exact ⟨‹_›, ‹_›⟩ | omega)) 57 57 20 rfl rfl rfl rfl rfl rfl ⟨hk.1, hk.2⟩ dL_law_1751 (fun v w hw => ?_)
    obtain ⟨vi1, ga1, hG1, hc1, rfl, rfl⟩ := hw
    refine ⟨rfl, (LW ay ad ae o oD Z vi1 ga1 (vp_updL fo 0 ((Z.2.2 (4 + i) j : Int32)).toInt64) fd), rfl, ?_⟩
    refine j_top (Z.2.2 (4 + i) j) rfl ?_
    refine j_istore F 7 [(7, .int (Z.2.2 (4 + i) j)), (6, .int 0), (5, .int (nI (6 * t))), (0, .ref bS), (1, .ref (ad 0)), (2, .ref (ae 0)), (3, .ref o), (4, .ref oD)] dL_law_1754 (by decide) rfl ?_
    refine j_aload_n F 5 dL_law_1756 rfl ?_
    refine j_scallV F kL_140 (As := []) (rest := []) (c_X10_thrown l D ay ae vi1 ga1) 57 57 20 rfl rfl rfl rfl rfl rfl ⟨hk.1, hk.2⟩ dL_law_1757 (fun v w hw => ?_)
    obtain ⟨rfl, rfl⟩ := hw
    refine ⟨rfl, (LW ay ad ae o oD Z vi1 ga1 (vp_updL fo 0 ((Z.2.2 (4 + i) j : Int32)).toInt64) fd), rfl, ?_⟩
    refine j_top 0 hc1 ?_
    refine j_iload F 1 dL_law_1760 rfl ?_
    refine j_icmp_eq F 1767 dL_law_1762 (by decide) (fun c_1762 => ?_) (fun c_1762 => absurd (by decide) c_1762)
    refine j_iload F 1 dL_law_1767 rfl ?_
    refine j_if_ne F 1784 dL_law_1769 (by decide) (fun c_1769 => absurd (by decide) c_1769) (fun c_1769 => ?_)
    refine j_aload_n F 6 dL_law_1772 rfl ?_
    refine j_iconst F (v := 0) dL_law_1773 (by decide) ?_
    refine j_lald F 56 0 (f := vp_updL fo 0 ((Z.2.2 (4 + i) j : Int32)).toInt64) rfl rfl (by decide) (Nat.le_of_ble_eq_true rfl) dL_law_1774 ?_
    refine j_iload F 0 dL_law_1775 rfl ?_
    refine j_i2l F dL_law_1777 ?_
    refine j_lcmp F dL_law_1778 ?_
    refine j_top 0 (lg_self _) ?_
    refine j_if_eq F 1784 dL_law_1779 (by decide) (fun c_1779 => ?_) (fun c_1779 => absurd (by decide) c_1779)
    refine j_goto F 2682 dL_law_1784 (by decide) ?_
    refine j_sub [2, 3, 4, 5, 6, 7] [(5, .int (nI (6 * t))), (0, .ref bS), (1, .ref (ad 0)), (2, .ref (ae 0)), (3, .ref o), (4, .ref oD)] rfl ?_
    exact kk Z vi1 ga1 (vp_updL fo 0 ((Z.2.2 (4 + i) j : Int32)).toInt64) fd hG1
  · skip
    refine ⟨rfl, (LW ay ad ae o oD Z vi ga fo fd), rfl, ?_⟩
    refine j_istore F 6 [(6, .int 1), (5, .int (nI (6 * t))), (0, .ref bS), (1, .ref (ad 0)), (2, .ref (ae 0)), (3, .ref o), (4, .ref oD)] dL_law_1736 (by decide) rfl ?_
    refine j_aload_n F 4 dL_law_1738 rfl ?_
    refine j_aload_n F 2 dL_law_1739 rfl ?_
    refine j_iload F 1 dL_law_1740 rfl ?_
    refine j_iconst F (v := 1) dL_law_1742 (by decide) ?_
    refine j_iadd F dL_law_1743 ?_
    refine j_top (nI (6 * t + 1)) (nI_add _ _) ?_
    refine j_sld F hXb hbl hbA hL (6 * t + 1) (by omega) dL_law_1744 ?_
    refine j_top x1 hx1.symm ?_
    refine j_aload_n F 2 dL_law_1745 rfl ?_
    refine j_iload F 1 dL_law_1746 rfl ?_
    refine j_iconst F (v := 2) dL_law_1748 (by decide) ?_
    refine j_iadd F dL_law_1749 ?_
    refine j_top (nI (6 * t + 2)) (nI_add _ _) ?_
    refine j_sld F hXb hbl hbA hL (6 * t + 2) (by omega) dL_law_1750 ?_
    refine j_top x2 hx2.symm ?_
    refine j_scallV F kL_222 (As := [.int x1, .int x2]) (rest := []) (c_X10_cachedAt_no1 l D ay ae vi ga Z x1 x2 hG (by first | assumption | exact ⟨‹_›, ‹_›⟩ | omega)) 57 57 20 rfl rfl rfl rfl rfl rfl ⟨hk.1, hk.2⟩ dL_law_1751 (fun v w hw => ?_)
    obtain ⟨vi1, ga1, hG1, hc1, rfl, rfl⟩ := hw
    refine ⟨rfl, (LW ay ad ae o oD Z vi1 ga1 fo fd), rfl, ?_⟩
    refine j_top 0 rfl ?_
    refine j_istore F 7 [(7, .int 0), (6, .int 1), (5, .int (nI (6 * t))), (0, .ref bS), (1, .ref (ad 0)), (2, .ref (ae 0)), (3, .ref o), (4, .ref oD)] dL_law_1754 (by decide) rfl ?_
    refine j_aload_n F 5 dL_law_1756 rfl ?_
    refine j_scallV F kL_140 (As := []) (rest := []) (c_X10_thrown l D ay ae vi1 ga1) 57 57 20 rfl rfl rfl rfl rfl rfl ⟨hk.1, hk.2⟩ dL_law_1757 (fun v w hw => ?_)
    obtain ⟨rfl, rfl⟩ := hw
    refine ⟨rfl, (LW ay ad ae o oD Z vi1 ga1 fo fd), rfl, ?_⟩
    refine j_top 1 hc1 ?_
    refine j_iload F 1 dL_law_1760 rfl ?_
    refine j_icmp_eq F 1767 dL_law_1762 (by decide) (fun c_1762 => ?_) (fun c_1762 => absurd (by decide) c_1762)
    refine j_iload F 1 dL_law_1767 rfl ?_
    refine j_if_ne F 1784 dL_law_1769 (by decide) (fun c_1769 => ?_) (fun c_1769 => absurd c_1769 (by decide))
    refine j_goto F 2682 dL_law_1784 (by decide) ?_
    refine j_sub [2, 3, 4, 5, 6, 7] [(5, .int (nI (6 * t))), (0, .ref bS), (1, .ref (ad 0)), (2, .ref (ae 0)), (3, .ref o), (4, .ref oD)] rfl ?_
    exact kk Z vi1 ga1 fo fd hG1
  · skip
    refine ⟨rfl, (LW ay ad ae o oD Z vi ga fo fd), rfl, ?_⟩
    refine j_istore F 6 [(6, .int 2), (5, .int (nI (6 * t))), (0, .ref bS), (1, .ref (ad 0)), (2, .ref (ae 0)), (3, .ref o), (4, .ref oD)] dL_law_1736 (by decide) rfl ?_
    refine j_aload_n F 4 dL_law_1738 rfl ?_
    refine j_aload_n F 2 dL_law_1739 rfl ?_
    refine j_iload F 1 dL_law_1740 rfl ?_
    refine j_iconst F (v := 1) dL_law_1742 (by decide) ?_
    refine j_iadd F dL_law_1743 ?_
    refine j_top (nI (6 * t + 1)) (nI_add _ _) ?_
    refine j_sld F hXb hbl hbA hL (6 * t + 1) (by omega) dL_law_1744 ?_
    refine j_top (nI (i + 1)) hx1.symm ?_
    refine j_aload_n F 2 dL_law_1745 rfl ?_
    refine j_iload F 1 dL_law_1746 rfl ?_
    refine j_iconst F (v := 2) dL_law_1748 (by decide) ?_
    refine j_iadd F dL_law_1749 ?_
    refine j_top (nI (6 * t + 2)) (nI_add _ _) ?_
    refine j_sld F hXb hbl hbA hL (6 * t + 2) (by omega) dL_law_1750 ?_
    refine j_top x2 hx2.symm ?_
    refine j_scallV F kL_222 (As := [.int (nI (i + 1)), .int x2]) (rest := []) (c_X10_cachedAt_no2 l D ay ae vi ga Z i x2 hG (by first | assumption | exact ⟨‹_›, ‹_›⟩ | omega) (by first | assumption | exact ⟨‹_›, ‹_›⟩ | omega)) 57 57 20 rfl rfl rfl rfl rfl rfl ⟨hk.1, hk.2⟩ dL_law_1751 (fun v w hw => ?_)
    obtain ⟨vi1, ga1, hG1, hc1, rfl, rfl⟩ := hw
    refine ⟨rfl, (LW ay ad ae o oD Z vi1 ga1 fo fd), rfl, ?_⟩
    refine j_top 0 rfl ?_
    refine j_istore F 7 [(7, .int 0), (6, .int 2), (5, .int (nI (6 * t))), (0, .ref bS), (1, .ref (ad 0)), (2, .ref (ae 0)), (3, .ref o), (4, .ref oD)] dL_law_1754 (by decide) rfl ?_
    refine j_aload_n F 5 dL_law_1756 rfl ?_
    refine j_scallV F kL_140 (As := []) (rest := []) (c_X10_thrown l D ay ae vi1 ga1) 57 57 20 rfl rfl rfl rfl rfl rfl ⟨hk.1, hk.2⟩ dL_law_1757 (fun v w hw => ?_)
    obtain ⟨rfl, rfl⟩ := hw
    refine ⟨rfl, (LW ay ad ae o oD Z vi1 ga1 fo fd), rfl, ?_⟩
    refine j_top 2 hc1 ?_
    refine j_iload F 1 dL_law_1760 rfl ?_
    refine j_icmp_eq F 1767 dL_law_1762 (by decide) (fun c_1762 => ?_) (fun c_1762 => absurd (by decide) c_1762)
    refine j_iload F 1 dL_law_1767 rfl ?_
    refine j_if_ne F 1784 dL_law_1769 (by decide) (fun c_1769 => ?_) (fun c_1769 => absurd c_1769 (by decide))
    refine j_goto F 2682 dL_law_1784 (by decide) ?_
    refine j_sub [2, 3, 4, 5, 6, 7] [(5, .int (nI (6 * t))), (0, .ref bS), (1, .ref (ad 0)), (2, .ref (ae 0)), (3, .ref o), (4, .ref oD)] rfl ?_
    exact kk Z vi1 ga1 fo fd hG1

set_option maxHeartbeats 4000000 in
set_option maxRecDepth 100000 in
theorem case_26 (l : Launch) (hfl : l.stackTraces = false) (D : va_G) (ay : Nat → ClassId) (sa : Nat → Nat) (ad ae : Nat → Nat) (o oD bS L : Nat) (xs : Nat → Int32) {p9 : Program} {e9 : Env} {s9 : State} {m9 : MethodId} {a9 : Array Value} {b9 : List Frame} {me9 : Method} {c9 : Code} {A9 : Nat → Prop} {Q9 : State → Prop} (F : jF p9 s9 m9 a9 me9 c9 cL_law 10 RL (some .boolean) D ay A9) (hX : jX sa A9 s9 s9.heap) (hN : jN s9) (hXb : va_X bS L xs s9 s9.heap) (hbl : bS < s9.heap.size) (hbA : ¬ A9 bS) (k n : Nat) (hk : k + 3 ≤ room_1.cells ∧ n + 18 ≤ room_1.slots) (t : Nat) (ht : 6 * t + 6 ≤ L) (hL : L ≤ 3072) (Z : DS) (vi : Nat → Int32) (ga : Nat → Nat → Int32) (fo : Nat → Int64) (fd : Nat → UInt64) (hG : GI Z vi ga) (kk : ∀ (Z' : DS) (vi' : Nat → Int32) (ga' : Nat → Nat → Int32) (fo' : Nat → Int64) (fd' : Nat → UInt64), GI Z' vi' ga' → jJ p9 l e9 room_1 s9 m9 a9 b9 me9 c9 Q9 D A9 10 (k + 3) (n + 18) (LW ay ad ae o oD Z' vi' ga' fo' fd') 2682 [(5, .int (nI (6 * t))), (0, .ref bS), (1, .ref (ad 0)), (2, .ref (ae 0)), (3, .ref o), (4, .ref oD)] []) : jJ p9 l e9 room_1 s9 m9 a9 b9 me9 c9 Q9 D A9 10 k n (LW ay ad ae o oD Z vi ga fo fd) 1787 [(5, .int (nI (6 * t))), (0, .ref bS), (1, .ref (ad 0)), (2, .ref (ae 0)), (3, .ref o), (4, .ref oD)] [] := by
  refine j_aload_n F 2 dL_law_1787 rfl ?_
  refine j_scallV F kL_223 (As := []) (rest := []) (c_X9_requests l D ay ad Z) 1 1 55 rfl rfl rfl rfl rfl rfl ⟨Nat.le_trans (Nat.le_add_right _ _) hk.1, Nat.le_trans (Nat.le_add_right _ _) hk.2⟩ dL_law_1788 (fun v w hw => ?_)
  obtain ⟨rfl, rfl⟩ := hw
  refine ⟨rfl, (LW ay ad ae o oD Z vi ga fo fd), rfl, ?_⟩
  refine j_aload_n F 3 dL_law_1791 rfl ?_
  refine j_scallV F kL_226 (As := []) (rest := [.int (nI (Z.1 14))]) (c_X10_requests_ok l D ay ae vi ga Z hG) 57 57 20 rfl rfl rfl rfl rfl rfl ⟨Nat.le_trans (Nat.le_add_right _ _) hk.1, Nat.le_trans (Nat.le_add_right _ _) hk.2⟩ dL_law_1792 (fun v w hw => ?_)
  obtain ⟨vi1, ga1, hG1, hc1, rfl, rfl⟩ := hw
  refine ⟨rfl, (LW ay ad ae o oD Z vi1 ga1 fo fd), rfl, ?_⟩
  refine j_top (nI (Z.1 14)) rfl ?_
  refine j_icmp_eq F 2682 dL_law_1795 (by decide) (fun c_1795 => ?_) (fun c_1795 => absurd rfl c_1795)
  refine j_widen (Nat.le_add_right k 3) (Nat.le_add_right n 18) ?_
  refine j_sub [0, 1, 2, 3, 4, 5] [(5, .int (nI (6 * t))), (0, .ref bS), (1, .ref (ad 0)), (2, .ref (ae 0)), (3, .ref o), (4, .ref oD)] rfl ?_
  exact kk Z vi1 ga1 fo fd hG1

set_option maxHeartbeats 4000000 in
set_option maxRecDepth 100000 in
theorem case_27 (l : Launch) (hfl : l.stackTraces = false) (D : va_G) (ay : Nat → ClassId) (sa : Nat → Nat) (ad ae : Nat → Nat) (o oD bS L : Nat) (xs : Nat → Int32) {p9 : Program} {e9 : Env} {s9 : State} {m9 : MethodId} {a9 : Array Value} {b9 : List Frame} {me9 : Method} {c9 : Code} {A9 : Nat → Prop} {Q9 : State → Prop} (F : jF p9 s9 m9 a9 me9 c9 cL_law 10 RL (some .boolean) D ay A9) (hX : jX sa A9 s9 s9.heap) (hN : jN s9) (hXb : va_X bS L xs s9 s9.heap) (hbl : bS < s9.heap.size) (hbA : ¬ A9 bS) (k n : Nat) (hk : k + 3 ≤ room_1.cells ∧ n + 18 ≤ room_1.slots) (t : Nat) (ht : 6 * t + 6 ≤ L) (hL : L ≤ 3072) (Z : DS) (vi : Nat → Int32) (ga : Nat → Nat → Int32) (fo : Nat → Int64) (fd : Nat → UInt64) (hG : GI Z vi ga) (kk : ∀ (Z' : DS) (vi' : Nat → Int32) (ga' : Nat → Nat → Int32) (fo' : Nat → Int64) (fd' : Nat → UInt64), GI Z' vi' ga' → jJ p9 l e9 room_1 s9 m9 a9 b9 me9 c9 Q9 D A9 10 (k + 3) (n + 18) (LW ay ad ae o oD Z' vi' ga' fo' fd') 2682 [(5, .int (nI (6 * t))), (0, .ref bS), (1, .ref (ad 0)), (2, .ref (ae 0)), (3, .ref o), (4, .ref oD)] []) : jJ p9 l e9 room_1 s9 m9 a9 b9 me9 c9 Q9 D A9 10 k n (LW ay ad ae o oD Z vi ga fo fd) 1800 [(5, .int (nI (6 * t))), (0, .ref bS), (1, .ref (ad 0)), (2, .ref (ae 0)), (3, .ref o), (4, .ref oD)] [] := by
  obtain ⟨x1, hx1⟩ : ∃ y, y = xs (6 * t + 1) := ⟨_, rfl⟩
  refine j_aload_n F 2 dL_law_1800 rfl ?_
  refine j_aload_n F 1 dL_law_1801 rfl ?_
  refine j_iload F 0 dL_law_1802 rfl ?_
  refine j_iconst F (v := 1) dL_law_1804 (by decide) ?_
  refine j_iadd F dL_law_1805 ?_
  refine j_top (nI (6 * t + 1)) (nI_add _ _) ?_
  refine j_sld F hXb hbl hbA hL (6 * t + 1) (by omega) dL_law_1806 ?_
  refine j_top x1 hx1.symm ?_
  refine j_aload_n F 4 dL_law_1807 rfl ?_
  refine j_hcallS F hX hN kL_227 (As := [.ref (ad 0), .int x1, .ref o]) (rest := []) (h_requestAt l hfl D ay sa ad Z x1 o fo (hG.2.2.1.2.2)) 1 56 rfl rfl rfl rfl rfl ⟨hk.1, hk.2⟩ dL_law_1808 (fun v w hw => ?_)
  rcases hw with ⟨j, g0, rfl, rfl, rfl⟩ | ⟨g0, rfl, rfl⟩
  · skip
    refine ⟨rfl, (LW ay ad ae o oD Z vi ga (vp_updL fo 0 ((Z.2.2 12 j : Int32)).toInt64) fd), rfl, ?_⟩
    refine j_istore F 6 [(6, .int 0), (5, .int (nI (6 * t))), (0, .ref bS), (1, .ref (ad 0)), (2, .ref (ae 0)), (3, .ref o), (4, .ref oD)] dL_law_1811 (by decide) rfl ?_
    refine j_aload_n F 4 dL_law_1813 rfl ?_
    refine j_aload_n F 2 dL_law_1814 rfl ?_
    refine j_iload F 1 dL_law_1815 rfl ?_
    refine j_iconst F (v := 1) dL_law_1817 (by decide) ?_
    refine j_iadd F dL_law_1818 ?_
    refine j_top (nI (6 * t + 1)) (nI_add _ _) ?_
    refine j_sld F hXb hbl hbA hL (6 * t + 1) (by omega) dL_law_1819 ?_
    refine j_top (nI j) hx1.symm ?_
    refine j_scallV F kL_229 (As := [.int (nI j)]) (rest := []) (c_X10_requestAt_ok l D ay ae vi ga Z j hG (by first | assumption | exact ⟨‹_›, ‹_›⟩ | omega)) 57 57 20 rfl rfl rfl rfl rfl rfl ⟨hk.1, hk.2⟩ dL_law_1820 (fun v w hw => ?_)
    obtain ⟨vi1, ga1, hG1, hc1, rfl, rfl⟩ := hw
    refine ⟨rfl, (LW ay ad ae o oD Z vi1 ga1 (vp_updL fo 0 ((Z.2.2 12 j : Int32)).toInt64) fd), rfl, ?_⟩
    refine j_top (Z.2.2 12 j) rfl ?_
    refine j_istore F 7 [(7, .int (Z.2.2 12 j)), (6, .int 0), (5, .int (nI (6 * t))), (0, .ref bS), (1, .ref (ad 0)), (2, .ref (ae 0)), (3, .ref o), (4, .ref oD)] dL_law_1823 (by decide) rfl ?_
    refine j_aload_n F 5 dL_law_1825 rfl ?_
    refine j_scallV F kL_140 (As := []) (rest := []) (c_X10_thrown l D ay ae vi1 ga1) 57 57 20 rfl rfl rfl rfl rfl rfl ⟨hk.1, hk.2⟩ dL_law_1826 (fun v w hw => ?_)
    obtain ⟨rfl, rfl⟩ := hw
    refine ⟨rfl, (LW ay ad ae o oD Z vi1 ga1 (vp_updL fo 0 ((Z.2.2 12 j : Int32)).toInt64) fd), rfl, ?_⟩
    refine j_top 0 hc1 ?_
    refine j_iload F 1 dL_law_1829 rfl ?_
    refine j_icmp_eq F 1836 dL_law_1831 (by decide) (fun c_1831 => ?_) (fun c_1831 => absurd (by decide) c_1831)
    refine j_iload F 1 dL_law_1836 rfl ?_
    refine j_if_ne F 1853 dL_law_1838 (by decide) (fun c_1838 => absurd (by decide) c_1838) (fun c_1838 => ?_)
    refine j_aload_n F 6 dL_law_1841 rfl ?_
    refine j_iconst F (v := 0) dL_law_1842 (by decide) ?_
    refine j_lald F 56 0 (f := vp_updL fo 0 ((Z.2.2 12 j : Int32)).toInt64) rfl rfl (by decide) (Nat.le_of_ble_eq_true rfl) dL_law_1843 ?_
    refine j_iload F 0 dL_law_1844 rfl ?_
    refine j_i2l F dL_law_1846 ?_
    refine j_lcmp F dL_law_1847 ?_
    refine j_top 0 (lg_self _) ?_
    refine j_if_eq F 1853 dL_law_1848 (by decide) (fun c_1848 => ?_) (fun c_1848 => absurd (by decide) c_1848)
    refine j_goto F 2682 dL_law_1853 (by decide) ?_
    refine j_sub [2, 3, 4, 5, 6, 7] [(5, .int (nI (6 * t))), (0, .ref bS), (1, .ref (ad 0)), (2, .ref (ae 0)), (3, .ref o), (4, .ref oD)] rfl ?_
    exact kk Z vi1 ga1 (vp_updL fo 0 ((Z.2.2 12 j : Int32)).toInt64) fd hG1
  · skip
    refine ⟨rfl, (LW ay ad ae o oD Z vi ga fo fd), rfl, ?_⟩
    refine j_istore F 6 [(6, .int 1), (5, .int (nI (6 * t))), (0, .ref bS), (1, .ref (ad 0)), (2, .ref (ae 0)), (3, .ref o), (4, .ref oD)] dL_law_1811 (by decide) rfl ?_
    refine j_aload_n F 4 dL_law_1813 rfl ?_
    refine j_aload_n F 2 dL_law_1814 rfl ?_
    refine j_iload F 1 dL_law_1815 rfl ?_
    refine j_iconst F (v := 1) dL_law_1817 (by decide) ?_
    refine j_iadd F dL_law_1818 ?_
    refine j_top (nI (6 * t + 1)) (nI_add _ _) ?_
    refine j_sld F hXb hbl hbA hL (6 * t + 1) (by omega) dL_law_1819 ?_
    refine j_top x1 hx1.symm ?_
    refine j_scallV F kL_229 (As := [.int x1]) (rest := []) (c_X10_requestAt_no l D ay ae vi ga Z x1 hG (by first | assumption | exact ⟨‹_›, ‹_›⟩ | omega)) 57 57 20 rfl rfl rfl rfl rfl rfl ⟨hk.1, hk.2⟩ dL_law_1820 (fun v w hw => ?_)
    obtain ⟨vi1, ga1, hG1, hc1, rfl, rfl⟩ := hw
    refine ⟨rfl, (LW ay ad ae o oD Z vi1 ga1 fo fd), rfl, ?_⟩
    refine j_top 0 rfl ?_
    refine j_istore F 7 [(7, .int 0), (6, .int 1), (5, .int (nI (6 * t))), (0, .ref bS), (1, .ref (ad 0)), (2, .ref (ae 0)), (3, .ref o), (4, .ref oD)] dL_law_1823 (by decide) rfl ?_
    refine j_aload_n F 5 dL_law_1825 rfl ?_
    refine j_scallV F kL_140 (As := []) (rest := []) (c_X10_thrown l D ay ae vi1 ga1) 57 57 20 rfl rfl rfl rfl rfl rfl ⟨hk.1, hk.2⟩ dL_law_1826 (fun v w hw => ?_)
    obtain ⟨rfl, rfl⟩ := hw
    refine ⟨rfl, (LW ay ad ae o oD Z vi1 ga1 fo fd), rfl, ?_⟩
    refine j_top 1 hc1 ?_
    refine j_iload F 1 dL_law_1829 rfl ?_
    refine j_icmp_eq F 1836 dL_law_1831 (by decide) (fun c_1831 => ?_) (fun c_1831 => absurd (by decide) c_1831)
    refine j_iload F 1 dL_law_1836 rfl ?_
    refine j_if_ne F 1853 dL_law_1838 (by decide) (fun c_1838 => ?_) (fun c_1838 => absurd c_1838 (by decide))
    refine j_goto F 2682 dL_law_1853 (by decide) ?_
    refine j_sub [2, 3, 4, 5, 6, 7] [(5, .int (nI (6 * t))), (0, .ref bS), (1, .ref (ad 0)), (2, .ref (ae 0)), (3, .ref o), (4, .ref oD)] rfl ?_
    exact kk Z vi1 ga1 fo fd hG1

set_option maxHeartbeats 4000000 in
set_option maxRecDepth 100000 in
theorem case_28 (l : Launch) (hfl : l.stackTraces = false) (D : va_G) (ay : Nat → ClassId) (sa : Nat → Nat) (ad ae : Nat → Nat) (o oD bS L : Nat) (xs : Nat → Int32) {p9 : Program} {e9 : Env} {s9 : State} {m9 : MethodId} {a9 : Array Value} {b9 : List Frame} {me9 : Method} {c9 : Code} {A9 : Nat → Prop} {Q9 : State → Prop} (F : jF p9 s9 m9 a9 me9 c9 cL_law 10 RL (some .boolean) D ay A9) (hX : jX sa A9 s9 s9.heap) (hN : jN s9) (hXb : va_X bS L xs s9 s9.heap) (hbl : bS < s9.heap.size) (hbA : ¬ A9 bS) (k n : Nat) (hk : k + 3 ≤ room_1.cells ∧ n + 18 ≤ room_1.slots) (t : Nat) (ht : 6 * t + 6 ≤ L) (hL : L ≤ 3072) (Z : DS) (vi : Nat → Int32) (ga : Nat → Nat → Int32) (fo : Nat → Int64) (fd : Nat → UInt64) (hG : GI Z vi ga) (kk : ∀ (Z' : DS) (vi' : Nat → Int32) (ga' : Nat → Nat → Int32) (fo' : Nat → Int64) (fd' : Nat → UInt64), GI Z' vi' ga' → jJ p9 l e9 room_1 s9 m9 a9 b9 me9 c9 Q9 D A9 10 (k + 3) (n + 18) (LW ay ad ae o oD Z' vi' ga' fo' fd') 2682 [(5, .int (nI (6 * t))), (0, .ref bS), (1, .ref (ad 0)), (2, .ref (ae 0)), (3, .ref o), (4, .ref oD)] []) : jJ p9 l e9 room_1 s9 m9 a9 b9 me9 c9 Q9 D A9 10 k n (LW ay ad ae o oD Z vi ga fo fd) 1856 [(5, .int (nI (6 * t))), (0, .ref bS), (1, .ref (ad 0)), (2, .ref (ae 0)), (3, .ref o), (4, .ref oD)] [] := by
  obtain ⟨x1, hx1⟩ : ∃ y, y = xs (6 * t + 1) := ⟨_, rfl⟩
  refine j_aload_n F 2 dL_law_1856 rfl ?_
  refine j_aload_n F 1 dL_law_1857 rfl ?_
  refine j_iload F 0 dL_law_1858 rfl ?_
  refine j_iconst F (v := 1) dL_law_1860 (by decide) ?_
  refine j_iadd F dL_law_1861 ?_
  refine j_top (nI (6 * t + 1)) (nI_add _ _) ?_
  refine j_sld F hXb hbl hbA hL (6 * t + 1) (by omega) dL_law_1862 ?_
  refine j_top x1 hx1.symm ?_
  refine j_aload_n F 4 dL_law_1863 rfl ?_
  refine j_hcallS F hX hN kL_230 (As := [.ref (ad 0), .int x1, .ref o]) (rest := []) (h_distanceOf l hfl D ay sa ad Z x1 o fo (hG.2.2.1.2.2)) 1 56 rfl rfl rfl rfl rfl ⟨hk.1, hk.2⟩ dL_law_1864 (fun v w hw => ?_)
  rcases hw with ⟨j, g0, rfl, rfl, rfl⟩ | ⟨g0, rfl, rfl⟩
  · skip
    refine ⟨rfl, (LW ay ad ae o oD Z vi ga (vp_updL fo 0 ((Z.2.2 13 j : Int32)).toInt64) fd), rfl, ?_⟩
    refine j_istore F 6 [(6, .int 0), (5, .int (nI (6 * t))), (0, .ref bS), (1, .ref (ad 0)), (2, .ref (ae 0)), (3, .ref o), (4, .ref oD)] dL_law_1867 (by decide) rfl ?_
    refine j_aload_n F 4 dL_law_1869 rfl ?_
    refine j_aload_n F 2 dL_law_1870 rfl ?_
    refine j_iload F 1 dL_law_1871 rfl ?_
    refine j_iconst F (v := 1) dL_law_1873 (by decide) ?_
    refine j_iadd F dL_law_1874 ?_
    refine j_top (nI (6 * t + 1)) (nI_add _ _) ?_
    refine j_sld F hXb hbl hbA hL (6 * t + 1) (by omega) dL_law_1875 ?_
    refine j_top (nI j) hx1.symm ?_
    refine j_scallV F kL_232 (As := [.int (nI j)]) (rest := []) (c_X10_distanceOf_ok l D ay ae vi ga Z j hG (by first | assumption | exact ⟨‹_›, ‹_›⟩ | omega)) 57 57 20 rfl rfl rfl rfl rfl rfl ⟨hk.1, hk.2⟩ dL_law_1876 (fun v w hw => ?_)
    obtain ⟨vi1, ga1, hG1, hc1, rfl, rfl⟩ := hw
    refine ⟨rfl, (LW ay ad ae o oD Z vi1 ga1 (vp_updL fo 0 ((Z.2.2 13 j : Int32)).toInt64) fd), rfl, ?_⟩
    refine j_top (Z.2.2 13 j) rfl ?_
    refine j_istore F 7 [(7, .int (Z.2.2 13 j)), (6, .int 0), (5, .int (nI (6 * t))), (0, .ref bS), (1, .ref (ad 0)), (2, .ref (ae 0)), (3, .ref o), (4, .ref oD)] dL_law_1879 (by decide) rfl ?_
    refine j_aload_n F 5 dL_law_1881 rfl ?_
    refine j_scallV F kL_140 (As := []) (rest := []) (c_X10_thrown l D ay ae vi1 ga1) 57 57 20 rfl rfl rfl rfl rfl rfl ⟨hk.1, hk.2⟩ dL_law_1882 (fun v w hw => ?_)
    obtain ⟨rfl, rfl⟩ := hw
    refine ⟨rfl, (LW ay ad ae o oD Z vi1 ga1 (vp_updL fo 0 ((Z.2.2 13 j : Int32)).toInt64) fd), rfl, ?_⟩
    refine j_top 0 hc1 ?_
    refine j_iload F 1 dL_law_1885 rfl ?_
    refine j_icmp_eq F 1892 dL_law_1887 (by decide) (fun c_1887 => ?_) (fun c_1887 => absurd (by decide) c_1887)
    refine j_iload F 1 dL_law_1892 rfl ?_
    refine j_if_ne F 1909 dL_law_1894 (by decide) (fun c_1894 => absurd (by decide) c_1894) (fun c_1894 => ?_)
    refine j_aload_n F 6 dL_law_1897 rfl ?_
    refine j_iconst F (v := 0) dL_law_1898 (by decide) ?_
    refine j_lald F 56 0 (f := vp_updL fo 0 ((Z.2.2 13 j : Int32)).toInt64) rfl rfl (by decide) (Nat.le_of_ble_eq_true rfl) dL_law_1899 ?_
    refine j_iload F 0 dL_law_1900 rfl ?_
    refine j_i2l F dL_law_1902 ?_
    refine j_lcmp F dL_law_1903 ?_
    refine j_top 0 (lg_self _) ?_
    refine j_if_eq F 1909 dL_law_1904 (by decide) (fun c_1904 => ?_) (fun c_1904 => absurd (by decide) c_1904)
    refine j_goto F 2682 dL_law_1909 (by decide) ?_
    refine j_sub [2, 3, 4, 5, 6, 7] [(5, .int (nI (6 * t))), (0, .ref bS), (1, .ref (ad 0)), (2, .ref (ae 0)), (3, .ref o), (4, .ref oD)] rfl ?_
    exact kk Z vi1 ga1 (vp_updL fo 0 ((Z.2.2 13 j : Int32)).toInt64) fd hG1
  · skip
    refine ⟨rfl, (LW ay ad ae o oD Z vi ga fo fd), rfl, ?_⟩
    refine j_istore F 6 [(6, .int 1), (5, .int (nI (6 * t))), (0, .ref bS), (1, .ref (ad 0)), (2, .ref (ae 0)), (3, .ref o), (4, .ref oD)] dL_law_1867 (by decide) rfl ?_
    refine j_aload_n F 4 dL_law_1869 rfl ?_
    refine j_aload_n F 2 dL_law_1870 rfl ?_
    refine j_iload F 1 dL_law_1871 rfl ?_
    refine j_iconst F (v := 1) dL_law_1873 (by decide) ?_
    refine j_iadd F dL_law_1874 ?_
    refine j_top (nI (6 * t + 1)) (nI_add _ _) ?_
    refine j_sld F hXb hbl hbA hL (6 * t + 1) (by omega) dL_law_1875 ?_
    refine j_top x1 hx1.symm ?_
    refine j_scallV F kL_232 (As := [.int x1]) (rest := []) (c_X10_distanceOf_no l D ay ae vi ga Z x1 hG (by first | assumption | exact ⟨‹_›, ‹_›⟩ | omega)) 57 57 20 rfl rfl rfl rfl rfl rfl ⟨hk.1, hk.2⟩ dL_law_1876 (fun v w hw => ?_)
    obtain ⟨vi1, ga1, hG1, hc1, rfl, rfl⟩ := hw
    refine ⟨rfl, (LW ay ad ae o oD Z vi1 ga1 fo fd), rfl, ?_⟩
    refine j_top 0 rfl ?_
    refine j_istore F 7 [(7, .int 0), (6, .int 1), (5, .int (nI (6 * t))), (0, .ref bS), (1, .ref (ad 0)), (2, .ref (ae 0)), (3, .ref o), (4, .ref oD)] dL_law_1879 (by decide) rfl ?_
    refine j_aload_n F 5 dL_law_1881 rfl ?_
    refine j_scallV F kL_140 (As := []) (rest := []) (c_X10_thrown l D ay ae vi1 ga1) 57 57 20 rfl rfl rfl rfl rfl rfl ⟨hk.1, hk.2⟩ dL_law_1882 (fun v w hw => ?_)
    obtain ⟨rfl, rfl⟩ := hw
    refine ⟨rfl, (LW ay ad ae o oD Z vi1 ga1 fo fd), rfl, ?_⟩
    refine j_top 1 hc1 ?_
    refine j_iload F 1 dL_law_1885 rfl ?_
    refine j_icmp_eq F 1892 dL_law_1887 (by decide) (fun c_1887 => ?_) (fun c_1887 => absurd (by decide) c_1887)
    refine j_iload F 1 dL_law_1892 rfl ?_
    refine j_if_ne F 1909 dL_law_1894 (by decide) (fun c_1894 => ?_) (fun c_1894 => absurd c_1894 (by decide))
    refine j_goto F 2682 dL_law_1909 (by decide) ?_
    refine j_sub [2, 3, 4, 5, 6, 7] [(5, .int (nI (6 * t))), (0, .ref bS), (1, .ref (ad 0)), (2, .ref (ae 0)), (3, .ref o), (4, .ref oD)] rfl ?_
    exact kk Z vi1 ga1 fo fd hG1

set_option maxHeartbeats 4000000 in
set_option maxRecDepth 100000 in
theorem case_29 (l : Launch) (hfl : l.stackTraces = false) (D : va_G) (ay : Nat → ClassId) (sa : Nat → Nat) (ad ae : Nat → Nat) (o oD bS L : Nat) (xs : Nat → Int32) {p9 : Program} {e9 : Env} {s9 : State} {m9 : MethodId} {a9 : Array Value} {b9 : List Frame} {me9 : Method} {c9 : Code} {A9 : Nat → Prop} {Q9 : State → Prop} (F : jF p9 s9 m9 a9 me9 c9 cL_law 10 RL (some .boolean) D ay A9) (hX : jX sa A9 s9 s9.heap) (hN : jN s9) (hXb : va_X bS L xs s9 s9.heap) (hbl : bS < s9.heap.size) (hbA : ¬ A9 bS) (k n : Nat) (hk : k + 3 ≤ room_1.cells ∧ n + 18 ≤ room_1.slots) (t : Nat) (ht : 6 * t + 6 ≤ L) (hL : L ≤ 3072) (Z : DS) (vi : Nat → Int32) (ga : Nat → Nat → Int32) (fo : Nat → Int64) (fd : Nat → UInt64) (hG : GI Z vi ga) (kk : ∀ (Z' : DS) (vi' : Nat → Int32) (ga' : Nat → Nat → Int32) (fo' : Nat → Int64) (fd' : Nat → UInt64), GI Z' vi' ga' → jJ p9 l e9 room_1 s9 m9 a9 b9 me9 c9 Q9 D A9 10 (k + 3) (n + 18) (LW ay ad ae o oD Z' vi' ga' fo' fd') 2682 [(5, .int (nI (6 * t))), (0, .ref bS), (1, .ref (ad 0)), (2, .ref (ae 0)), (3, .ref o), (4, .ref oD)] []) : jJ p9 l e9 room_1 s9 m9 a9 b9 me9 c9 Q9 D A9 10 k n (LW ay ad ae o oD Z vi ga fo fd) 1912 [(5, .int (nI (6 * t))), (0, .ref bS), (1, .ref (ad 0)), (2, .ref (ae 0)), (3, .ref o), (4, .ref oD)] [] := by
  obtain ⟨x1, hx1⟩ : ∃ y, y = xs (6 * t + 1) := ⟨_, rfl⟩
  refine j_aload_n F 2 dL_law_1912 rfl ?_
  refine j_aload_n F 1 dL_law_1913 rfl ?_
  refine j_iload F 0 dL_law_1914 rfl ?_
  refine j_iconst F (v := 1) dL_law_1916 (by decide) ?_
  refine j_iadd F dL_law_1917 ?_
  refine j_top (nI (6 * t + 1)) (nI_add _ _) ?_
  refine j_sld F hXb hbl hbA hL (6 * t + 1) (by omega) dL_law_1918 ?_
  refine j_top x1 hx1.symm ?_
  refine j_aload_n F 4 dL_law_1919 rfl ?_
  refine j_hcallS F hX hN kL_233 (As := [.ref (ad 0), .int x1, .ref o]) (rest := []) (h_nearer l hfl D ay sa ad Z x1 o fo (hG.2.2.1.2.2)) 1 56 rfl rfl rfl rfl rfl ⟨hk.1, hk.2⟩ dL_law_1920 (fun v w hw => ?_)
  rcases hw with ⟨g0, rfl, rfl⟩ | ⟨g0, rfl, rfl⟩
  · skip
    refine ⟨rfl, (LW ay ad ae o oD Z vi ga (vp_updL fo 0 ((nI (cb (Z.2.2 13) x1 (Z.1 14)) : Int32)).toInt64) fd), rfl, ?_⟩
    refine j_istore F 6 [(6, .int 0), (5, .int (nI (6 * t))), (0, .ref bS), (1, .ref (ad 0)), (2, .ref (ae 0)), (3, .ref o), (4, .ref oD)] dL_law_1923 (by decide) rfl ?_
    refine j_aload_n F 4 dL_law_1925 rfl ?_
    refine j_aload_n F 2 dL_law_1926 rfl ?_
    refine j_iload F 1 dL_law_1927 rfl ?_
    refine j_iconst F (v := 1) dL_law_1929 (by decide) ?_
    refine j_iadd F dL_law_1930 ?_
    refine j_top (nI (6 * t + 1)) (nI_add _ _) ?_
    refine j_sld F hXb hbl hbA hL (6 * t + 1) (by omega) dL_law_1931 ?_
    refine j_top x1 hx1.symm ?_
    refine j_scallV F kL_235 (As := [.int x1]) (rest := []) (c_X10_nearer_ok l D ay ae vi ga Z x1 hG (by first | assumption | exact ⟨‹_›, ‹_›⟩ | omega)) 57 57 20 rfl rfl rfl rfl rfl rfl ⟨hk.1, hk.2⟩ dL_law_1932 (fun v w hw => ?_)
    obtain ⟨vi1, ga1, hG1, hc1, rfl, rfl⟩ := hw
    refine ⟨rfl, (LW ay ad ae o oD Z vi1 ga1 (vp_updL fo 0 ((nI (cb (Z.2.2 13) x1 (Z.1 14)) : Int32)).toInt64) fd), rfl, ?_⟩
    refine j_top (nI (cb (Z.2.2 13) x1 (Z.1 14))) rfl ?_
    refine j_istore F 7 [(7, .int (nI (cb (Z.2.2 13) x1 (Z.1 14)))), (6, .int 0), (5, .int (nI (6 * t))), (0, .ref bS), (1, .ref (ad 0)), (2, .ref (ae 0)), (3, .ref o), (4, .ref oD)] dL_law_1935 (by decide) rfl ?_
    refine j_aload_n F 5 dL_law_1937 rfl ?_
    refine j_scallV F kL_140 (As := []) (rest := []) (c_X10_thrown l D ay ae vi1 ga1) 57 57 20 rfl rfl rfl rfl rfl rfl ⟨hk.1, hk.2⟩ dL_law_1938 (fun v w hw => ?_)
    obtain ⟨rfl, rfl⟩ := hw
    refine ⟨rfl, (LW ay ad ae o oD Z vi1 ga1 (vp_updL fo 0 ((nI (cb (Z.2.2 13) x1 (Z.1 14)) : Int32)).toInt64) fd), rfl, ?_⟩
    refine j_top 0 hc1 ?_
    refine j_iload F 1 dL_law_1941 rfl ?_
    refine j_icmp_eq F 1948 dL_law_1943 (by decide) (fun c_1943 => ?_) (fun c_1943 => absurd (by decide) c_1943)
    refine j_iload F 1 dL_law_1948 rfl ?_
    refine j_if_ne F 1965 dL_law_1950 (by decide) (fun c_1950 => absurd (by decide) c_1950) (fun c_1950 => ?_)
    refine j_aload_n F 6 dL_law_1953 rfl ?_
    refine j_iconst F (v := 0) dL_law_1954 (by decide) ?_
    refine j_lald F 56 0 (f := vp_updL fo 0 ((nI (cb (Z.2.2 13) x1 (Z.1 14)) : Int32)).toInt64) rfl rfl (by decide) (Nat.le_of_ble_eq_true rfl) dL_law_1955 ?_
    refine j_iload F 0 dL_law_1956 rfl ?_
    refine j_i2l F dL_law_1958 ?_
    refine j_lcmp F dL_law_1959 ?_
    refine j_top 0 (lg_self _) ?_
    refine j_if_eq F 1965 dL_law_1960 (by decide) (fun c_1960 => ?_) (fun c_1960 => absurd (by decide) c_1960)
    refine j_goto F 2682 dL_law_1965 (by decide) ?_
    refine j_sub [2, 3, 4, 5, 6, 7] [(5, .int (nI (6 * t))), (0, .ref bS), (1, .ref (ad 0)), (2, .ref (ae 0)), (3, .ref o), (4, .ref oD)] rfl ?_
    exact kk Z vi1 ga1 (vp_updL fo 0 ((nI (cb (Z.2.2 13) x1 (Z.1 14)) : Int32)).toInt64) fd hG1
  · skip
    refine ⟨rfl, (LW ay ad ae o oD Z vi ga fo fd), rfl, ?_⟩
    refine j_istore F 6 [(6, .int 1), (5, .int (nI (6 * t))), (0, .ref bS), (1, .ref (ad 0)), (2, .ref (ae 0)), (3, .ref o), (4, .ref oD)] dL_law_1923 (by decide) rfl ?_
    refine j_aload_n F 4 dL_law_1925 rfl ?_
    refine j_aload_n F 2 dL_law_1926 rfl ?_
    refine j_iload F 1 dL_law_1927 rfl ?_
    refine j_iconst F (v := 1) dL_law_1929 (by decide) ?_
    refine j_iadd F dL_law_1930 ?_
    refine j_top (nI (6 * t + 1)) (nI_add _ _) ?_
    refine j_sld F hXb hbl hbA hL (6 * t + 1) (by omega) dL_law_1931 ?_
    refine j_top x1 hx1.symm ?_
    refine j_scallV F kL_235 (As := [.int x1]) (rest := []) (c_X10_nearer_no l D ay ae vi ga Z x1 hG (by first | assumption | exact ⟨‹_›, ‹_›⟩ | omega)) 57 57 20 rfl rfl rfl rfl rfl rfl ⟨hk.1, hk.2⟩ dL_law_1932 (fun v w hw => ?_)
    obtain ⟨vi1, ga1, hG1, hc1, rfl, rfl⟩ := hw
    refine ⟨rfl, (LW ay ad ae o oD Z vi1 ga1 fo fd), rfl, ?_⟩
    refine j_top 0 rfl ?_
    refine j_istore F 7 [(7, .int 0), (6, .int 1), (5, .int (nI (6 * t))), (0, .ref bS), (1, .ref (ad 0)), (2, .ref (ae 0)), (3, .ref o), (4, .ref oD)] dL_law_1935 (by decide) rfl ?_
    refine j_aload_n F 5 dL_law_1937 rfl ?_
    refine j_scallV F kL_140 (As := []) (rest := []) (c_X10_thrown l D ay ae vi1 ga1) 57 57 20 rfl rfl rfl rfl rfl rfl ⟨hk.1, hk.2⟩ dL_law_1938 (fun v w hw => ?_)
    obtain ⟨rfl, rfl⟩ := hw
    refine ⟨rfl, (LW ay ad ae o oD Z vi1 ga1 fo fd), rfl, ?_⟩
    refine j_top 1 hc1 ?_
    refine j_iload F 1 dL_law_1941 rfl ?_
    refine j_icmp_eq F 1948 dL_law_1943 (by decide) (fun c_1943 => ?_) (fun c_1943 => absurd (by decide) c_1943)
    refine j_iload F 1 dL_law_1948 rfl ?_
    refine j_if_ne F 1965 dL_law_1950 (by decide) (fun c_1950 => ?_) (fun c_1950 => absurd c_1950 (by decide))
    refine j_goto F 2682 dL_law_1965 (by decide) ?_
    refine j_sub [2, 3, 4, 5, 6, 7] [(5, .int (nI (6 * t))), (0, .ref bS), (1, .ref (ad 0)), (2, .ref (ae 0)), (3, .ref o), (4, .ref oD)] rfl ?_
    exact kk Z vi1 ga1 fo fd hG1

set_option maxHeartbeats 4000000 in
set_option maxRecDepth 100000 in
theorem case_30 (l : Launch) (hfl : l.stackTraces = false) (D : va_G) (ay : Nat → ClassId) (sa : Nat → Nat) (ad ae : Nat → Nat) (o oD bS L : Nat) (xs : Nat → Int32) {p9 : Program} {e9 : Env} {s9 : State} {m9 : MethodId} {a9 : Array Value} {b9 : List Frame} {me9 : Method} {c9 : Code} {A9 : Nat → Prop} {Q9 : State → Prop} (F : jF p9 s9 m9 a9 me9 c9 cL_law 10 RL (some .boolean) D ay A9) (hX : jX sa A9 s9 s9.heap) (hN : jN s9) (hXb : va_X bS L xs s9 s9.heap) (hbl : bS < s9.heap.size) (hbA : ¬ A9 bS) (k n : Nat) (hk : k + 3 ≤ room_1.cells ∧ n + 18 ≤ room_1.slots) (t : Nat) (ht : 6 * t + 6 ≤ L) (hL : L ≤ 3072) (Z : DS) (vi : Nat → Int32) (ga : Nat → Nat → Int32) (fo : Nat → Int64) (fd : Nat → UInt64) (hG : GI Z vi ga) (kk : ∀ (Z' : DS) (vi' : Nat → Int32) (ga' : Nat → Nat → Int32) (fo' : Nat → Int64) (fd' : Nat → UInt64), GI Z' vi' ga' → jJ p9 l e9 room_1 s9 m9 a9 b9 me9 c9 Q9 D A9 10 (k + 3) (n + 18) (LW ay ad ae o oD Z' vi' ga' fo' fd') 2682 [(5, .int (nI (6 * t))), (0, .ref bS), (1, .ref (ad 0)), (2, .ref (ae 0)), (3, .ref o), (4, .ref oD)] []) : jJ p9 l e9 room_1 s9 m9 a9 b9 me9 c9 Q9 D A9 10 k n (LW ay ad ae o oD Z vi ga fo fd) 1968 [(5, .int (nI (6 * t))), (0, .ref bS), (1, .ref (ad 0)), (2, .ref (ae 0)), (3, .ref o), (4, .ref oD)] [] := by
  obtain ⟨x1, hx1⟩ : ∃ y, y = xs (6 * t + 1) := ⟨_, rfl⟩
  refine j_aload_n F 2 dL_law_1968 rfl ?_
  refine j_aload_n F 1 dL_law_1969 rfl ?_
  refine j_iload F 0 dL_law_1970 rfl ?_
  refine j_iconst F (v := 1) dL_law_1972 (by decide) ?_
  refine j_iadd F dL_law_1973 ?_
  refine j_top (nI (6 * t + 1)) (nI_add _ _) ?_
  refine j_sld F hXb hbl hbA hL (6 * t + 1) (by omega) dL_law_1974 ?_
  refine j_top x1 hx1.symm ?_
  refine j_aload_n F 4 dL_law_1975 rfl ?_
  refine j_hcallS F hX hN kL_236 (As := [.ref (ad 0), .int x1, .ref o]) (rest := []) (h_leastCache l hfl D ay sa ad Z x1 o fo) 1 56 rfl rfl rfl rfl rfl ⟨hk.1, hk.2⟩ dL_law_1976 (fun v w hw => ?_)
  rcases hw with ⟨g0, rfl, rfl⟩ | ⟨g0, rfl, rfl⟩
  · skip
    refine ⟨rfl, (LW ay ad ae o oD Z vi ga (vp_updL fo 0 ((if fx (lcF Z x1) 1 8 < 8 then nI (fx (lcF Z x1) 1 8 + 1) else -1 : Int32)).toInt64) fd), rfl, ?_⟩
    refine j_istore F 6 [(6, .int 0), (5, .int (nI (6 * t))), (0, .ref bS), (1, .ref (ad 0)), (2, .ref (ae 0)), (3, .ref o), (4, .ref oD)] dL_law_1979 (by decide) rfl ?_
    refine j_aload_n F 4 dL_law_1981 rfl ?_
    refine j_aload_n F 2 dL_law_1982 rfl ?_
    refine j_iload F 1 dL_law_1983 rfl ?_
    refine j_iconst F (v := 1) dL_law_1985 (by decide) ?_
    refine j_iadd F dL_law_1986 ?_
    refine j_top (nI (6 * t + 1)) (nI_add _ _) ?_
    refine j_sld F hXb hbl hbA hL (6 * t + 1) (by omega) dL_law_1987 ?_
    refine j_top x1 hx1.symm ?_
    refine j_scallV F kL_238 (As := [.int x1]) (rest := []) (c_X10_leastCache_ok l D ay ae vi ga Z x1 hG (by first | assumption | exact ⟨‹_›, ‹_›⟩ | omega)) 57 57 20 rfl rfl rfl rfl rfl rfl ⟨hk.1, hk.2⟩ dL_law_1988 (fun v w hw => ?_)
    obtain ⟨vi1, ga1, hG1, hc1, rfl, rfl⟩ := hw
    refine ⟨rfl, (LW ay ad ae o oD Z vi1 ga1 (vp_updL fo 0 ((if fx (lcF Z x1) 1 8 < 8 then nI (fx (lcF Z x1) 1 8 + 1) else -1 : Int32)).toInt64) fd), rfl, ?_⟩
    refine j_top (if fx (lcF Z x1) 1 8 < 8 then nI (fx (lcF Z x1) 1 8 + 1) else -1) rfl ?_
    refine j_istore F 7 [(7, .int (if fx (lcF Z x1) 1 8 < 8 then nI (fx (lcF Z x1) 1 8 + 1) else -1)), (6, .int 0), (5, .int (nI (6 * t))), (0, .ref bS), (1, .ref (ad 0)), (2, .ref (ae 0)), (3, .ref o), (4, .ref oD)] dL_law_1991 (by decide) rfl ?_
    refine j_aload_n F 5 dL_law_1993 rfl ?_
    refine j_scallV F kL_140 (As := []) (rest := []) (c_X10_thrown l D ay ae vi1 ga1) 57 57 20 rfl rfl rfl rfl rfl rfl ⟨hk.1, hk.2⟩ dL_law_1994 (fun v w hw => ?_)
    obtain ⟨rfl, rfl⟩ := hw
    refine ⟨rfl, (LW ay ad ae o oD Z vi1 ga1 (vp_updL fo 0 ((if fx (lcF Z x1) 1 8 < 8 then nI (fx (lcF Z x1) 1 8 + 1) else -1 : Int32)).toInt64) fd), rfl, ?_⟩
    refine j_top 0 hc1 ?_
    refine j_iload F 1 dL_law_1997 rfl ?_
    refine j_icmp_eq F 2004 dL_law_1999 (by decide) (fun c_1999 => ?_) (fun c_1999 => absurd (by decide) c_1999)
    refine j_iload F 1 dL_law_2004 rfl ?_
    refine j_if_ne F 2021 dL_law_2006 (by decide) (fun c_2006 => absurd (by decide) c_2006) (fun c_2006 => ?_)
    refine j_aload_n F 6 dL_law_2009 rfl ?_
    refine j_iconst F (v := 0) dL_law_2010 (by decide) ?_
    refine j_lald F 56 0 (f := vp_updL fo 0 ((if fx (lcF Z x1) 1 8 < 8 then nI (fx (lcF Z x1) 1 8 + 1) else -1 : Int32)).toInt64) rfl rfl (by decide) (Nat.le_of_ble_eq_true rfl) dL_law_2011 ?_
    refine j_iload F 0 dL_law_2012 rfl ?_
    refine j_i2l F dL_law_2014 ?_
    refine j_lcmp F dL_law_2015 ?_
    refine j_top 0 (lg_self _) ?_
    refine j_if_eq F 2021 dL_law_2016 (by decide) (fun c_2016 => ?_) (fun c_2016 => absurd (by decide) c_2016)
    refine j_goto F 2682 dL_law_2021 (by decide) ?_
    refine j_sub [2, 3, 4, 5, 6, 7] [(5, .int (nI (6 * t))), (0, .ref bS), (1, .ref (ad 0)), (2, .ref (ae 0)), (3, .ref o), (4, .ref oD)] rfl ?_
    exact kk Z vi1 ga1 (vp_updL fo 0 ((if fx (lcF Z x1) 1 8 < 8 then nI (fx (lcF Z x1) 1 8 + 1) else -1 : Int32)).toInt64) fd hG1
  · skip
    refine ⟨rfl, (LW ay ad ae o oD Z vi ga fo fd), rfl, ?_⟩
    refine j_istore F 6 [(6, .int 1), (5, .int (nI (6 * t))), (0, .ref bS), (1, .ref (ad 0)), (2, .ref (ae 0)), (3, .ref o), (4, .ref oD)] dL_law_1979 (by decide) rfl ?_
    refine j_aload_n F 4 dL_law_1981 rfl ?_
    refine j_aload_n F 2 dL_law_1982 rfl ?_
    refine j_iload F 1 dL_law_1983 rfl ?_
    refine j_iconst F (v := 1) dL_law_1985 (by decide) ?_
    refine j_iadd F dL_law_1986 ?_
    refine j_top (nI (6 * t + 1)) (nI_add _ _) ?_
    refine j_sld F hXb hbl hbA hL (6 * t + 1) (by omega) dL_law_1987 ?_
    refine j_top x1 hx1.symm ?_
    refine j_scallV F kL_238 (As := [.int x1]) (rest := []) (c_X10_leastCache_no l D ay ae vi ga Z x1 hG (by first | assumption | exact ⟨‹_›, ‹_›⟩ | omega)) 57 57 20 rfl rfl rfl rfl rfl rfl ⟨hk.1, hk.2⟩ dL_law_1988 (fun v w hw => ?_)
    obtain ⟨vi1, ga1, hG1, hc1, rfl, rfl⟩ := hw
    refine ⟨rfl, (LW ay ad ae o oD Z vi1 ga1 fo fd), rfl, ?_⟩
    refine j_top 0 rfl ?_
    refine j_istore F 7 [(7, .int 0), (6, .int 1), (5, .int (nI (6 * t))), (0, .ref bS), (1, .ref (ad 0)), (2, .ref (ae 0)), (3, .ref o), (4, .ref oD)] dL_law_1991 (by decide) rfl ?_
    refine j_aload_n F 5 dL_law_1993 rfl ?_
    refine j_scallV F kL_140 (As := []) (rest := []) (c_X10_thrown l D ay ae vi1 ga1) 57 57 20 rfl rfl rfl rfl rfl rfl ⟨hk.1, hk.2⟩ dL_law_1994 (fun v w hw => ?_)
    obtain ⟨rfl, rfl⟩ := hw
    refine ⟨rfl, (LW ay ad ae o oD Z vi1 ga1 fo fd), rfl, ?_⟩
    refine j_top 1 hc1 ?_
    refine j_iload F 1 dL_law_1997 rfl ?_
    refine j_icmp_eq F 2004 dL_law_1999 (by decide) (fun c_1999 => ?_) (fun c_1999 => absurd (by decide) c_1999)
    refine j_iload F 1 dL_law_2004 rfl ?_
    refine j_if_ne F 2021 dL_law_2006 (by decide) (fun c_2006 => ?_) (fun c_2006 => absurd c_2006 (by decide))
    refine j_goto F 2682 dL_law_2021 (by decide) ?_
    refine j_sub [2, 3, 4, 5, 6, 7] [(5, .int (nI (6 * t))), (0, .ref bS), (1, .ref (ad 0)), (2, .ref (ae 0)), (3, .ref o), (4, .ref oD)] rfl ?_
    exact kk Z vi1 ga1 fo fd hG1

set_option maxHeartbeats 4000000 in
set_option maxRecDepth 100000 in
theorem case_31 (l : Launch) (hfl : l.stackTraces = false) (D : va_G) (ay : Nat → ClassId) (sa : Nat → Nat) (ad ae : Nat → Nat) (o oD bS L : Nat) (xs : Nat → Int32) {p9 : Program} {e9 : Env} {s9 : State} {m9 : MethodId} {a9 : Array Value} {b9 : List Frame} {me9 : Method} {c9 : Code} {A9 : Nat → Prop} {Q9 : State → Prop} (F : jF p9 s9 m9 a9 me9 c9 cL_law 10 RL (some .boolean) D ay A9) (hX : jX sa A9 s9 s9.heap) (hN : jN s9) (hXb : va_X bS L xs s9 s9.heap) (hbl : bS < s9.heap.size) (hbA : ¬ A9 bS) (k n : Nat) (hk : k + 3 ≤ room_1.cells ∧ n + 18 ≤ room_1.slots) (t : Nat) (ht : 6 * t + 6 ≤ L) (hL : L ≤ 3072) (Z : DS) (vi : Nat → Int32) (ga : Nat → Nat → Int32) (fo : Nat → Int64) (fd : Nat → UInt64) (hG : GI Z vi ga) (kk : ∀ (Z' : DS) (vi' : Nat → Int32) (ga' : Nat → Nat → Int32) (fo' : Nat → Int64) (fd' : Nat → UInt64), GI Z' vi' ga' → jJ p9 l e9 room_1 s9 m9 a9 b9 me9 c9 Q9 D A9 10 (k + 3) (n + 18) (LW ay ad ae o oD Z' vi' ga' fo' fd') 2682 [(5, .int (nI (6 * t))), (0, .ref bS), (1, .ref (ad 0)), (2, .ref (ae 0)), (3, .ref o), (4, .ref oD)] []) : jJ p9 l e9 room_1 s9 m9 a9 b9 me9 c9 Q9 D A9 10 k n (LW ay ad ae o oD Z vi ga fo fd) 2024 [(5, .int (nI (6 * t))), (0, .ref bS), (1, .ref (ad 0)), (2, .ref (ae 0)), (3, .ref o), (4, .ref oD)] [] := by
  obtain ⟨x1, hx1⟩ : ∃ y, y = xs (6 * t + 1) := ⟨_, rfl⟩
  obtain ⟨x2, hx2⟩ : ∃ y, y = xs (6 * t + 2) := ⟨_, rfl⟩
  obtain ⟨x3, hx3⟩ : ∃ y, y = xs (6 * t + 3) := ⟨_, rfl⟩
  obtain ⟨x4, hx4⟩ : ∃ y, y = xs (6 * t + 4) := ⟨_, rfl⟩
  obtain ⟨x5, hx5⟩ : ∃ y, y = xs (6 * t + 5) := ⟨_, rfl⟩
  refine j_aload_n F 2 dL_law_2024 rfl ?_
  refine j_aload_n F 1 dL_law_2025 rfl ?_
  refine j_iload F 0 dL_law_2026 rfl ?_
  refine j_iconst F (v := 1) dL_law_2028 (by decide) ?_
  refine j_iadd F dL_law_2029 ?_
  refine j_top (nI (6 * t + 1)) (nI_add _ _) ?_
  refine j_sld F hXb hbl hbA hL (6 * t + 1) (by omega) dL_law_2030 ?_
  refine j_top x1 hx1.symm ?_
  refine j_aload_n F 1 dL_law_2031 rfl ?_
  refine j_iload F 0 dL_law_2032 rfl ?_
  refine j_iconst F (v := 2) dL_law_2034 (by decide) ?_
  refine j_iadd F dL_law_2035 ?_
  refine j_top (nI (6 * t + 2)) (nI_add _ _) ?_
  refine j_sld F hXb hbl hbA hL (6 * t + 2) (by omega) dL_law_2036 ?_
  refine j_top x2 hx2.symm ?_
  refine j_aload_n F 1 dL_law_2037 rfl ?_
  refine j_iload F 0 dL_law_2038 rfl ?_
  refine j_iconst F (v := 3) dL_law_2040 (by decide) ?_
  refine j_iadd F dL_law_2041 ?_
  refine j_top (nI (6 * t + 3)) (nI_add _ _) ?_
  refine j_sld F hXb hbl hbA hL (6 * t + 3) (by omega) dL_law_2042 ?_
  refine j_top x3 hx3.symm ?_
  refine j_aload_n F 1 dL_law_2043 rfl ?_
  refine j_iload F 0 dL_law_2044 rfl ?_
  refine j_iconst F (v := 4) dL_law_2046 (by decide) ?_
  refine j_iadd F dL_law_2047 ?_
  refine j_top (nI (6 * t + 4)) (nI_add _ _) ?_
  refine j_sld F hXb hbl hbA hL (6 * t + 4) (by omega) dL_law_2048 ?_
  refine j_top x4 hx4.symm ?_
  refine j_aload_n F 1 dL_law_2049 rfl ?_
  refine j_iload F 0 dL_law_2050 rfl ?_
  refine j_iconst F (v := 5) dL_law_2052 (by decide) ?_
  refine j_iadd F dL_law_2053 ?_
  refine j_top (nI (6 * t + 5)) (nI_add _ _) ?_
  refine j_sld F hXb hbl hbA hL (6 * t + 5) (by omega) dL_law_2054 ?_
  refine j_top x5 hx5.symm ?_
  refine j_aload_n F 4 dL_law_2055 rfl ?_
  refine j_hcallS F hX hN kL_239 (As := [.ref (ad 0), .int x1, .int x2, .int x3, .int x4, .int x5, .ref o]) (rest := []) (h_append l hfl D ay sa ad Z x1 x2 x3 x4 x5 o fo (hG.2.2.2.2.2.1.1)) 1 56 rfl rfl rfl rfl rfl ⟨hk.1, hk.2⟩ dL_law_2056 (fun v w hw => ?_)
  rcases hw with ⟨g0, rfl, rfl⟩ | ⟨g0, rfl, rfl⟩
  · skip
    refine ⟨rfl, (LW ay ad ae o oD (apd (apd (apd (apd (apd Z x1) x2) x3) x4) x5) vi ga (vp_updL fo 0 ((nI ((apd (apd (apd (apd (apd Z x1) x2) x3) x4) x5).1 15) : Int32)).toInt64) fd), rfl, ?_⟩
    refine j_istore F 6 [(6, .int 0), (5, .int (nI (6 * t))), (0, .ref bS), (1, .ref (ad 0)), (2, .ref (ae 0)), (3, .ref o), (4, .ref oD)] dL_law_2059 (by decide) rfl ?_
    refine j_aload_n F 4 dL_law_2061 rfl ?_
    refine j_aload_n F 2 dL_law_2062 rfl ?_
    refine j_iload F 1 dL_law_2063 rfl ?_
    refine j_iconst F (v := 1) dL_law_2065 (by decide) ?_
    refine j_iadd F dL_law_2066 ?_
    refine j_top (nI (6 * t + 1)) (nI_add _ _) ?_
    refine j_sld F hXb hbl hbA hL (6 * t + 1) (by omega) dL_law_2067 ?_
    refine j_top x1 hx1.symm ?_
    refine j_aload_n F 2 dL_law_2068 rfl ?_
    refine j_iload F 1 dL_law_2069 rfl ?_
    refine j_iconst F (v := 2) dL_law_2071 (by decide) ?_
    refine j_iadd F dL_law_2072 ?_
    refine j_top (nI (6 * t + 2)) (nI_add _ _) ?_
    refine j_sld F hXb hbl hbA hL (6 * t + 2) (by omega) dL_law_2073 ?_
    refine j_top x2 hx2.symm ?_
    refine j_aload_n F 2 dL_law_2074 rfl ?_
    refine j_iload F 1 dL_law_2075 rfl ?_
    refine j_iconst F (v := 3) dL_law_2077 (by decide) ?_
    refine j_iadd F dL_law_2078 ?_
    refine j_top (nI (6 * t + 3)) (nI_add _ _) ?_
    refine j_sld F hXb hbl hbA hL (6 * t + 3) (by omega) dL_law_2079 ?_
    refine j_top x3 hx3.symm ?_
    refine j_aload_n F 2 dL_law_2080 rfl ?_
    refine j_iload F 1 dL_law_2081 rfl ?_
    refine j_iconst F (v := 4) dL_law_2083 (by decide) ?_
    refine j_iadd F dL_law_2084 ?_
    refine j_top (nI (6 * t + 4)) (nI_add _ _) ?_
    refine j_sld F hXb hbl hbA hL (6 * t + 4) (by omega) dL_law_2085 ?_
    refine j_top x4 hx4.symm ?_
    refine j_aload_n F 2 dL_law_2086 rfl ?_
    refine j_iload F 1 dL_law_2087 rfl ?_
    refine j_iconst F (v := 5) dL_law_2089 (by decide) ?_
    refine j_iadd F dL_law_2090 ?_
    refine j_top (nI (6 * t + 5)) (nI_add _ _) ?_
    refine j_sld F hXb hbl hbA hL (6 * t + 5) (by omega) dL_law_2091 ?_
    refine j_top x5 hx5.symm ?_
    refine j_scallV F kL_242 (As := [.int x1, .int x2, .int x3, .int x4, .int x5]) (rest := []) (c_X10_append_ok l D ay ae vi ga Z x1 x2 x3 x4 x5 hG (by first | assumption | exact ⟨‹_›, ‹_›⟩ | omega)) 57 57 20 rfl rfl rfl rfl rfl rfl ⟨hk.1, hk.2⟩ dL_law_2092 (fun v w hw => ?_)
    obtain ⟨vi1, ga1, hG1, hc1, rfl, rfl⟩ := hw
    refine ⟨rfl, (LW ay ad ae o oD (apd (apd (apd (apd (apd Z x1) x2) x3) x4) x5) vi1 ga1 (vp_updL fo 0 ((nI ((apd (apd (apd (apd (apd Z x1) x2) x3) x4) x5).1 15) : Int32)).toInt64) fd), rfl, ?_⟩
    refine j_top (nI ((apd (apd (apd (apd (apd Z x1) x2) x3) x4) x5).1 15)) rfl ?_
    refine j_istore F 7 [(7, .int (nI ((apd (apd (apd (apd (apd Z x1) x2) x3) x4) x5).1 15))), (6, .int 0), (5, .int (nI (6 * t))), (0, .ref bS), (1, .ref (ad 0)), (2, .ref (ae 0)), (3, .ref o), (4, .ref oD)] dL_law_2095 (by decide) rfl ?_
    refine j_aload_n F 5 dL_law_2097 rfl ?_
    refine j_scallV F kL_140 (As := []) (rest := []) (c_X10_thrown l D ay ae vi1 ga1) 57 57 20 rfl rfl rfl rfl rfl rfl ⟨hk.1, hk.2⟩ dL_law_2098 (fun v w hw => ?_)
    obtain ⟨rfl, rfl⟩ := hw
    refine ⟨rfl, (LW ay ad ae o oD (apd (apd (apd (apd (apd Z x1) x2) x3) x4) x5) vi1 ga1 (vp_updL fo 0 ((nI ((apd (apd (apd (apd (apd Z x1) x2) x3) x4) x5).1 15) : Int32)).toInt64) fd), rfl, ?_⟩
    refine j_top 0 hc1 ?_
    refine j_iload F 1 dL_law_2101 rfl ?_
    refine j_icmp_eq F 2108 dL_law_2103 (by decide) (fun c_2103 => ?_) (fun c_2103 => absurd (by decide) c_2103)
    refine j_iload F 1 dL_law_2108 rfl ?_
    refine j_if_ne F 2125 dL_law_2110 (by decide) (fun c_2110 => absurd (by decide) c_2110) (fun c_2110 => ?_)
    refine j_aload_n F 6 dL_law_2113 rfl ?_
    refine j_iconst F (v := 0) dL_law_2114 (by decide) ?_
    refine j_lald F 56 0 (f := vp_updL fo 0 ((nI ((apd (apd (apd (apd (apd Z x1) x2) x3) x4) x5).1 15) : Int32)).toInt64) rfl rfl (by decide) (Nat.le_of_ble_eq_true rfl) dL_law_2115 ?_
    refine j_iload F 0 dL_law_2116 rfl ?_
    refine j_i2l F dL_law_2118 ?_
    refine j_lcmp F dL_law_2119 ?_
    refine j_top 0 (lg_self _) ?_
    refine j_if_eq F 2125 dL_law_2120 (by decide) (fun c_2120 => ?_) (fun c_2120 => absurd (by decide) c_2120)
    refine j_goto F 2682 dL_law_2125 (by decide) ?_
    refine j_sub [2, 3, 4, 5, 6, 7] [(5, .int (nI (6 * t))), (0, .ref bS), (1, .ref (ad 0)), (2, .ref (ae 0)), (3, .ref o), (4, .ref oD)] rfl ?_
    exact kk (apd (apd (apd (apd (apd Z x1) x2) x3) x4) x5) vi1 ga1 (vp_updL fo 0 ((nI ((apd (apd (apd (apd (apd Z x1) x2) x3) x4) x5).1 15) : Int32)).toInt64) fd hG1
  · skip
    refine ⟨rfl, (LW ay ad ae o oD Z vi ga fo fd), rfl, ?_⟩
    refine j_istore F 6 [(6, .int 1), (5, .int (nI (6 * t))), (0, .ref bS), (1, .ref (ad 0)), (2, .ref (ae 0)), (3, .ref o), (4, .ref oD)] dL_law_2059 (by decide) rfl ?_
    refine j_aload_n F 4 dL_law_2061 rfl ?_
    refine j_aload_n F 2 dL_law_2062 rfl ?_
    refine j_iload F 1 dL_law_2063 rfl ?_
    refine j_iconst F (v := 1) dL_law_2065 (by decide) ?_
    refine j_iadd F dL_law_2066 ?_
    refine j_top (nI (6 * t + 1)) (nI_add _ _) ?_
    refine j_sld F hXb hbl hbA hL (6 * t + 1) (by omega) dL_law_2067 ?_
    refine j_top x1 hx1.symm ?_
    refine j_aload_n F 2 dL_law_2068 rfl ?_
    refine j_iload F 1 dL_law_2069 rfl ?_
    refine j_iconst F (v := 2) dL_law_2071 (by decide) ?_
    refine j_iadd F dL_law_2072 ?_
    refine j_top (nI (6 * t + 2)) (nI_add _ _) ?_
    refine j_sld F hXb hbl hbA hL (6 * t + 2) (by omega) dL_law_2073 ?_
    refine j_top x2 hx2.symm ?_
    refine j_aload_n F 2 dL_law_2074 rfl ?_
    refine j_iload F 1 dL_law_2075 rfl ?_
    refine j_iconst F (v := 3) dL_law_2077 (by decide) ?_
    refine j_iadd F dL_law_2078 ?_
    refine j_top (nI (6 * t + 3)) (nI_add _ _) ?_
    refine j_sld F hXb hbl hbA hL (6 * t + 3) (by omega) dL_law_2079 ?_
    refine j_top x3 hx3.symm ?_
    refine j_aload_n F 2 dL_law_2080 rfl ?_
    refine j_iload F 1 dL_law_2081 rfl ?_
    refine j_iconst F (v := 4) dL_law_2083 (by decide) ?_
    refine j_iadd F dL_law_2084 ?_
    refine j_top (nI (6 * t + 4)) (nI_add _ _) ?_
    refine j_sld F hXb hbl hbA hL (6 * t + 4) (by omega) dL_law_2085 ?_
    refine j_top x4 hx4.symm ?_
    refine j_aload_n F 2 dL_law_2086 rfl ?_
    refine j_iload F 1 dL_law_2087 rfl ?_
    refine j_iconst F (v := 5) dL_law_2089 (by decide) ?_
    refine j_iadd F dL_law_2090 ?_
    refine j_top (nI (6 * t + 5)) (nI_add _ _) ?_
    refine j_sld F hXb hbl hbA hL (6 * t + 5) (by omega) dL_law_2091 ?_
    refine j_top x5 hx5.symm ?_
    refine j_scallV F kL_242 (As := [.int x1, .int x2, .int x3, .int x4, .int x5]) (rest := []) (c_X10_append_no l D ay ae vi ga Z x1 x2 x3 x4 x5 hG (by first | assumption | exact ⟨‹_›, ‹_›⟩ | omega)) 57 57 20 rfl rfl rfl rfl rfl rfl ⟨hk.1, hk.2⟩ dL_law_2092 (fun v w hw => ?_)
    obtain ⟨vi1, ga1, hG1, hc1, rfl, rfl⟩ := hw
    refine ⟨rfl, (LW ay ad ae o oD Z vi1 ga1 fo fd), rfl, ?_⟩
    refine j_top 0 rfl ?_
    refine j_istore F 7 [(7, .int 0), (6, .int 1), (5, .int (nI (6 * t))), (0, .ref bS), (1, .ref (ad 0)), (2, .ref (ae 0)), (3, .ref o), (4, .ref oD)] dL_law_2095 (by decide) rfl ?_
    refine j_aload_n F 5 dL_law_2097 rfl ?_
    refine j_scallV F kL_140 (As := []) (rest := []) (c_X10_thrown l D ay ae vi1 ga1) 57 57 20 rfl rfl rfl rfl rfl rfl ⟨hk.1, hk.2⟩ dL_law_2098 (fun v w hw => ?_)
    obtain ⟨rfl, rfl⟩ := hw
    refine ⟨rfl, (LW ay ad ae o oD Z vi1 ga1 fo fd), rfl, ?_⟩
    refine j_top 1 hc1 ?_
    refine j_iload F 1 dL_law_2101 rfl ?_
    refine j_icmp_eq F 2108 dL_law_2103 (by decide) (fun c_2103 => ?_) (fun c_2103 => absurd (by decide) c_2103)
    refine j_iload F 1 dL_law_2108 rfl ?_
    refine j_if_ne F 2125 dL_law_2110 (by decide) (fun c_2110 => ?_) (fun c_2110 => absurd c_2110 (by decide))
    refine j_goto F 2682 dL_law_2125 (by decide) ?_
    refine j_sub [2, 3, 4, 5, 6, 7] [(5, .int (nI (6 * t))), (0, .ref bS), (1, .ref (ad 0)), (2, .ref (ae 0)), (3, .ref o), (4, .ref oD)] rfl ?_
    exact kk Z vi1 ga1 fo fd hG1

set_option maxHeartbeats 4000000 in
set_option maxRecDepth 100000 in
theorem case_32 (l : Launch) (hfl : l.stackTraces = false) (D : va_G) (ay : Nat → ClassId) (sa : Nat → Nat) (ad ae : Nat → Nat) (o oD bS L : Nat) (xs : Nat → Int32) {p9 : Program} {e9 : Env} {s9 : State} {m9 : MethodId} {a9 : Array Value} {b9 : List Frame} {me9 : Method} {c9 : Code} {A9 : Nat → Prop} {Q9 : State → Prop} (F : jF p9 s9 m9 a9 me9 c9 cL_law 10 RL (some .boolean) D ay A9) (hX : jX sa A9 s9 s9.heap) (hN : jN s9) (hXb : va_X bS L xs s9 s9.heap) (hbl : bS < s9.heap.size) (hbA : ¬ A9 bS) (k n : Nat) (hk : k + 3 ≤ room_1.cells ∧ n + 18 ≤ room_1.slots) (t : Nat) (ht : 6 * t + 6 ≤ L) (hL : L ≤ 3072) (Z : DS) (vi : Nat → Int32) (ga : Nat → Nat → Int32) (fo : Nat → Int64) (fd : Nat → UInt64) (hG : GI Z vi ga) (kk : ∀ (Z' : DS) (vi' : Nat → Int32) (ga' : Nat → Nat → Int32) (fo' : Nat → Int64) (fd' : Nat → UInt64), GI Z' vi' ga' → jJ p9 l e9 room_1 s9 m9 a9 b9 me9 c9 Q9 D A9 10 (k + 3) (n + 18) (LW ay ad ae o oD Z' vi' ga' fo' fd') 2682 [(5, .int (nI (6 * t))), (0, .ref bS), (1, .ref (ad 0)), (2, .ref (ae 0)), (3, .ref o), (4, .ref oD)] []) : jJ p9 l e9 room_1 s9 m9 a9 b9 me9 c9 Q9 D A9 10 k n (LW ay ad ae o oD Z vi ga fo fd) 2128 [(5, .int (nI (6 * t))), (0, .ref bS), (1, .ref (ad 0)), (2, .ref (ae 0)), (3, .ref o), (4, .ref oD)] [] := by
  refine j_aload_n F 2 dL_law_2128 rfl ?_
  refine j_scallV F kL_243 (As := []) (rest := []) (c_X9_clearTape l D ay ad Z) 1 1 55 rfl rfl rfl rfl rfl rfl ⟨Nat.le_trans (Nat.le_add_right _ _) hk.1, Nat.le_trans (Nat.le_add_right _ _) hk.2⟩ dL_law_2129 (fun v w hw => ?_)
  obtain ⟨rfl, rfl⟩ := hw
  refine ⟨rfl, (LW ay ad ae o oD (tU Z 0 (Z.2.2 15)) vi ga fo fd), rfl, ?_⟩
  refine j_aload_n F 3 dL_law_2132 rfl ?_
  refine j_scallV F kL_246 (As := []) (rest := [.int (nI (Z.1 15))]) (c_X10_clearTape_ok l D ay ae vi ga Z hG) 57 57 20 rfl rfl rfl rfl rfl rfl ⟨Nat.le_trans (Nat.le_add_right _ _) hk.1, Nat.le_trans (Nat.le_add_right _ _) hk.2⟩ dL_law_2133 (fun v w hw => ?_)
  obtain ⟨vi1, ga1, hG1, hc1, rfl, rfl⟩ := hw
  refine ⟨rfl, (LW ay ad ae o oD (tU Z 0 (Z.2.2 15)) vi1 ga1 fo fd), rfl, ?_⟩
  refine j_top (nI (Z.1 15)) rfl ?_
  refine j_icmp_eq F 2682 dL_law_2136 (by decide) (fun c_2136 => ?_) (fun c_2136 => absurd rfl c_2136)
  refine j_widen (Nat.le_add_right k 3) (Nat.le_add_right n 18) ?_
  refine j_sub [0, 1, 2, 3, 4, 5] [(5, .int (nI (6 * t))), (0, .ref bS), (1, .ref (ad 0)), (2, .ref (ae 0)), (3, .ref o), (4, .ref oD)] rfl ?_
  exact kk (tU Z 0 (Z.2.2 15)) vi1 ga1 fo fd hG1

set_option maxHeartbeats 4000000 in
set_option maxRecDepth 100000 in
theorem case_33 (l : Launch) (hfl : l.stackTraces = false) (D : va_G) (ay : Nat → ClassId) (sa : Nat → Nat) (ad ae : Nat → Nat) (o oD bS L : Nat) (xs : Nat → Int32) {p9 : Program} {e9 : Env} {s9 : State} {m9 : MethodId} {a9 : Array Value} {b9 : List Frame} {me9 : Method} {c9 : Code} {A9 : Nat → Prop} {Q9 : State → Prop} (F : jF p9 s9 m9 a9 me9 c9 cL_law 10 RL (some .boolean) D ay A9) (hX : jX sa A9 s9 s9.heap) (hN : jN s9) (hXb : va_X bS L xs s9 s9.heap) (hbl : bS < s9.heap.size) (hbA : ¬ A9 bS) (k n : Nat) (hk : k + 3 ≤ room_1.cells ∧ n + 18 ≤ room_1.slots) (t : Nat) (ht : 6 * t + 6 ≤ L) (hL : L ≤ 3072) (Z : DS) (vi : Nat → Int32) (ga : Nat → Nat → Int32) (fo : Nat → Int64) (fd : Nat → UInt64) (hG : GI Z vi ga) (kk : ∀ (Z' : DS) (vi' : Nat → Int32) (ga' : Nat → Nat → Int32) (fo' : Nat → Int64) (fd' : Nat → UInt64), GI Z' vi' ga' → jJ p9 l e9 room_1 s9 m9 a9 b9 me9 c9 Q9 D A9 10 (k + 3) (n + 18) (LW ay ad ae o oD Z' vi' ga' fo' fd') 2682 [(5, .int (nI (6 * t))), (0, .ref bS), (1, .ref (ad 0)), (2, .ref (ae 0)), (3, .ref o), (4, .ref oD)] []) : jJ p9 l e9 room_1 s9 m9 a9 b9 me9 c9 Q9 D A9 10 k n (LW ay ad ae o oD Z vi ga fo fd) 2141 [(5, .int (nI (6 * t))), (0, .ref bS), (1, .ref (ad 0)), (2, .ref (ae 0)), (3, .ref o), (4, .ref oD)] [] := by
  refine j_aload_n F 2 dL_law_2141 rfl ?_
  refine j_aload_n F 4 dL_law_2142 rfl ?_
  refine j_hcallS F hX hN kL_247 (As := [.ref (ad 0), .ref o]) (rest := []) (h_run l hfl D ay sa ad Z o fo (hG.2.2.2.2.2.1.1) (hG.2.2.1) (hG.2.2.2.2.2.2.2.1) (fun he => (prog_of hG.2.2.2.2.2.1.1 rfl rfl he).choose_spec.choose_spec.2.2.2.2)) 1 56 rfl rfl rfl rfl rfl ⟨hk.1, hk.2⟩ dL_law_2143 (fun v w hw => ?_)
  rcases hw with ⟨pos, P, g0, g1, g2, rfl, rfl⟩ | ⟨g0, rfl, rfl⟩ | ⟨pos, P, g0, g1, rfl, rfl⟩
  · skip
    refine ⟨rfl, (LW ay ad ae o oD (runF (tU (eU (rU Z pos P) (-1)) 0 (Z.2.2 15)) P.2.1 P.2.2.1 P.1) vi ga (vp_updL fo 0 ((nI P.1 : Int32)).toInt64) fd), rfl, ?_⟩
    refine j_istore F 6 [(6, .int 0), (5, .int (nI (6 * t))), (0, .ref bS), (1, .ref (ad 0)), (2, .ref (ae 0)), (3, .ref o), (4, .ref oD)] dL_law_2146 (by decide) rfl ?_
    refine j_aload_n F 4 dL_law_2148 rfl ?_
    refine j_scallV F kL_250 (As := []) (rest := []) (c_X10_run_ok l D ay ae vi ga Z pos P hG (by first | assumption | exact ⟨‹_›, ‹_›⟩ | omega) (by first | assumption | exact ⟨‹_›, ‹_›⟩ | omega) (by first | assumption | exact ⟨‹_›, ‹_›⟩ | omega)) 57 57 20 rfl rfl rfl rfl rfl rfl ⟨hk.1, hk.2⟩ dL_law_2149 (fun v w hw => ?_)
    obtain ⟨vi1, ga1, hG1, hc1, rfl, rfl⟩ := hw
    refine ⟨rfl, (LW ay ad ae o oD (runF (tU (eU (rU Z pos P) (-1)) 0 (Z.2.2 15)) P.2.1 P.2.2.1 P.1) vi1 ga1 (vp_updL fo 0 ((nI P.1 : Int32)).toInt64) fd), rfl, ?_⟩
    refine j_top (nI P.1) rfl ?_
    refine j_istore F 7 [(7, .int (nI P.1)), (6, .int 0), (5, .int (nI (6 * t))), (0, .ref bS), (1, .ref (ad 0)), (2, .ref (ae 0)), (3, .ref o), (4, .ref oD)] dL_law_2152 (by decide) rfl ?_
    refine j_aload_n F 5 dL_law_2154 rfl ?_
    refine j_scallV F kL_140 (As := []) (rest := []) (c_X10_thrown l D ay ae vi1 ga1) 57 57 20 rfl rfl rfl rfl rfl rfl ⟨hk.1, hk.2⟩ dL_law_2155 (fun v w hw => ?_)
    obtain ⟨rfl, rfl⟩ := hw
    refine ⟨rfl, (LW ay ad ae o oD (runF (tU (eU (rU Z pos P) (-1)) 0 (Z.2.2 15)) P.2.1 P.2.2.1 P.1) vi1 ga1 (vp_updL fo 0 ((nI P.1 : Int32)).toInt64) fd), rfl, ?_⟩
    refine j_top 0 hc1 ?_
    refine j_iload F 1 dL_law_2158 rfl ?_
    refine j_icmp_eq F 2165 dL_law_2160 (by decide) (fun c_2160 => ?_) (fun c_2160 => absurd (by decide) c_2160)
    refine j_iload F 1 dL_law_2165 rfl ?_
    refine j_if_ne F 2182 dL_law_2167 (by decide) (fun c_2167 => absurd (by decide) c_2167) (fun c_2167 => ?_)
    refine j_aload_n F 6 dL_law_2170 rfl ?_
    refine j_iconst F (v := 0) dL_law_2171 (by decide) ?_
    refine j_lald F 56 0 (f := vp_updL fo 0 ((nI P.1 : Int32)).toInt64) rfl rfl (by decide) (Nat.le_of_ble_eq_true rfl) dL_law_2172 ?_
    refine j_iload F 0 dL_law_2173 rfl ?_
    refine j_i2l F dL_law_2175 ?_
    refine j_lcmp F dL_law_2176 ?_
    refine j_top 0 (lg_self _) ?_
    refine j_if_eq F 2182 dL_law_2177 (by decide) (fun c_2177 => ?_) (fun c_2177 => absurd (by decide) c_2177)
    refine j_goto F 2682 dL_law_2182 (by decide) ?_
    refine j_sub [2, 3, 4, 5, 6, 7] [(5, .int (nI (6 * t))), (0, .ref bS), (1, .ref (ad 0)), (2, .ref (ae 0)), (3, .ref o), (4, .ref oD)] rfl ?_
    exact kk (runF (tU (eU (rU Z pos P) (-1)) 0 (Z.2.2 15)) P.2.1 P.2.2.1 P.1) vi1 ga1 (vp_updL fo 0 ((nI P.1 : Int32)).toInt64) fd hG1
  · skip
    refine ⟨rfl, (LW ay ad ae o oD Z vi ga fo fd), rfl, ?_⟩
    refine j_istore F 6 [(6, .int 1), (5, .int (nI (6 * t))), (0, .ref bS), (1, .ref (ad 0)), (2, .ref (ae 0)), (3, .ref o), (4, .ref oD)] dL_law_2146 (by decide) rfl ?_
    refine j_aload_n F 4 dL_law_2148 rfl ?_
    refine j_scallV F kL_250 (As := []) (rest := []) (c_X10_run_no1 l D ay ae vi ga Z hG (by first | assumption | exact ⟨‹_›, ‹_›⟩ | omega)) 57 57 20 rfl rfl rfl rfl rfl rfl ⟨hk.1, hk.2⟩ dL_law_2149 (fun v w hw => ?_)
    obtain ⟨vi1, ga1, hG1, hc1, rfl, rfl⟩ := hw
    refine ⟨rfl, (LW ay ad ae o oD Z vi1 ga1 fo fd), rfl, ?_⟩
    refine j_top 0 rfl ?_
    refine j_istore F 7 [(7, .int 0), (6, .int 1), (5, .int (nI (6 * t))), (0, .ref bS), (1, .ref (ad 0)), (2, .ref (ae 0)), (3, .ref o), (4, .ref oD)] dL_law_2152 (by decide) rfl ?_
    refine j_aload_n F 5 dL_law_2154 rfl ?_
    refine j_scallV F kL_140 (As := []) (rest := []) (c_X10_thrown l D ay ae vi1 ga1) 57 57 20 rfl rfl rfl rfl rfl rfl ⟨hk.1, hk.2⟩ dL_law_2155 (fun v w hw => ?_)
    obtain ⟨rfl, rfl⟩ := hw
    refine ⟨rfl, (LW ay ad ae o oD Z vi1 ga1 fo fd), rfl, ?_⟩
    refine j_top 1 hc1 ?_
    refine j_iload F 1 dL_law_2158 rfl ?_
    refine j_icmp_eq F 2165 dL_law_2160 (by decide) (fun c_2160 => ?_) (fun c_2160 => absurd (by decide) c_2160)
    refine j_iload F 1 dL_law_2165 rfl ?_
    refine j_if_ne F 2182 dL_law_2167 (by decide) (fun c_2167 => ?_) (fun c_2167 => absurd c_2167 (by decide))
    refine j_goto F 2682 dL_law_2182 (by decide) ?_
    refine j_sub [2, 3, 4, 5, 6, 7] [(5, .int (nI (6 * t))), (0, .ref bS), (1, .ref (ad 0)), (2, .ref (ae 0)), (3, .ref o), (4, .ref oD)] rfl ?_
    exact kk Z vi1 ga1 fo fd hG1
  · skip
    refine ⟨rfl, (LW ay ad ae o oD (tU (eU (rU Z pos P) ((prs (Z.2.2 15) (Z.1 15) (Z.1 15) (sk (Z.2.2 15) (Z.1 15) 0) 0).2)) 0 (Z.2.2 15)) vi ga fo fd), rfl, ?_⟩
    refine j_istore F 6 [(6, .int 2), (5, .int (nI (6 * t))), (0, .ref bS), (1, .ref (ad 0)), (2, .ref (ae 0)), (3, .ref o), (4, .ref oD)] dL_law_2146 (by decide) rfl ?_
    refine j_aload_n F 4 dL_law_2148 rfl ?_
    refine j_scallV F kL_250 (As := []) (rest := []) (c_X10_run_no2 l D ay ae vi ga Z pos P hG (by first | assumption | exact ⟨‹_›, ‹_›⟩ | omega) (by first | assumption | exact ⟨‹_›, ‹_›⟩ | omega)) 57 57 20 rfl rfl rfl rfl rfl rfl ⟨hk.1, hk.2⟩ dL_law_2149 (fun v w hw => ?_)
    obtain ⟨vi1, ga1, hG1, hc1, rfl, rfl⟩ := hw
    refine ⟨rfl, (LW ay ad ae o oD (tU (eU (rU Z pos P) ((prs (Z.2.2 15) (Z.1 15) (Z.1 15) (sk (Z.2.2 15) (Z.1 15) 0) 0).2)) 0 (Z.2.2 15)) vi1 ga1 fo fd), rfl, ?_⟩
    refine j_top 0 rfl ?_
    refine j_istore F 7 [(7, .int 0), (6, .int 2), (5, .int (nI (6 * t))), (0, .ref bS), (1, .ref (ad 0)), (2, .ref (ae 0)), (3, .ref o), (4, .ref oD)] dL_law_2152 (by decide) rfl ?_
    refine j_aload_n F 5 dL_law_2154 rfl ?_
    refine j_scallV F kL_140 (As := []) (rest := []) (c_X10_thrown l D ay ae vi1 ga1) 57 57 20 rfl rfl rfl rfl rfl rfl ⟨hk.1, hk.2⟩ dL_law_2155 (fun v w hw => ?_)
    obtain ⟨rfl, rfl⟩ := hw
    refine ⟨rfl, (LW ay ad ae o oD (tU (eU (rU Z pos P) ((prs (Z.2.2 15) (Z.1 15) (Z.1 15) (sk (Z.2.2 15) (Z.1 15) 0) 0).2)) 0 (Z.2.2 15)) vi1 ga1 fo fd), rfl, ?_⟩
    refine j_top 2 hc1 ?_
    refine j_iload F 1 dL_law_2158 rfl ?_
    refine j_icmp_eq F 2165 dL_law_2160 (by decide) (fun c_2160 => ?_) (fun c_2160 => absurd (by decide) c_2160)
    refine j_iload F 1 dL_law_2165 rfl ?_
    refine j_if_ne F 2182 dL_law_2167 (by decide) (fun c_2167 => ?_) (fun c_2167 => absurd c_2167 (by decide))
    refine j_goto F 2682 dL_law_2182 (by decide) ?_
    refine j_sub [2, 3, 4, 5, 6, 7] [(5, .int (nI (6 * t))), (0, .ref bS), (1, .ref (ad 0)), (2, .ref (ae 0)), (3, .ref o), (4, .ref oD)] rfl ?_
    exact kk (tU (eU (rU Z pos P) ((prs (Z.2.2 15) (Z.1 15) (Z.1 15) (sk (Z.2.2 15) (Z.1 15) 0) 0).2)) 0 (Z.2.2 15)) vi1 ga1 fo fd hG1

set_option maxHeartbeats 4000000 in
set_option maxRecDepth 100000 in
theorem case_34 (l : Launch) (hfl : l.stackTraces = false) (D : va_G) (ay : Nat → ClassId) (sa : Nat → Nat) (ad ae : Nat → Nat) (o oD bS L : Nat) (xs : Nat → Int32) {p9 : Program} {e9 : Env} {s9 : State} {m9 : MethodId} {a9 : Array Value} {b9 : List Frame} {me9 : Method} {c9 : Code} {A9 : Nat → Prop} {Q9 : State → Prop} (F : jF p9 s9 m9 a9 me9 c9 cL_law 10 RL (some .boolean) D ay A9) (hX : jX sa A9 s9 s9.heap) (hN : jN s9) (hXb : va_X bS L xs s9 s9.heap) (hbl : bS < s9.heap.size) (hbA : ¬ A9 bS) (k n : Nat) (hk : k + 3 ≤ room_1.cells ∧ n + 18 ≤ room_1.slots) (t : Nat) (ht : 6 * t + 6 ≤ L) (hL : L ≤ 3072) (Z : DS) (vi : Nat → Int32) (ga : Nat → Nat → Int32) (fo : Nat → Int64) (fd : Nat → UInt64) (hG : GI Z vi ga) (kk : ∀ (Z' : DS) (vi' : Nat → Int32) (ga' : Nat → Nat → Int32) (fo' : Nat → Int64) (fd' : Nat → UInt64), GI Z' vi' ga' → jJ p9 l e9 room_1 s9 m9 a9 b9 me9 c9 Q9 D A9 10 (k + 3) (n + 18) (LW ay ad ae o oD Z' vi' ga' fo' fd') 2682 [(5, .int (nI (6 * t))), (0, .ref bS), (1, .ref (ad 0)), (2, .ref (ae 0)), (3, .ref o), (4, .ref oD)] []) : jJ p9 l e9 room_1 s9 m9 a9 b9 me9 c9 Q9 D A9 10 k n (LW ay ad ae o oD Z vi ga fo fd) 2185 [(5, .int (nI (6 * t))), (0, .ref bS), (1, .ref (ad 0)), (2, .ref (ae 0)), (3, .ref o), (4, .ref oD)] [] := by
  refine j_aload_n F 2 dL_law_2185 rfl ?_
  refine j_scallV F kL_251 (As := []) (rest := []) (c_X9_errorPosition l D ay ad Z) 1 1 55 rfl rfl rfl rfl rfl rfl ⟨Nat.le_trans (Nat.le_add_right _ _) hk.1, Nat.le_trans (Nat.le_add_right _ _) hk.2⟩ dL_law_2186 (fun v w hw => ?_)
  obtain ⟨rfl, rfl⟩ := hw
  refine ⟨rfl, (LW ay ad ae o oD Z vi ga fo fd), rfl, ?_⟩
  refine j_aload_n F 3 dL_law_2189 rfl ?_
  refine j_scallV F kL_254 (As := []) (rest := [.int (Z.2.1 0)]) (c_X10_errorPosition_ok l D ay ae vi ga Z hG) 57 57 20 rfl rfl rfl rfl rfl rfl ⟨Nat.le_trans (Nat.le_add_right _ _) hk.1, Nat.le_trans (Nat.le_add_right _ _) hk.2⟩ dL_law_2190 (fun v w hw => ?_)
  obtain ⟨vi1, ga1, hG1, hc1, rfl, rfl⟩ := hw
  refine ⟨rfl, (LW ay ad ae o oD Z vi1 ga1 fo fd), rfl, ?_⟩
  refine j_top (Z.2.1 0) rfl ?_
  refine j_icmp_eq F 2682 dL_law_2193 (by decide) (fun c_2193 => ?_) (fun c_2193 => absurd rfl c_2193)
  refine j_widen (Nat.le_add_right k 3) (Nat.le_add_right n 18) ?_
  refine j_sub [0, 1, 2, 3, 4, 5] [(5, .int (nI (6 * t))), (0, .ref bS), (1, .ref (ad 0)), (2, .ref (ae 0)), (3, .ref o), (4, .ref oD)] rfl ?_
  exact kk Z vi1 ga1 fo fd hG1

set_option maxHeartbeats 4000000 in
set_option maxRecDepth 100000 in
theorem case_35 (l : Launch) (hfl : l.stackTraces = false) (D : va_G) (ay : Nat → ClassId) (sa : Nat → Nat) (ad ae : Nat → Nat) (o oD bS L : Nat) (xs : Nat → Int32) {p9 : Program} {e9 : Env} {s9 : State} {m9 : MethodId} {a9 : Array Value} {b9 : List Frame} {me9 : Method} {c9 : Code} {A9 : Nat → Prop} {Q9 : State → Prop} (F : jF p9 s9 m9 a9 me9 c9 cL_law 10 RL (some .boolean) D ay A9) (hX : jX sa A9 s9 s9.heap) (hN : jN s9) (hXb : va_X bS L xs s9 s9.heap) (hbl : bS < s9.heap.size) (hbA : ¬ A9 bS) (k n : Nat) (hk : k + 3 ≤ room_1.cells ∧ n + 18 ≤ room_1.slots) (t : Nat) (ht : 6 * t + 6 ≤ L) (hL : L ≤ 3072) (Z : DS) (vi : Nat → Int32) (ga : Nat → Nat → Int32) (fo : Nat → Int64) (fd : Nat → UInt64) (hG : GI Z vi ga) (kk : ∀ (Z' : DS) (vi' : Nat → Int32) (ga' : Nat → Nat → Int32) (fo' : Nat → Int64) (fd' : Nat → UInt64), GI Z' vi' ga' → jJ p9 l e9 room_1 s9 m9 a9 b9 me9 c9 Q9 D A9 10 (k + 3) (n + 18) (LW ay ad ae o oD Z' vi' ga' fo' fd') 2682 [(5, .int (nI (6 * t))), (0, .ref bS), (1, .ref (ad 0)), (2, .ref (ae 0)), (3, .ref o), (4, .ref oD)] []) : jJ p9 l e9 room_1 s9 m9 a9 b9 me9 c9 Q9 D A9 10 k n (LW ay ad ae o oD Z vi ga fo fd) 2198 [(5, .int (nI (6 * t))), (0, .ref bS), (1, .ref (ad 0)), (2, .ref (ae 0)), (3, .ref o), (4, .ref oD)] [] := by
  obtain ⟨x1, hx1⟩ : ∃ y, y = xs (6 * t + 1) := ⟨_, rfl⟩
  refine j_aload_n F 2 dL_law_2198 rfl ?_
  refine j_aload_n F 1 dL_law_2199 rfl ?_
  refine j_iload F 0 dL_law_2200 rfl ?_
  refine j_iconst F (v := 1) dL_law_2202 (by decide) ?_
  refine j_iadd F dL_law_2203 ?_
  refine j_top (nI (6 * t + 1)) (nI_add _ _) ?_
  refine j_sld F hXb hbl hbA hL (6 * t + 1) (by omega) dL_law_2204 ?_
  refine j_top x1 hx1.symm ?_
  refine j_aload_n F 4 dL_law_2205 rfl ?_
  refine j_hcallS F hX hN kL_255 (As := [.ref (ad 0), .int x1, .ref o]) (rest := []) (h_setFrames l hfl D ay sa ad Z x1 o fo) 1 56 rfl rfl rfl rfl rfl ⟨hk.1, hk.2⟩ dL_law_2206 (fun v w hw => ?_)
  rcases hw with ⟨b, g0, g1, rfl, rfl, rfl⟩ | ⟨g0, rfl, rfl⟩
  · skip
    refine ⟨rfl, (LW ay ad ae o oD (xU Z b (Z.2.1 19) (Z.2.1 20) ((Z.2.1 21) + nI (wC (Z.2.2 22) 16)) (wD (Z.2.2 21) (Z.2.2 20) (Z.2.2 22) 16) (Z.2.2 21) (wY (Z.2.2 22) 16) 0 (Z.2.2 23)) vi ga (vp_updL fo 0 ((nI (wC (Z.2.2 22) 16) : Int32)).toInt64) fd), rfl, ?_⟩
    refine j_istore F 6 [(6, .int 0), (5, .int (nI (6 * t))), (0, .ref bS), (1, .ref (ad 0)), (2, .ref (ae 0)), (3, .ref o), (4, .ref oD)] dL_law_2209 (by decide) rfl ?_
    refine j_aload_n F 4 dL_law_2211 rfl ?_
    refine j_aload_n F 2 dL_law_2212 rfl ?_
    refine j_iload F 1 dL_law_2213 rfl ?_
    refine j_iconst F (v := 1) dL_law_2215 (by decide) ?_
    refine j_iadd F dL_law_2216 ?_
    refine j_top (nI (6 * t + 1)) (nI_add _ _) ?_
    refine j_sld F hXb hbl hbA hL (6 * t + 1) (by omega) dL_law_2217 ?_
    refine j_top (nI b) hx1.symm ?_
    refine j_scallV F kL_257 (As := [.int (nI b)]) (rest := []) (c_X10_setFrames_ok l D ay ae vi ga Z b hG (by first | assumption | exact ⟨‹_›, ‹_›⟩ | omega)) 57 57 20 rfl rfl rfl rfl rfl rfl ⟨hk.1, hk.2⟩ dL_law_2218 (fun v w hw => ?_)
    obtain ⟨vi1, ga1, hG1, hc1, rfl, rfl⟩ := hw
    refine ⟨rfl, (LW ay ad ae o oD (xU Z b (Z.2.1 19) (Z.2.1 20) ((Z.2.1 21) + nI (wC (Z.2.2 22) 16)) (wD (Z.2.2 21) (Z.2.2 20) (Z.2.2 22) 16) (Z.2.2 21) (wY (Z.2.2 22) 16) 0 (Z.2.2 23)) vi1 ga1 (vp_updL fo 0 ((nI (wC (Z.2.2 22) 16) : Int32)).toInt64) fd), rfl, ?_⟩
    refine j_top (nI (wC (Z.2.2 22) 16)) rfl ?_
    refine j_istore F 7 [(7, .int (nI (wC (Z.2.2 22) 16))), (6, .int 0), (5, .int (nI (6 * t))), (0, .ref bS), (1, .ref (ad 0)), (2, .ref (ae 0)), (3, .ref o), (4, .ref oD)] dL_law_2221 (by decide) rfl ?_
    refine j_aload_n F 5 dL_law_2223 rfl ?_
    refine j_scallV F kL_140 (As := []) (rest := []) (c_X10_thrown l D ay ae vi1 ga1) 57 57 20 rfl rfl rfl rfl rfl rfl ⟨hk.1, hk.2⟩ dL_law_2224 (fun v w hw => ?_)
    obtain ⟨rfl, rfl⟩ := hw
    refine ⟨rfl, (LW ay ad ae o oD (xU Z b (Z.2.1 19) (Z.2.1 20) ((Z.2.1 21) + nI (wC (Z.2.2 22) 16)) (wD (Z.2.2 21) (Z.2.2 20) (Z.2.2 22) 16) (Z.2.2 21) (wY (Z.2.2 22) 16) 0 (Z.2.2 23)) vi1 ga1 (vp_updL fo 0 ((nI (wC (Z.2.2 22) 16) : Int32)).toInt64) fd), rfl, ?_⟩
    refine j_top 0 hc1 ?_
    refine j_iload F 1 dL_law_2227 rfl ?_
    refine j_icmp_eq F 2234 dL_law_2229 (by decide) (fun c_2229 => ?_) (fun c_2229 => absurd (by decide) c_2229)
    refine j_iload F 1 dL_law_2234 rfl ?_
    refine j_if_ne F 2251 dL_law_2236 (by decide) (fun c_2236 => absurd (by decide) c_2236) (fun c_2236 => ?_)
    refine j_aload_n F 6 dL_law_2239 rfl ?_
    refine j_iconst F (v := 0) dL_law_2240 (by decide) ?_
    refine j_lald F 56 0 (f := vp_updL fo 0 ((nI (wC (Z.2.2 22) 16) : Int32)).toInt64) rfl rfl (by decide) (Nat.le_of_ble_eq_true rfl) dL_law_2241 ?_
    refine j_iload F 0 dL_law_2242 rfl ?_
    refine j_i2l F dL_law_2244 ?_
    refine j_lcmp F dL_law_2245 ?_
    refine j_top 0 (lg_self _) ?_
    refine j_if_eq F 2251 dL_law_2246 (by decide) (fun c_2246 => ?_) (fun c_2246 => absurd (by decide) c_2246)
    refine j_goto F 2682 dL_law_2251 (by decide) ?_
    refine j_sub [2, 3, 4, 5, 6, 7] [(5, .int (nI (6 * t))), (0, .ref bS), (1, .ref (ad 0)), (2, .ref (ae 0)), (3, .ref o), (4, .ref oD)] rfl ?_
    exact kk (xU Z b (Z.2.1 19) (Z.2.1 20) ((Z.2.1 21) + nI (wC (Z.2.2 22) 16)) (wD (Z.2.2 21) (Z.2.2 20) (Z.2.2 22) 16) (Z.2.2 21) (wY (Z.2.2 22) 16) 0 (Z.2.2 23)) vi1 ga1 (vp_updL fo 0 ((nI (wC (Z.2.2 22) 16) : Int32)).toInt64) fd hG1
  · skip
    refine ⟨rfl, (LW ay ad ae o oD Z vi ga fo fd), rfl, ?_⟩
    refine j_istore F 6 [(6, .int 1), (5, .int (nI (6 * t))), (0, .ref bS), (1, .ref (ad 0)), (2, .ref (ae 0)), (3, .ref o), (4, .ref oD)] dL_law_2209 (by decide) rfl ?_
    refine j_aload_n F 4 dL_law_2211 rfl ?_
    refine j_aload_n F 2 dL_law_2212 rfl ?_
    refine j_iload F 1 dL_law_2213 rfl ?_
    refine j_iconst F (v := 1) dL_law_2215 (by decide) ?_
    refine j_iadd F dL_law_2216 ?_
    refine j_top (nI (6 * t + 1)) (nI_add _ _) ?_
    refine j_sld F hXb hbl hbA hL (6 * t + 1) (by omega) dL_law_2217 ?_
    refine j_top x1 hx1.symm ?_
    refine j_scallV F kL_257 (As := [.int x1]) (rest := []) (c_X10_setFrames_no l D ay ae vi ga Z x1 hG (by first | assumption | exact ⟨‹_›, ‹_›⟩ | omega)) 57 57 20 rfl rfl rfl rfl rfl rfl ⟨hk.1, hk.2⟩ dL_law_2218 (fun v w hw => ?_)
    obtain ⟨vi1, ga1, hG1, hc1, rfl, rfl⟩ := hw
    refine ⟨rfl, (LW ay ad ae o oD Z vi1 ga1 fo fd), rfl, ?_⟩
    refine j_top 0 rfl ?_
    refine j_istore F 7 [(7, .int 0), (6, .int 1), (5, .int (nI (6 * t))), (0, .ref bS), (1, .ref (ad 0)), (2, .ref (ae 0)), (3, .ref o), (4, .ref oD)] dL_law_2221 (by decide) rfl ?_
    refine j_aload_n F 5 dL_law_2223 rfl ?_
    refine j_scallV F kL_140 (As := []) (rest := []) (c_X10_thrown l D ay ae vi1 ga1) 57 57 20 rfl rfl rfl rfl rfl rfl ⟨hk.1, hk.2⟩ dL_law_2224 (fun v w hw => ?_)
    obtain ⟨rfl, rfl⟩ := hw
    refine ⟨rfl, (LW ay ad ae o oD Z vi1 ga1 fo fd), rfl, ?_⟩
    refine j_top 1 hc1 ?_
    refine j_iload F 1 dL_law_2227 rfl ?_
    refine j_icmp_eq F 2234 dL_law_2229 (by decide) (fun c_2229 => ?_) (fun c_2229 => absurd (by decide) c_2229)
    refine j_iload F 1 dL_law_2234 rfl ?_
    refine j_if_ne F 2251 dL_law_2236 (by decide) (fun c_2236 => ?_) (fun c_2236 => absurd c_2236 (by decide))
    refine j_goto F 2682 dL_law_2251 (by decide) ?_
    refine j_sub [2, 3, 4, 5, 6, 7] [(5, .int (nI (6 * t))), (0, .ref bS), (1, .ref (ad 0)), (2, .ref (ae 0)), (3, .ref o), (4, .ref oD)] rfl ?_
    exact kk Z vi1 ga1 fo fd hG1

