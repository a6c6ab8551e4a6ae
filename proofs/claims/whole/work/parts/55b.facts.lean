/-! ===== what holds at the entry ===== -/
theorem lw_facts {s : State} {b : Nat} (hts : ∀ w ∈ lw_tbl, w.before #[Value.ref b] s = true) (hgv : (Jvm.Cond.and given_1 narrow_1).before #[Value.ref b] s = true) : ∃ (D : va_G) (ay : Nat → ClassId) (sa : Nat → Nat), va_K D vwCl (jT ay) s ∧ jX sa (fun q : Nat => s.heap.size ≤ q) s s.heap ∧ jN s ∧ jU s := by
  have hgw : ∀ w ∈ gw, w.before #[Value.ref b] s = true := fun w h => hts w (List.mem_filter.mp h).1
  have hfl := flat_of_before _ hgv
  obtain ⟨c0, i0, hK0⟩ := u_known (C := RX0) (T := TX0) (N := 3) (n := 3) hgw inlX0 (hgw _ gi_82)
  obtain ⟨c1, i1, hK1⟩ := u_known (C := RX1) (T := TX1) (N := 3) (n := 3) hgw inlX1 (hgw _ gi_65)
  obtain ⟨c2, i2, hK2⟩ := u_known (C := RX2) (T := TX2) (N := 8) (n := 8) hgw inlX2 (hgw _ gi_79)
  obtain ⟨c3, i3, hK3⟩ := u_known (C := RX3) (T := TX3) (N := 6) (n := 6) hgw inlX3 (hgw _ gi_55)
  obtain ⟨c4, i4, hK4⟩ := u_known (C := RX4) (T := TX4) (N := 3) (n := 3) hgw inlX4 (hgw _ gi_76)
  obtain ⟨c5, i5, hK5⟩ := u_known (C := RX5) (T := TX5) (N := 4) (n := 4) hgw inlX5 (hgw _ gi_73)
  obtain ⟨c6, i6, hK6⟩ := u_known (C := RX6) (T := TX6) (N := 2) (n := 2) hgw inlX6 (hgw _ gi_52)
  obtain ⟨c7, i7, hK7⟩ := u_known (C := RX7) (T := TX7) (N := 6) (n := 6) hgw inlX7 (hgw _ gi_70)
  obtain ⟨c8, i8, hK8⟩ := u_known (C := RX8) (T := TX8) (N := 2) (n := 2) hgw inlX8 (hgw _ gi_43)
  obtain ⟨c9, i9, hK9⟩ := u_known (C := RX9) (T := TX9) (N := 7) (n := 7) hgw inlX9 (hgw _ gi_85)
  obtain ⟨c10, i10, hK10⟩ := u_known (C := RX10) (T := TX10) (N := 36) (n := 36) hgw inlX10 (hgw _ gi_87)
  obtain ⟨a0, kA0, cm0, hf0, hk0, hd0⟩ := Cond.arrayClass_spec (hgw _ gi_88)
  obtain ⟨a1, kA1, cm1, hf1, hk1, hd1⟩ := Cond.arrayClass_spec (hgw _ gi_89)
  obtain ⟨a3, kA3, cm3, hf3, hk3, hd3⟩ := Cond.arrayClass_spec (hgw _ gi_90)
  obtain ⟨a4, kA4, cm4, hf4, hk4, hd4⟩ := Cond.arrayClass_spec (hgw _ gi_91)
  obtain ⟨cm2, a2, kA2, g1, g2, g3, g4, g5⟩ := Cond.arrayOver_spec (hts (.arrayOver (.object RX0)) (List.mem_of_getElem? (i := 134) (by decide +kernel)))
  have w0 := hts (.stringRef RX9 144 "the map has no cursor") (List.mem_of_getElem? (i := 764) (by decide +kernel))
  obtain ⟨_, _, _, t0, _, _, _, _, _, ht0⟩ := Cond.stringRef_spec hK9.2.1 w0
  have w1 := hts (.stringRef RX9 151 "the cursor has no next pair") (List.mem_of_getElem? (i := 780) (by decide +kernel))
  obtain ⟨_, _, _, t1, _, _, _, _, _, ht1⟩ := Cond.stringRef_spec hK9.2.1 w1
  have w2 := hts (.stringRef RX9 160 "the cursor has no pair to take out") (List.mem_of_getElem? (i := 802) (by decide +kernel))
  obtain ⟨_, _, _, t2, _, _, _, _, _, ht2⟩ := Cond.stringRef_spec hK9.2.1 w2
  have w3 := hts (.stringRef RX9 169 "the record is full") (List.mem_of_getElem? (i := 815) (by decide +kernel))
  obtain ⟨_, _, _, t3, _, _, _, _, _, ht3⟩ := Cond.stringRef_spec hK9.2.1 w3
  have w4 := hts (.stringRef RX9 211 "the tape has no room") (List.mem_of_getElem? (i := 919) (by decide +kernel))
  obtain ⟨_, _, _, t4, _, _, _, _, _, ht4⟩ := Cond.stringRef_spec hK9.2.1 w4
  have w5 := hts (.stringRef RX9 219 "the record has no room for a run") (List.mem_of_getElem? (i := 931) (by decide +kernel))
  obtain ⟨_, _, _, t5, _, _, _, _, _, ht5⟩ := Cond.stringRef_spec hK9.2.1 w5
  have w6 := hts (.stringRef RX9 224 "the text has an error") (List.mem_of_getElem? (i := 1012) (by decide +kernel))
  obtain ⟨_, _, _, t6, _, _, _, _, _, ht6⟩ := Cond.stringRef_spec hK9.2.1 w6
  have w7 := hts (.stringRef RX9 198 "a number is out of range") (List.mem_of_getElem? (i := 496) (by decide +kernel))
  obtain ⟨_, _, _, t7, _, _, _, _, _, ht7⟩ := Cond.stringRef_spec hK9.2.1 w7
  have w8 := hts (.stringRef RX9 280 "there is no such place") (List.mem_of_getElem? (i := 682) (by decide +kernel))
  obtain ⟨_, _, _, t8, _, _, _, _, _, ht8⟩ := Cond.stringRef_spec hK9.2.1 w8
  refine ⟨(fun k => [c0, c1, c2, c3, c4, c5, c6, c7, c8, c9, c10].getD k c0, fun k => [i0, i1, i2, i3, i4, i5, i6, i7, i8, i9, i10].getD k i0), fun k => [a0, a1, a2, a3, a4].getD k a0, fun k => [t0, t1, t2, t3, t4, t5, t6, t7, t8].getD k t0, ⟨fun k q hq => ?_, fun k q hq => ?_⟩, ⟨?_, ?_, ⟨vk_R.of w0 ht0, vk_R.of w1 ht1, vk_R.of w2 ht2, vk_R.of w3 ht3, vk_R.of w4 ht4, vk_R.of w5 ht5, vk_R.of w6 ht6, vk_R.of w7 ht7, vk_R.of w8 ht8⟩, ?_⟩, ?_, ?_⟩
  · match k, hq with
    | 0, hq => cases hq; exact hK0
    | 1, hq => cases hq; exact hK1
    | 2, hq => cases hq; exact hK2
    | 3, hq => cases hq; exact hK3
    | 4, hq => cases hq; exact hK4
    | 5, hq => cases hq; exact hK5
    | 6, hq => cases hq; exact hK6
    | 7, hq => cases hq; exact hK7
    | 8, hq => cases hq; exact hK8
    | 9, hq => cases hq; exact hK9
    | 10, hq => cases hq; exact hK10
    | k + 11, hq => exact absurd (show (none : Option vw_C) = some q from hq) (by intro h; cases h)
  · match k, hq with
    | 0, hq => cases hq; exact ⟨fun n z => ⟨fun k h => (by cases h), kA0, hk0, cm0, hd0⟩, hf0⟩
    | 1, hq => cases hq; exact ⟨fun n z => ⟨fun k h => (by cases h), kA1, hk1, cm1, hd1⟩, hf1⟩
    | 2, hq => cases hq; exact ⟨fun n z => ⟨fun k h => (by cases h), kA2, g3, cm2, g4⟩, kA2, cm2, g3, g4, g1, g5⟩
    | 3, hq => cases hq; exact ⟨fun n z => ⟨fun k h => (by cases h), kA3, hk3, cm3, hd3⟩, hf3⟩
    | 4, hq => cases hq; exact ⟨fun n z => ⟨fun k h => (by cases h), kA4, hk4, cm4, hd4⟩, hf4⟩
    | k + 5, hq => exact absurd (show (none : Option (ClassId × FieldType)) = some q from hq) (by intro h; cases h)
  · exact vx_Zqof (hts (.laysStatic Bundle.tN "UNASSIGNED_STACK" Bundle.steD) (List.mem_of_getElem? (i := 481) (by decide +kernel))) (hts (.initialized Bundle.tN) (List.mem_of_getElem? (i := 63) (by decide +kernel))) (hfl (.isRef (.static Bundle.tN "UNASSIGNED_STACK" Bundle.steD)) (by decide +kernel)) (fun a h => Nat.not_le.mpr h)
  · exact vx_Zqof (hts (.laysStatic Bundle.tN "SUPPRESSED_SENTINEL" Bundle.listD) (List.mem_of_getElem? (i := 483) (by decide +kernel))) (hts (.initialized Bundle.tN) (List.mem_of_getElem? (i := 63) (by decide +kernel))) (hfl (.isRef (.static Bundle.tN "SUPPRESSED_SENTINEL" Bundle.listD)) (by decide +kernel)) (fun a h => Nat.not_le.mpr h)
  · exact ⟨va_Nw.of rfl (hts (.declares (Bundle.initS "java/lang/RuntimeException")) (List.mem_of_getElem? (i := 458) (by decide +kernel))), va_Nw.of rfl (hts (.declares (Bundle.initS "java/lang/Exception")) (List.mem_of_getElem? (i := 460) (by decide +kernel))), va_Nw.of rfl (hts (.declares (Bundle.initS Bundle.tN)) (List.mem_of_getElem? (i := 462) (by decide +kernel))), va_Nw.of rfl (hts (.castable eIA eIA) (List.mem_of_getElem? (i := 456) (by decide +kernel))), va_Nw.of rfl (hts (.castable eIS eIS) (List.mem_of_getElem? (i := 757) (by decide +kernel))), va_Nw.of rfl (hts (.castable eIO eIO) (List.mem_of_getElem? (i := 675) (by decide +kernel))), va_Nw.of rfl (hts (.castable eNS eNS) (List.mem_of_getElem? (i := 773) (by decide +kernel)))⟩
  · exact ⟨va_Nc.of (hfl (.not (.castable eIO eIA)) (by decide +kernel)), va_Nc.of (hfl (.not (.castable eIS eIA)) (by decide +kernel)), va_Nc.of (hfl (.not (.castable eNS eIA)) (by decide +kernel)), va_Nc.of (hfl (.not (.castable eNS eIS)) (by decide +kernel)), va_Nc.of (hfl (.not (.castable eIA eIS)) (by decide +kernel))⟩
  · refine ⟨?_, va_AO.of (hts (.arrayOver (.object RX0)) (List.mem_of_getElem? (i := 134) (by decide +kernel)))⟩
    show ∀ q ∈ [(RX7, 11, yX8_init), (RX7, 20, yX1_init), (RX9, 29, yX5_init), (RX5, 20, yX8_init), (RX9, 36, yX4_init), (RX4, 11, yX6_init), (RX4, 20, yX3_init), (RX2, 24, yX8_init), (RX0, 9, yX8_init)], va_Nw (.methodLinkNest q.1 q.2.1 q.2.2 RX9) s
    exact List.forall_mem_cons.mpr ⟨va_Nw.of rfl (hts (.methodLinkNest RX7 11 yX8_init RX9) (List.mem_of_getElem? (i := 86) (by decide +kernel))), List.forall_mem_cons.mpr ⟨va_Nw.of rfl (hts (.methodLinkNest RX7 20 yX1_init RX9) (List.mem_of_getElem? (i := 100) (by decide +kernel))), List.forall_mem_cons.mpr ⟨va_Nw.of rfl (hts (.methodLinkNest RX9 29 yX5_init RX9) (List.mem_of_getElem? (i := 137) (by decide +kernel))), List.forall_mem_cons.mpr ⟨va_Nw.of rfl (hts (.methodLinkNest RX5 20 yX8_init RX9) (List.mem_of_getElem? (i := 142) (by decide +kernel))), List.forall_mem_cons.mpr ⟨va_Nw.of rfl (hts (.methodLinkNest RX9 36 yX4_init RX9) (List.mem_of_getElem? (i := 158) (by decide +kernel))), List.forall_mem_cons.mpr ⟨va_Nw.of rfl (hts (.methodLinkNest RX4 11 yX6_init RX9) (List.mem_of_getElem? (i := 164) (by decide +kernel))), List.forall_mem_cons.mpr ⟨va_Nw.of rfl (hts (.methodLinkNest RX4 20 yX3_init RX9) (List.mem_of_getElem? (i := 177) (by decide +kernel))), List.forall_mem_cons.mpr ⟨va_Nw.of rfl (hts (.methodLinkNest RX2 24 yX8_init RX9) (List.mem_of_getElem? (i := 217) (by decide +kernel))), List.forall_mem_cons.mpr ⟨va_Nw.of rfl (hts (.methodLinkNest RX0 9 yX8_init RX9) (List.mem_of_getElem? (i := 250) (by decide +kernel))), fun _ h => absurd h List.not_mem_nil⟩⟩⟩⟩⟩⟩⟩⟩⟩
