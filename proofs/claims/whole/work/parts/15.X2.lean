-- ---- Machine
/-- from a to i copied -/
def cpI (g h : Nat → Int32) (a i : Nat) : Nat → Int32 := fun j => if a ≤ j ∧ j < i then g j else h j
theorem cpI_0 (g h : Nat → Int32) (a : Nat) : cpI g h a a = h := by
  funext j
  show (if a ≤ j ∧ j < a then g j else h j) = h j
  rw [if_neg (by omega)]
theorem cpI_step {g h : Nat → Int32} {a i : Nat} (ha : a ≤ i) : upd (cpI g h a i) i (g i) = cpI g h a (i + 1) := by
  funext j
  show (if j = i then g i else (if a ≤ j ∧ j < i then g j else h j)) = (if a ≤ j ∧ j < i + 1 then g j else h j)
  by_cases e : j = i
  · rw [if_pos e, if_pos (by omega), e]
  · rw [if_neg e]
    by_cases h2 : a ≤ j ∧ j < i
    · rw [if_pos h2, if_pos (by omega)]
    · rw [if_neg h2, if_neg (by omega)]
def acH (dd hh : Nat → Int32) (f : Nat → Int32) (n p : Nat) : Nat → Int32 := if fx f (nI p) n < n then hh else cpI dd hh (4 * p) (4 * p + 4)
/-- the first i pages written where they are dirty -/
def wY (yy : Nat → Int32) (i : Nat) : Nat → Int32 := fun j => if j < i then 0 else yy j
def wC (yy : Nat → Int32) : Nat → Nat
  | 0 => 0
  | i + 1 => if yy i = 0 then wC yy i else wC yy i + 1
def wD (hh dd yy : Nat → Int32) (i : Nat) : Nat → Int32 := fun a => if a / 4 < i ∧ ¬ yy (a / 4) = 0 then hh a else dd a
theorem wY_0 (yy : Nat → Int32) : wY yy 0 = yy := by
  funext j
  show (if j < 0 then 0 else yy j) = yy j
  rw [if_neg (by omega)]
theorem wY_at {yy : Nat → Int32} {i : Nat} : wY yy i i = yy i := by
  show (if i < i then 0 else yy i) = yy i
  rw [if_neg (by omega)]
theorem wY_s {yy : Nat → Int32} {i : Nat} : (if wY yy i i = 0 then wY yy i else upd (wY yy i) i 0) = wY yy (i + 1) := by
  rw [wY_at]
  funext j
  by_cases h : yy i = 0
  · rw [if_pos h]
    show (if j < i then 0 else yy j) = (if j < i + 1 then 0 else yy j)
    by_cases e : j = i
    · rw [if_neg (by omega), if_pos (by omega), e, h]
    · by_cases h2 : j < i
      · rw [if_pos h2, if_pos (by omega)]
      · rw [if_neg h2, if_neg (by omega)]
  · rw [if_neg h]
    show (if j = i then 0 else (if j < i then 0 else yy j)) = (if j < i + 1 then 0 else yy j)
    by_cases e : j = i
    · rw [if_pos e, if_pos (by omega)]
    · rw [if_neg e]
      by_cases h2 : j < i
      · rw [if_pos h2, if_pos (by omega)]
      · rw [if_neg h2, if_neg (by omega)]
theorem wD_0 (hh dd yy : Nat → Int32) : wD hh dd yy 0 = dd := by
  funext a
  show (if a / 4 < 0 ∧ ¬ yy (a / 4) = 0 then hh a else dd a) = dd a
  rw [if_neg (by omega)]
theorem wD_s {hh dd yy : Nat → Int32} {i : Nat} : (if wY yy i i = 0 then wD hh dd yy i else cpI hh (wD hh dd yy i) (4 * i) (4 * i + 4)) = wD hh dd yy (i + 1) := by
  rw [wY_at]
  funext a
  by_cases h : yy i = 0
  · rw [if_pos h]
    show (if a / 4 < i ∧ ¬ yy (a / 4) = 0 then hh a else dd a) = (if a / 4 < i + 1 ∧ ¬ yy (a / 4) = 0 then hh a else dd a)
    by_cases e : a / 4 = i
    · rw [if_neg (by omega), if_neg (fun z => z.2 (by rw [e]; exact h))]
    · by_cases h2 : a / 4 < i ∧ ¬ yy (a / 4) = 0
      · rw [if_pos h2, if_pos ⟨by omega, h2.2⟩]
      · rw [if_neg h2, if_neg (fun z => h2 ⟨by omega, z.2⟩)]
  · rw [if_neg h]
    show (if 4 * i ≤ a ∧ a < 4 * i + 4 then hh a else (if a / 4 < i ∧ ¬ yy (a / 4) = 0 then hh a else dd a)) = (if a / 4 < i + 1 ∧ ¬ yy (a / 4) = 0 then hh a else dd a)
    by_cases e : a / 4 = i
    · rw [if_pos (by omega), if_pos ⟨by omega, by rw [e]; exact h⟩]
    · rw [if_neg (by omega)]
      by_cases h2 : a / 4 < i ∧ ¬ yy (a / 4) = 0
      · rw [if_pos h2, if_pos ⟨by omega, h2.2⟩]
      · rw [if_neg h2, if_neg (fun z => h2 ⟨by omega, z.2⟩)]
theorem wC_s {yy : Nat → Int32} {i : Nat} {wc : Int32} : (if wY yy i i = 0 then wc + nI (wC yy i) else wc + nI (wC yy i) + 1) = wc + nI (wC yy (i + 1)) := by
  rw [wY_at]
  show _ = wc + nI (if yy i = 0 then wC yy i else wC yy i + 1)
  by_cases h : yy i = 0
  · rw [if_pos h, if_pos h]
  · rw [if_neg h, if_neg h, Int32.add_assoc, nI_1]
theorem i32_sub (x y : Int32) : x + y - x = y := by
  rw [Int32.add_comm]
  exact Int32.add_sub_cancel y x
theorem fx_lt {f : Nat → Int32} {key : Int32} {n j : Nat} (hj : j < n) (h : f j = key) : fx f key n < n := Nat.lt_of_le_of_lt (Nat.le_of_not_lt (fun h2 => fx_no h2 h)) hj
theorem usF_last (f : Nat → Int32) (n : Nat) (key : Int32) : usF f n key (usN f n key - 1) = key := by
  unfold usF usN
  by_cases h : fx f key n < n
  · rw [if_pos h, if_pos h]
    show (if n - 1 = n - 1 then key else _) = key
    rw [if_pos rfl]
  · rw [if_neg h, if_neg h]
    show (if n + 1 - 1 = n then key else _) = key
    rw [if_pos (by omega)]
/-- what was used last is still there -/
theorem st_has {f : Nat → Int32} {n b : Nat} {key : Int32} (hb : 1 ≤ b) : fx (stF f n key b) key (stN f n key b) < stN f n key b := by
  have hp := @usN_pos f n key
  have hl := usF_last f n key
  unfold stF stN
  by_cases h : usN f n key ≤ b
  · rw [if_pos h, if_pos h]
    exact fx_lt (j := usN f n key - 1) (by omega) hl
  · rw [if_neg h, if_neg h]
    refine fx_lt (j := usN f n key - 2) (by omega) ?_
    show (if 0 ≤ usN f n key - 2 ∧ usN f n key - 2 + 1 < usN f n key then usF f n key (usN f n key - 2 + 1) else _) = key
    rw [if_pos (by omega), show usN f n key - 2 + 1 = usN f n key - 1 by omega]
    exact hl
set_option maxHeartbeats 4000000 in
set_option maxRecDepth 100000 in
theorem c_X2_pages (l : Launch) (D : va_G) (ay : Nat → ClassId) (mm : Nat) (dk : Nat) (hk : Nat) (dy : Nat) (o : Nat) (k : Nat) (fr : Nat) (ac : Int32) (fc : Int32) (wc : Int32) (dd : Nat → Int32) (hh : Nat → Int32) (yy : Nat → Int32) (n : Nat) (f : Nat → Int32) : jM l yX2_pages (jws yX2_pages cX2_pages 1 (some (.object "LastUseDesk$UseOrder"))) 0 0 0 0 D ay [.ref mm] [(mm, .inr (2, [.ref dk, .ref hk, .ref dy, .ref o, .int (nI fr), .int ac, .int fc, .int wc])), (dk, .inl (ay 0, 64, .inl dd)), (hk, .inl (ay 0, 64, .inl hh)), (dy, .inl (ay 1, 16, .inl yy)), (o, .inr (8, [.ref k, .int (nI n)])), (k, .inl (ay 0, 100, .inl f))] (fun v w => v = some (.ref o) ∧ w = [(mm, .inr (2, [.ref dk, .ref hk, .ref dy, .ref o, .int (nI fr), .int ac, .int fc, .int wc])), (dk, .inl (ay 0, 64, .inl dd)), (hk, .inl (ay 0, 64, .inl hh)), (dy, .inl (ay 1, 16, .inl yy)), (o, .inr (8, [.ref k, .int (nI n)])), (k, .inl (ay 0, 100, .inl f))]) := by
  refine jM_of l (by decide) [(0, .ref mm)] rfl rfl (fun p9 e9 s9 m9 a9 b9 me9 c9 A9 F => ?_)
  refine j_aload_n F 0 dX2_pages_0 rfl ?_
  refine j_getf F fX2_25 0 rfl rfl dX2_pages_1 ?_
  exact j_aret F ⟨rfl, rfl⟩ dX2_pages_4 (Nat.le_of_ble_eq_true rfl) (Nat.le_of_ble_eq_true rfl)

set_option maxHeartbeats 4000000 in
set_option maxRecDepth 100000 in
theorem c_X2_accumulated (l : Launch) (D : va_G) (ay : Nat → ClassId) (mm : Nat) (dk : Nat) (hk : Nat) (dy : Nat) (o : Nat) (k : Nat) (fr : Nat) (ac : Int32) (fc : Int32) (wc : Int32) (dd : Nat → Int32) (hh : Nat → Int32) (yy : Nat → Int32) (n : Nat) (f : Nat → Int32) : jM l yX2_accumulated (jws yX2_accumulated cX2_accumulated 1 (some .int)) 0 0 0 0 D ay [.ref mm] [(mm, .inr (2, [.ref dk, .ref hk, .ref dy, .ref o, .int (nI fr), .int ac, .int fc, .int wc])), (dk, .inl (ay 0, 64, .inl dd)), (hk, .inl (ay 0, 64, .inl hh)), (dy, .inl (ay 1, 16, .inl yy)), (o, .inr (8, [.ref k, .int (nI n)])), (k, .inl (ay 0, 100, .inl f))] (fun v w => v = some (.int ac) ∧ w = [(mm, .inr (2, [.ref dk, .ref hk, .ref dy, .ref o, .int (nI fr), .int ac, .int fc, .int wc])), (dk, .inl (ay 0, 64, .inl dd)), (hk, .inl (ay 0, 64, .inl hh)), (dy, .inl (ay 1, 16, .inl yy)), (o, .inr (8, [.ref k, .int (nI n)])), (k, .inl (ay 0, 100, .inl f))]) := by
  refine jM_of l (by decide) [(0, .ref mm)] rfl rfl (fun p9 e9 s9 m9 a9 b9 me9 c9 A9 F => ?_)
  refine j_aload_n F 0 dX2_accumulated_0 rfl ?_
  refine j_getf F fX2_33 0 rfl rfl dX2_accumulated_1 ?_
  exact j_iret F ⟨rfl, rfl⟩ dX2_accumulated_4 (Nat.le_of_ble_eq_true rfl) (Nat.le_of_ble_eq_true rfl)

set_option maxHeartbeats 4000000 in
set_option maxRecDepth 100000 in
theorem c_X2_faultCount (l : Launch) (D : va_G) (ay : Nat → ClassId) (mm : Nat) (dk : Nat) (hk : Nat) (dy : Nat) (o : Nat) (k : Nat) (fr : Nat) (ac : Int32) (fc : Int32) (wc : Int32) (dd : Nat → Int32) (hh : Nat → Int32) (yy : Nat → Int32) (n : Nat) (f : Nat → Int32) : jM l yX2_faultCount (jws yX2_faultCount cX2_faultCount 1 (some .int)) 0 0 0 0 D ay [.ref mm] [(mm, .inr (2, [.ref dk, .ref hk, .ref dy, .ref o, .int (nI fr), .int ac, .int fc, .int wc])), (dk, .inl (ay 0, 64, .inl dd)), (hk, .inl (ay 0, 64, .inl hh)), (dy, .inl (ay 1, 16, .inl yy)), (o, .inr (8, [.ref k, .int (nI n)])), (k, .inl (ay 0, 100, .inl f))] (fun v w => v = some (.int fc) ∧ w = [(mm, .inr (2, [.ref dk, .ref hk, .ref dy, .ref o, .int (nI fr), .int ac, .int fc, .int wc])), (dk, .inl (ay 0, 64, .inl dd)), (hk, .inl (ay 0, 64, .inl hh)), (dy, .inl (ay 1, 16, .inl yy)), (o, .inr (8, [.ref k, .int (nI n)])), (k, .inl (ay 0, 100, .inl f))]) := by
  refine jM_of l (by decide) [(0, .ref mm)] rfl rfl (fun p9 e9 s9 m9 a9 b9 me9 c9 A9 F => ?_)
  refine j_aload_n F 0 dX2_faultCount_0 rfl ?_
  refine j_getf F fX2_36 0 rfl rfl dX2_faultCount_1 ?_
  exact j_iret F ⟨rfl, rfl⟩ dX2_faultCount_4 (Nat.le_of_ble_eq_true rfl) (Nat.le_of_ble_eq_true rfl)

set_option maxHeartbeats 4000000 in
set_option maxRecDepth 100000 in
theorem c_X2_writeCount (l : Launch) (D : va_G) (ay : Nat → ClassId) (mm : Nat) (dk : Nat) (hk : Nat) (dy : Nat) (o : Nat) (k : Nat) (fr : Nat) (ac : Int32) (fc : Int32) (wc : Int32) (dd : Nat → Int32) (hh : Nat → Int32) (yy : Nat → Int32) (n : Nat) (f : Nat → Int32) : jM l yX2_writeCount (jws yX2_writeCount cX2_writeCount 1 (some .int)) 0 0 0 0 D ay [.ref mm] [(mm, .inr (2, [.ref dk, .ref hk, .ref dy, .ref o, .int (nI fr), .int ac, .int fc, .int wc])), (dk, .inl (ay 0, 64, .inl dd)), (hk, .inl (ay 0, 64, .inl hh)), (dy, .inl (ay 1, 16, .inl yy)), (o, .inr (8, [.ref k, .int (nI n)])), (k, .inl (ay 0, 100, .inl f))] (fun v w => v = some (.int wc) ∧ w = [(mm, .inr (2, [.ref dk, .ref hk, .ref dy, .ref o, .int (nI fr), .int ac, .int fc, .int wc])), (dk, .inl (ay 0, 64, .inl dd)), (hk, .inl (ay 0, 64, .inl hh)), (dy, .inl (ay 1, 16, .inl yy)), (o, .inr (8, [.ref k, .int (nI n)])), (k, .inl (ay 0, 100, .inl f))]) := by
  refine jM_of l (by decide) [(0, .ref mm)] rfl rfl (fun p9 e9 s9 m9 a9 b9 me9 c9 A9 F => ?_)
  refine j_aload_n F 0 dX2_writeCount_0 rfl ?_
  refine j_getf F fX2_39 0 rfl rfl dX2_writeCount_1 ?_
  exact j_iret F ⟨rfl, rfl⟩ dX2_writeCount_4 (Nat.le_of_ble_eq_true rfl) (Nat.le_of_ble_eq_true rfl)

set_option maxHeartbeats 4000000 in
set_option maxRecDepth 100000 in
theorem c_X2_hasChanged (l : Launch) (D : va_G) (ay : Nat → ClassId) (mm : Nat) (dk : Nat) (hk : Nat) (dy : Nat) (o : Nat) (k : Nat) (fr : Nat) (ac : Int32) (fc : Int32) (wc : Int32) (dd : Nat → Int32) (hh : Nat → Int32) (yy : Nat → Int32) (n : Nat) (f : Nat → Int32) (p : Nat) (hp : p < 16) : jM l yX2_hasChanged (jws yX2_hasChanged cX2_hasChanged 2 (some .boolean)) 0 0 0 0 D ay [.ref mm, .int (nI p)] [(mm, .inr (2, [.ref dk, .ref hk, .ref dy, .ref o, .int (nI fr), .int ac, .int fc, .int wc])), (dk, .inl (ay 0, 64, .inl dd)), (hk, .inl (ay 0, 64, .inl hh)), (dy, .inl (ay 1, 16, .inl yy)), (o, .inr (8, [.ref k, .int (nI n)])), (k, .inl (ay 0, 100, .inl f))] (fun v w => v = some (.int (if yy p = 0 then 0 else 1)) ∧ w = [(mm, .inr (2, [.ref dk, .ref hk, .ref dy, .ref o, .int (nI fr), .int ac, .int fc, .int wc])), (dk, .inl (ay 0, 64, .inl dd)), (hk, .inl (ay 0, 64, .inl hh)), (dy, .inl (ay 1, 16, .inl yy)), (o, .inr (8, [.ref k, .int (nI n)])), (k, .inl (ay 0, 100, .inl f))]) := by
  refine jM_of l (by decide) [(0, .ref mm), (1, .int (nI p))] rfl rfl (fun p9 e9 s9 m9 a9 b9 me9 c9 A9 F => ?_)
  refine j_iload_n F 1 dX2_hasChanged_0 rfl ?_
  refine j_if_lt F 23 dX2_hasChanged_1 (by decide) (fun c_1 => absurd c_1 (nI_pos (by omega))) (fun c_1 => ?_)
  refine j_iload_n F 1 dX2_hasChanged_4 rfl ?_
  refine j_bipush F (v := 16) dX2_hasChanged_5 (by decide) ?_
  refine j_icmp_ge F 23 dX2_hasChanged_7 (by decide) (fun c_7 => absurd c_7 (nI_ge (b := 16) hp (by decide))) (fun c_7 => ?_)
  refine j_aload_n F 0 dX2_hasChanged_10 rfl ?_
  refine j_getf F fX2_18 0 rfl rfl dX2_hasChanged_11 ?_
  refine j_iload_n F 1 dX2_hasChanged_14 rfl ?_
  refine j_zald F 3 p rfl rfl (by omega) (Nat.le_of_ble_eq_true rfl) dX2_hasChanged_15 ?_
  refine j_if_eq F 23 dX2_hasChanged_16 (by decide) (fun c_16 => ?_) (fun c_16 => ?_)
  · skip
    refine j_iconst F (v := 0) dX2_hasChanged_23 (by decide) ?_
    exact j_zret F (Or.inl rfl) ⟨by rw [if_pos c_16], rfl⟩ dX2_hasChanged_24 (Nat.le_of_ble_eq_true rfl) (Nat.le_of_ble_eq_true rfl)
  · skip
    refine j_iconst F (v := 1) dX2_hasChanged_19 (by decide) ?_
    refine j_goto F 24 dX2_hasChanged_20 (by decide) ?_
    exact j_zret F (Or.inr rfl) ⟨by rw [if_neg c_16], rfl⟩ dX2_hasChanged_24 (Nat.le_of_ble_eq_true rfl) (Nat.le_of_ble_eq_true rfl)

set_option maxHeartbeats 4000000 in
set_option maxRecDepth 100000 in
theorem c_X2_hasChanged_none (l : Launch) (D : va_G) (ay : Nat → ClassId) (mm : Nat) (dk : Nat) (hk : Nat) (dy : Nat) (o : Nat) (k : Nat) (fr : Nat) (ac : Int32) (fc : Int32) (wc : Int32) (dd : Nat → Int32) (hh : Nat → Int32) (yy : Nat → Int32) (n : Nat) (f : Nat → Int32) : jM l yX2_hasChanged (jws yX2_hasChanged cX2_hasChanged 2 (some .boolean)) 0 0 0 0 D ay [.ref mm, .int (-1)] [(mm, .inr (2, [.ref dk, .ref hk, .ref dy, .ref o, .int (nI fr), .int ac, .int fc, .int wc])), (dk, .inl (ay 0, 64, .inl dd)), (hk, .inl (ay 0, 64, .inl hh)), (dy, .inl (ay 1, 16, .inl yy)), (o, .inr (8, [.ref k, .int (nI n)])), (k, .inl (ay 0, 100, .inl f))] (fun v w => v = some (.int 0) ∧ w = [(mm, .inr (2, [.ref dk, .ref hk, .ref dy, .ref o, .int (nI fr), .int ac, .int fc, .int wc])), (dk, .inl (ay 0, 64, .inl dd)), (hk, .inl (ay 0, 64, .inl hh)), (dy, .inl (ay 1, 16, .inl yy)), (o, .inr (8, [.ref k, .int (nI n)])), (k, .inl (ay 0, 100, .inl f))]) := by
  refine jM_of l (by decide) [(0, .ref mm), (1, .int (-1))] rfl rfl (fun p9 e9 s9 m9 a9 b9 me9 c9 A9 F => ?_)
  refine j_iload_n F 1 dX2_hasChanged_0 rfl ?_
  refine j_if_lt F 23 dX2_hasChanged_1 (by decide) (fun c_1 => ?_) (fun c_1 => absurd (by decide) c_1)
  refine j_iconst F (v := 0) dX2_hasChanged_23 (by decide) ?_
  exact j_zret F (Or.inl rfl) ⟨rfl, rfl⟩ dX2_hasChanged_24 (Nat.le_of_ble_eq_true rfl) (Nat.le_of_ble_eq_true rfl)

set_option maxHeartbeats 4000000 in
set_option maxRecDepth 100000 in
theorem c_X2_discIn (l : Launch) (D : va_G) (ay : Nat → ClassId) (mm : Nat) (dk : Nat) (hk : Nat) (dy : Nat) (o : Nat) (k : Nat) (fr : Nat) (ac : Int32) (fc : Int32) (wc : Int32) (dd : Nat → Int32) (hh : Nat → Int32) (yy : Nat → Int32) (n : Nat) (f : Nat → Int32) (a : Nat) (ha : a < 64) : jM l yX2_discIn (jws yX2_discIn cX2_discIn 2 (some .int)) 0 0 0 0 D ay [.ref mm, .int (nI a)] [(mm, .inr (2, [.ref dk, .ref hk, .ref dy, .ref o, .int (nI fr), .int ac, .int fc, .int wc])), (dk, .inl (ay 0, 64, .inl dd)), (hk, .inl (ay 0, 64, .inl hh)), (dy, .inl (ay 1, 16, .inl yy)), (o, .inr (8, [.ref k, .int (nI n)])), (k, .inl (ay 0, 100, .inl f))] (fun v w => v = some (.int (dd a)) ∧ w = [(mm, .inr (2, [.ref dk, .ref hk, .ref dy, .ref o, .int (nI fr), .int ac, .int fc, .int wc])), (dk, .inl (ay 0, 64, .inl dd)), (hk, .inl (ay 0, 64, .inl hh)), (dy, .inl (ay 1, 16, .inl yy)), (o, .inr (8, [.ref k, .int (nI n)])), (k, .inl (ay 0, 100, .inl f))]) := by
  refine jM_of l (by decide) [(0, .ref mm), (1, .int (nI a))] rfl rfl (fun p9 e9 s9 m9 a9 b9 me9 c9 A9 F => ?_)
  refine j_iload_n F 1 dX2_discIn_0 rfl ?_
  refine j_if_lt F 19 dX2_discIn_1 (by decide) (fun c_1 => absurd c_1 (nI_pos (by omega))) (fun c_1 => ?_)
  refine j_iload_n F 1 dX2_discIn_4 rfl ?_
  refine j_bipush F (v := 64) dX2_discIn_5 (by decide) ?_
  refine j_icmp_ge F 19 dX2_discIn_7 (by decide) (fun c_7 => absurd c_7 (nI_ge (b := 64) ha (by decide))) (fun c_7 => ?_)
  refine j_aload_n F 0 dX2_discIn_10 rfl ?_
  refine j_getf F fX2_9 0 rfl rfl dX2_discIn_11 ?_
  refine j_iload_n F 1 dX2_discIn_14 rfl ?_
  refine j_iald F 1 a rfl rfl (by omega) (Nat.le_of_ble_eq_true rfl) dX2_discIn_15 ?_
  refine j_goto F 20 dX2_discIn_16 (by decide) ?_
  exact j_iret F ⟨rfl, rfl⟩ dX2_discIn_20 (Nat.le_of_ble_eq_true rfl) (Nat.le_of_ble_eq_true rfl)

set_option maxHeartbeats 4000000 in
set_option maxRecDepth 100000 in
theorem c_X2_wordIn (l : Launch) (D : va_G) (ay : Nat → ClassId) (mm : Nat) (dk : Nat) (hk : Nat) (dy : Nat) (o : Nat) (k : Nat) (fr : Nat) (ac : Int32) (fc : Int32) (wc : Int32) (dd : Nat → Int32) (hh : Nat → Int32) (yy : Nat → Int32) (n : Nat) (f : Nat → Int32) (a : Nat) (hn : n ≤ 100) (ha : a < 64) : jM l yX2_wordIn (jws yX2_wordIn cX2_wordIn 2 (some .int)) 2 43 0 0 D ay [.ref mm, .int (nI a)] [(mm, .inr (2, [.ref dk, .ref hk, .ref dy, .ref o, .int (nI fr), .int ac, .int fc, .int wc])), (dk, .inl (ay 0, 64, .inl dd)), (hk, .inl (ay 0, 64, .inl hh)), (dy, .inl (ay 1, 16, .inl yy)), (o, .inr (8, [.ref k, .int (nI n)])), (k, .inl (ay 0, 100, .inl f))] (fun v w => v = some (.int (if fx f (nI (a / 4)) n < n then hh a else dd a)) ∧ w = [(mm, .inr (2, [.ref dk, .ref hk, .ref dy, .ref o, .int (nI fr), .int ac, .int fc, .int wc])), (dk, .inl (ay 0, 64, .inl dd)), (hk, .inl (ay 0, 64, .inl hh)), (dy, .inl (ay 1, 16, .inl yy)), (o, .inr (8, [.ref k, .int (nI n)])), (k, .inl (ay 0, 100, .inl f))]) := by
  refine jM_of l (by decide) [(0, .ref mm), (1, .int (nI a))] rfl rfl (fun p9 e9 s9 m9 a9 b9 me9 c9 A9 F => ?_)
  refine j_iload_n F 1 dX2_wordIn_0 rfl ?_
  refine j_if_lt F 10 dX2_wordIn_1 (by decide) (fun c_1 => absurd c_1 (nI_pos (by omega))) (fun c_1 => ?_)
  refine j_iload_n F 1 dX2_wordIn_4 rfl ?_
  refine j_bipush F (v := 64) dX2_wordIn_5 (by decide) ?_
  refine j_icmp_lt F 12 dX2_wordIn_7 (by decide) (fun c_7 => ?_) (fun c_7 => absurd (nI_lt (b := 64) ha (by decide)) c_7)
  refine j_aload_n F 0 dX2_wordIn_12 rfl ?_
  refine j_getf F fX2_25 0 rfl rfl dX2_wordIn_13 ?_
  refine j_iload_n F 1 dX2_wordIn_16 rfl ?_
  refine j_iconst F (v := 4) dX2_wordIn_17 (by decide) ?_
  refine j_idiv F dX2_wordIn_18 (by decide) ?_
  refine j_top (nI (a / 4)) (pk_div (d := 4) (by omega) (by decide) (by decide)) ?_
  refine j_callV F kX2_42 (As := [.int (nI (a / 4))]) (rest := []) (c_X8_holds l D ay o k n f (nI (a / 4)) (by first | assumption | omega)) 4 [4, 5] [0, 1, 2, 3] [(mm, .inr (2, [.ref dk, .ref hk, .ref dy, .ref o, .int (nI fr), .int ac, .int fc, .int wc])), (dk, .inl (ay 0, 64, .inl dd)), (hk, .inl (ay 0, 64, .inl hh)), (dy, .inl (ay 1, 16, .inl yy))] rfl rfl rfl rfl rfl rfl rfl ⟨Nat.le_of_ble_eq_true rfl, Nat.le_of_ble_eq_true rfl⟩ dX2_wordIn_19 (fun v w hw => ?_)
  obtain ⟨rfl, rfl⟩ := hw
  refine j_perm [0, 1, 2, 3, 4, 5] [(mm, .inr (2, [.ref dk, .ref hk, .ref dy, .ref o, .int (nI fr), .int ac, .int fc, .int wc])), (dk, .inl (ay 0, 64, .inl dd)), (hk, .inl (ay 0, 64, .inl hh)), (dy, .inl (ay 1, 16, .inl yy)), (o, .inr (8, [.ref k, .int (nI n)])), (k, .inl (ay 0, 100, .inl f))] rfl rfl ?_
  by_cases hf : fx f (nI (a / 4)) n < n
  · skip
    refine j_top 1 (if_pos hf) ?_
    refine j_if_eq F 34 dX2_wordIn_22 (by decide) (fun c_22 => absurd c_22 (by decide)) (fun c_22 => ?_)
    refine j_aload_n F 0 dX2_wordIn_25 rfl ?_
    refine j_getf F fX2_15 0 rfl rfl dX2_wordIn_26 ?_
    refine j_iload_n F 1 dX2_wordIn_29 rfl ?_
    refine j_iald F 2 a rfl rfl (by omega) (Nat.le_of_ble_eq_true rfl) dX2_wordIn_30 ?_
    refine j_goto F 40 dX2_wordIn_31 (by decide) ?_
    exact j_iret F ⟨by rw [if_pos hf], rfl⟩ dX2_wordIn_40 (Nat.le_of_ble_eq_true rfl) (Nat.le_of_ble_eq_true rfl)
  · skip
    refine j_top 0 (if_neg hf) ?_
    refine j_if_eq F 34 dX2_wordIn_22 (by decide) (fun c_22 => ?_) (fun c_22 => absurd (by decide) c_22)
    refine j_aload_n F 0 dX2_wordIn_34 rfl ?_
    refine j_getf F fX2_9 0 rfl rfl dX2_wordIn_35 ?_
    refine j_iload_n F 1 dX2_wordIn_38 rfl ?_
    refine j_iald F 1 a rfl rfl (by omega) (Nat.le_of_ble_eq_true rfl) dX2_wordIn_39 ?_
    exact j_iret F ⟨by rw [if_neg hf], rfl⟩ dX2_wordIn_40 (Nat.le_of_ble_eq_true rfl) (Nat.le_of_ble_eq_true rfl)

set_option maxHeartbeats 4000000 in
set_option maxRecDepth 100000 in
theorem c_X2_copyPage (l : Launch) (D : va_G) (ay : Nat → ClassId) (p : Nat) (u : Nat) (v1 : Nat) (g : Nat → Int32) (h : Nat → Int32) (hp : p < 16) : jM l yX2_copyPage (jws yX2_copyPage cX2_copyPage 4 none) 0 0 0 0 D ay [.int (nI p), .ref u, .ref v1] [(u, .inl (ay 0, 64, .inl g)), (v1, .inl (ay 0, 64, .inl h))] (fun v w => v = none ∧ w = [(u, .inl (ay 0, 64, .inl g)), (v1, .inl (ay 0, 64, .inl (cpI g h (4 * p) (4 * p + 4))))]) := by
  refine jM_of l (by decide) [(0, .int (nI p)), (1, .ref u), (2, .ref v1)] rfl rfl (fun p9 e9 s9 m9 a9 b9 me9 c9 A9 F => ?_)
  refine j_iload_n F 0 dX2_copyPage_0 rfl ?_
  refine j_if_lt F 10 dX2_copyPage_1 (by decide) (fun c_1 => absurd c_1 (nI_pos (by omega))) (fun c_1 => ?_)
  refine j_iload_n F 0 dX2_copyPage_4 rfl ?_
  refine j_bipush F (v := 16) dX2_copyPage_5 (by decide) ?_
  refine j_icmp_lt F 11 dX2_copyPage_7 (by decide) (fun c_7 => ?_) (fun c_7 => absurd (nI_lt (b := 16) hp (by decide)) c_7)
  refine j_iconst F (v := 4) dX2_copyPage_11 (by decide) ?_
  refine j_iload_n F 0 dX2_copyPage_12 rfl ?_
  refine j_imul F dX2_copyPage_13 ?_
  refine j_top (nI (4 * p)) (pk_mul 4 p) ?_
  refine j_istore_n F 3 [(3, .int (nI (4 * p))), (0, .int (nI p)), (1, .ref u), (2, .ref v1)] dX2_copyPage_14 rfl (by decide) rfl ?_
  refine j_loop (σ := Nat) (fun i => 4 * p ≤ i ∧ i ≤ 4 * p + 4) (fun i => 4 * p + 4 - i) (fun i => [(3, .int (nI i)), (0, .int (nI p)), (1, .ref u), (2, .ref v1)]) (fun i => [(u, .inl (ay 0, 64, .inl g)), (v1, .inl (ay 0, 64, .inl (cpI g h (4 * p) i)))]) (4 * p) ⟨Nat.le_refl _, Nat.le_add_right _ _⟩ rfl (by rw [cpI_0]) (fun i hI ih => ?_)
  obtain ⟨hi, hi2⟩ := hI
  refine j_iload_n F 0 dX2_copyPage_15 rfl ?_
  refine j_iconst F (v := 4) dX2_copyPage_16 (by decide) ?_
  refine j_iload_n F 1 dX2_copyPage_17 rfl ?_
  refine j_iconst F (v := 1) dX2_copyPage_18 (by decide) ?_
  refine j_iadd F dX2_copyPage_19 ?_
  refine j_top (nI (p + 1)) (nI_add _ _) ?_
  refine j_imul F dX2_copyPage_20 ?_
  refine j_top (nI (4 * p + 4)) (by rw [show (4 : Int32) = nI 4 from rfl, pk_mul, show 4 * (p + 1) = 4 * p + 4 by omega]) ?_
  refine j_icmp_ge F 36 dX2_copyPage_21 (by decide) (fun c_21 => ?_) (fun c_21 => ?_)
  · skip
    have n_21 := (n_le (4 * p + 4) i rfl rfl (by omega) (by omega)).mp c_21
    exact j_vret F ⟨rfl, by rw [show i = 4 * p + 4 by omega]⟩ dX2_copyPage_36 (Nat.le_of_ble_eq_true rfl) (Nat.le_of_ble_eq_true rfl)
  · skip
    have n_21 := mt (n_le (4 * p + 4) i rfl rfl (by omega) (by omega)).mpr c_21
    refine j_aload_n F 3 dX2_copyPage_24 rfl ?_
    refine j_iload_n F 0 dX2_copyPage_25 rfl ?_
    refine j_aload_n F 2 dX2_copyPage_26 rfl ?_
    refine j_iload_n F 0 dX2_copyPage_27 rfl ?_
    refine j_iald F 0 i rfl rfl (by omega) (Nat.le_of_ble_eq_true rfl) dX2_copyPage_28 ?_
    refine j_iast F 1 [(u, .inl (ay 0, 64, .inl g)), (v1, .inl (ay 0, 64, .inl (upd (cpI g h (4 * p) i) i (g i))))] i rfl rfl (by omega) (Nat.le_of_ble_eq_true rfl) rfl dX2_copyPage_29 ?_
    refine j_ws [(u, .inl (ay 0, 64, .inl g)), (v1, .inl (ay 0, 64, .inl (cpI g h (4 * p) (i + 1))))] (by rw [cpI_step hi]) ?_
    refine j_iinc F 0 (nI (i + 1)) [(3, .int (nI (i + 1))), (0, .int (nI p)), (1, .ref u), (2, .ref v1)] dX2_copyPage_30 rfl (nI_1 _) (by decide) rfl ?_
    refine j_goto F 15 dX2_copyPage_33 (by decide) ?_
    exact ih (i + 1) ⟨by omega, by omega⟩ (by show 4 * p + 4 - (i + 1) < 4 * p + 4 - i; omega)

set_option maxHeartbeats 4000000 in
set_option maxRecDepth 100000 in
theorem c_X2_writeIfDirty (l : Launch) (D : va_G) (ay : Nat → ClassId) (mm : Nat) (dk : Nat) (hk : Nat) (dy : Nat) (o : Nat) (k : Nat) (fr : Nat) (ac : Int32) (fc : Int32) (wc : Int32) (dd : Nat → Int32) (hh : Nat → Int32) (yy : Nat → Int32) (n : Nat) (f : Nat → Int32) (p : Nat) (hp : p < 16) : jM l yX2_writeIfDirty (jws yX2_writeIfDirty cX2_writeIfDirty 2 none) 1 23 0 0 D ay [.ref mm, .int (nI p)] [(mm, .inr (2, [.ref dk, .ref hk, .ref dy, .ref o, .int (nI fr), .int ac, .int fc, .int wc])), (dk, .inl (ay 0, 64, .inl dd)), (hk, .inl (ay 0, 64, .inl hh)), (dy, .inl (ay 1, 16, .inl yy)), (o, .inr (8, [.ref k, .int (nI n)])), (k, .inl (ay 0, 100, .inl f))] (fun v w => v = none ∧ w = [(mm, .inr (2, [.ref dk, .ref hk, .ref dy, .ref o, .int (nI fr), .int ac, .int fc, .int (if yy p = 0 then wc else wc + 1)])), (dk, .inl (ay 0, 64, .inl (if yy p = 0 then dd else cpI hh dd (4 * p) (4 * p + 4)))), (hk, .inl (ay 0, 64, .inl hh)), (dy, .inl (ay 1, 16, .inl (if yy p = 0 then yy else upd yy p 0))), (o, .inr (8, [.ref k, .int (nI n)])), (k, .inl (ay 0, 100, .inl f))]) := by
  refine jM_of l (by decide) [(0, .ref mm), (1, .int (nI p))] rfl rfl (fun p9 e9 s9 m9 a9 b9 me9 c9 A9 F => ?_)
  refine j_aload_n F 0 dX2_writeIfDirty_0 rfl ?_
  refine j_iload_n F 1 dX2_writeIfDirty_1 rfl ?_
  refine j_callV F kX2_78 (As := [.int (nI p)]) (rest := []) (c_X2_hasChanged l D ay mm dk hk dy o k fr ac fc wc dd hh yy n f p (by first | assumption | omega)) 0 [0, 1, 2, 3, 4, 5] [] [] rfl rfl rfl rfl rfl rfl rfl ⟨Nat.le_of_ble_eq_true rfl, Nat.le_of_ble_eq_true rfl⟩ dX2_writeIfDirty_2 (fun v w hw => ?_)
  obtain ⟨rfl, rfl⟩ := hw
  refine j_perm [0, 1, 2, 3, 4, 5] [(mm, .inr (2, [.ref dk, .ref hk, .ref dy, .ref o, .int (nI fr), .int ac, .int fc, .int wc])), (dk, .inl (ay 0, 64, .inl dd)), (hk, .inl (ay 0, 64, .inl hh)), (dy, .inl (ay 1, 16, .inl yy)), (o, .inr (8, [.ref k, .int (nI n)])), (k, .inl (ay 0, 100, .inl f))] rfl rfl ?_
  by_cases hd : yy p = 0
  · skip
    refine j_top 0 (if_pos hd) ?_
    refine j_if_eq F 37 dX2_writeIfDirty_5 (by decide) (fun c_5 => ?_) (fun c_5 => absurd (by decide) c_5)
    exact j_vret F ⟨rfl, by simp only [if_pos hd]⟩ dX2_writeIfDirty_37 (Nat.le_of_ble_eq_true rfl) (Nat.le_of_ble_eq_true rfl)
  · skip
    refine j_top 1 (if_neg hd) ?_
    refine j_if_eq F 37 dX2_writeIfDirty_5 (by decide) (fun c_5 => absurd c_5 (by decide)) (fun c_5 => ?_)
    refine j_iload_n F 1 dX2_writeIfDirty_8 rfl ?_
    refine j_aload_n F 0 dX2_writeIfDirty_9 rfl ?_
    refine j_getf F fX2_15 0 rfl rfl dX2_writeIfDirty_10 ?_
    refine j_aload_n F 0 dX2_writeIfDirty_13 rfl ?_
    refine j_getf F fX2_9 0 rfl rfl dX2_writeIfDirty_14 ?_
    refine j_callS F kX2_71 (As := [.int (nI p), .ref hk, .ref dk]) (rest := []) (c_X2_copyPage l D ay p hk dk hh dd (by first | assumption | omega)) [2, 1] [0, 3, 4, 5] [(mm, .inr (2, [.ref dk, .ref hk, .ref dy, .ref o, .int (nI fr), .int ac, .int fc, .int wc])), (dy, .inl (ay 1, 16, .inl yy)), (o, .inr (8, [.ref k, .int (nI n)])), (k, .inl (ay 0, 100, .inl f))] rfl rfl rfl rfl rfl rfl ⟨Nat.le_of_ble_eq_true rfl, Nat.le_of_ble_eq_true rfl⟩ dX2_writeIfDirty_17 (fun v w hw => ?_)
    obtain ⟨rfl, rfl⟩ := hw
    refine j_perm [0, 5, 4, 1, 2, 3] [(mm, .inr (2, [.ref dk, .ref hk, .ref dy, .ref o, .int (nI fr), .int ac, .int fc, .int wc])), (dk, .inl (ay 0, 64, .inl (cpI hh dd (4 * p) (4 * p + 4)))), (hk, .inl (ay 0, 64, .inl hh)), (dy, .inl (ay 1, 16, .inl yy)), (o, .inr (8, [.ref k, .int (nI n)])), (k, .inl (ay 0, 100, .inl f))] rfl rfl ?_
    refine j_aload_n F 0 dX2_writeIfDirty_20 rfl ?_
    refine j_getf F fX2_18 0 rfl rfl dX2_writeIfDirty_21 ?_
    refine j_iload_n F 1 dX2_writeIfDirty_24 rfl ?_
    refine j_iconst F (v := 0) dX2_writeIfDirty_25 (by decide) ?_
    refine j_zast F 3 [(mm, .inr (2, [.ref dk, .ref hk, .ref dy, .ref o, .int (nI fr), .int ac, .int fc, .int wc])), (dk, .inl (ay 0, 64, .inl (cpI hh dd (4 * p) (4 * p + 4)))), (hk, .inl (ay 0, 64, .inl hh)), (dy, .inl (ay 1, 16, .inl (upd yy p 0))), (o, .inr (8, [.ref k, .int (nI n)])), (k, .inl (ay 0, 100, .inl f))] p rfl rfl (by omega) (Nat.le_of_ble_eq_true rfl) rfl rfl dX2_writeIfDirty_26 ?_
    refine j_aload_n F 0 dX2_writeIfDirty_27 rfl ?_
    refine j_dup F dX2_writeIfDirty_28 rfl ?_
    refine j_getf F fX2_39 0 rfl rfl dX2_writeIfDirty_29 ?_
    refine j_iconst F (v := 1) dX2_writeIfDirty_32 (by decide) ?_
    refine j_iadd F dX2_writeIfDirty_33 ?_
    refine j_putf F fX2_39 0 [(mm, .inr (2, [.ref dk, .ref hk, .ref dy, .ref o, .int (nI fr), .int ac, .int fc, .int (wc + 1)])), (dk, .inl (ay 0, 64, .inl (cpI hh dd (4 * p) (4 * p + 4)))), (hk, .inl (ay 0, 64, .inl hh)), (dy, .inl (ay 1, 16, .inl (upd yy p 0))), (o, .inr (8, [.ref k, .int (nI n)])), (k, .inl (ay 0, 100, .inl f))] rfl rfl rfl rfl rfl (Nat.le_of_ble_eq_true rfl) dX2_writeIfDirty_34 ?_
    exact j_vret F ⟨rfl, by simp only [if_neg hd]⟩ dX2_writeIfDirty_37 (Nat.le_of_ble_eq_true rfl) (Nat.le_of_ble_eq_true rfl)

set_option maxHeartbeats 4000000 in
set_option maxRecDepth 100000 in
theorem c_X2_writeIfDirty_none (l : Launch) (D : va_G) (ay : Nat → ClassId) (mm : Nat) (dk : Nat) (hk : Nat) (dy : Nat) (o : Nat) (k : Nat) (fr : Nat) (ac : Int32) (fc : Int32) (wc : Int32) (dd : Nat → Int32) (hh : Nat → Int32) (yy : Nat → Int32) (n : Nat) (f : Nat → Int32) : jM l yX2_writeIfDirty (jws yX2_writeIfDirty cX2_writeIfDirty 2 none) 1 23 0 0 D ay [.ref mm, .int (-1)] [(mm, .inr (2, [.ref dk, .ref hk, .ref dy, .ref o, .int (nI fr), .int ac, .int fc, .int wc])), (dk, .inl (ay 0, 64, .inl dd)), (hk, .inl (ay 0, 64, .inl hh)), (dy, .inl (ay 1, 16, .inl yy)), (o, .inr (8, [.ref k, .int (nI n)])), (k, .inl (ay 0, 100, .inl f))] (fun v w => v = none ∧ w = [(mm, .inr (2, [.ref dk, .ref hk, .ref dy, .ref o, .int (nI fr), .int ac, .int fc, .int wc])), (dk, .inl (ay 0, 64, .inl dd)), (hk, .inl (ay 0, 64, .inl hh)), (dy, .inl (ay 1, 16, .inl yy)), (o, .inr (8, [.ref k, .int (nI n)])), (k, .inl (ay 0, 100, .inl f))]) := by
  refine jM_of l (by decide) [(0, .ref mm), (1, .int (-1))] rfl rfl (fun p9 e9 s9 m9 a9 b9 me9 c9 A9 F => ?_)
  refine j_aload_n F 0 dX2_writeIfDirty_0 rfl ?_
  refine j_iload_n F 1 dX2_writeIfDirty_1 rfl ?_
  refine j_callV F kX2_78 (As := [.int (-1)]) (rest := []) (c_X2_hasChanged_none l D ay mm dk hk dy o k fr ac fc wc dd hh yy n f) 0 [0, 1, 2, 3, 4, 5] [] [] rfl rfl rfl rfl rfl rfl rfl ⟨Nat.le_of_ble_eq_true rfl, Nat.le_of_ble_eq_true rfl⟩ dX2_writeIfDirty_2 (fun v w hw => ?_)
  obtain ⟨rfl, rfl⟩ := hw
  refine j_perm [0, 1, 2, 3, 4, 5] [(mm, .inr (2, [.ref dk, .ref hk, .ref dy, .ref o, .int (nI fr), .int ac, .int fc, .int wc])), (dk, .inl (ay 0, 64, .inl dd)), (hk, .inl (ay 0, 64, .inl hh)), (dy, .inl (ay 1, 16, .inl yy)), (o, .inr (8, [.ref k, .int (nI n)])), (k, .inl (ay 0, 100, .inl f))] rfl rfl ?_
  refine j_if_eq F 37 dX2_writeIfDirty_5 (by decide) (fun c_5 => ?_) (fun c_5 => absurd (by decide) c_5)
  exact j_vret F ⟨rfl, rfl⟩ dX2_writeIfDirty_37 (Nat.le_of_ble_eq_true rfl) (Nat.le_of_ble_eq_true rfl)

set_option maxHeartbeats 4000000 in
set_option maxRecDepth 100000 in
theorem c_X2_writeAll (l : Launch) (D : va_G) (ay : Nat → ClassId) (mm : Nat) (dk : Nat) (hk : Nat) (dy : Nat) (o : Nat) (k : Nat) (fr : Nat) (ac : Int32) (fc : Int32) (wc : Int32) (dd : Nat → Int32) (hh : Nat → Int32) (yy : Nat → Int32) (n : Nat) (f : Nat → Int32) : jM l yX2_writeAll (jws yX2_writeAll cX2_writeAll 3 (some .int)) 2 44 0 0 D ay [.ref mm] [(mm, .inr (2, [.ref dk, .ref hk, .ref dy, .ref o, .int (nI fr), .int ac, .int fc, .int wc])), (dk, .inl (ay 0, 64, .inl dd)), (hk, .inl (ay 0, 64, .inl hh)), (dy, .inl (ay 1, 16, .inl yy)), (o, .inr (8, [.ref k, .int (nI n)])), (k, .inl (ay 0, 100, .inl f))] (fun v w => v = some (.int (nI (wC yy 16))) ∧ w = [(mm, .inr (2, [.ref dk, .ref hk, .ref dy, .ref o, .int (nI fr), .int ac, .int fc, .int (wc + nI (wC yy 16))])), (dk, .inl (ay 0, 64, .inl (wD hh dd yy 16))), (hk, .inl (ay 0, 64, .inl hh)), (dy, .inl (ay 1, 16, .inl (wY yy 16))), (o, .inr (8, [.ref k, .int (nI n)])), (k, .inl (ay 0, 100, .inl f))]) := by
  refine jM_of l (by decide) [(0, .ref mm)] rfl rfl (fun p9 e9 s9 m9 a9 b9 me9 c9 A9 F => ?_)
  refine j_aload_n F 0 dX2_writeAll_0 rfl ?_
  refine j_getf F fX2_39 0 rfl rfl dX2_writeAll_1 ?_
  refine j_istore_n F 1 [(1, .int wc), (0, .ref mm)] dX2_writeAll_4 rfl (by decide) rfl ?_
  refine j_iconst F (v := 0) dX2_writeAll_5 (by decide) ?_
  refine j_istore_n F 2 [(2, .int 0), (1, .int wc), (0, .ref mm)] dX2_writeAll_6 rfl (by decide) rfl ?_
  refine j_loop (σ := Nat) (fun i => i ≤ 16) (fun i => 16 - i) (fun i => [(2, .int (nI i)), (1, .int wc), (0, .ref mm)]) (fun i => [(mm, .inr (2, [.ref dk, .ref hk, .ref dy, .ref o, .int (nI fr), .int ac, .int fc, .int (wc + nI (wC yy i))])), (dk, .inl (ay 0, 64, .inl (wD hh dd yy i))), (hk, .inl (ay 0, 64, .inl hh)), (dy, .inl (ay 1, 16, .inl (wY yy i))), (o, .inr (8, [.ref k, .int (nI n)])), (k, .inl (ay 0, 100, .inl f))]) 0 (Nat.zero_le _) rfl (by rw [wD_0, wY_0, show wc + nI (wC yy 0) = wc from Int32.add_zero wc]) (fun i hi ih => ?_)
  refine j_iload_n F 0 dX2_writeAll_7 rfl ?_
  refine j_bipush F (v := 16) dX2_writeAll_8 (by decide) ?_
  refine j_icmp_ge F 24 dX2_writeAll_10 (by decide) (fun c_10 => ?_) (fun c_10 => ?_)
  · skip
    have n_10 := (n_le 16 i rfl rfl (by omega) (by omega)).mp c_10
    refine j_aload_n F 2 dX2_writeAll_24 rfl ?_
    refine j_getf F fX2_39 0 rfl rfl dX2_writeAll_25 ?_
    refine j_iload_n F 1 dX2_writeAll_28 rfl ?_
    refine j_isub F dX2_writeAll_29 ?_
    refine j_top (nI (wC yy i)) (i32_sub _ _) ?_
    exact j_iret F ⟨by rw [show i = 16 by omega], by rw [show i = 16 by omega]⟩ dX2_writeAll_30 (Nat.le_of_ble_eq_true rfl) (Nat.le_of_ble_eq_true rfl)
  · skip
    have n_10 := mt (n_le 16 i rfl rfl (by omega) (by omega)).mpr c_10
    refine j_aload_n F 2 dX2_writeAll_13 rfl ?_
    refine j_iload_n F 0 dX2_writeAll_14 rfl ?_
    refine j_callV F kX2_65 (As := [.int (nI i)]) (rest := []) (c_X2_writeIfDirty l D ay mm dk hk dy o k fr ac fc (wc + nI (wC yy i)) (wD hh dd yy i) hh (wY yy i) n f i (by first | assumption | omega)) 0 [0, 1, 2, 3, 4, 5] [] [] rfl rfl rfl rfl rfl rfl rfl ⟨Nat.le_of_ble_eq_true rfl, Nat.le_of_ble_eq_true rfl⟩ dX2_writeAll_15 (fun v w hw => ?_)
    obtain ⟨rfl, rfl⟩ := hw
    refine j_perm [0, 1, 2, 3, 4, 5] [(mm, .inr (2, [.ref dk, .ref hk, .ref dy, .ref o, .int (nI fr), .int ac, .int fc, .int (if (wY yy i) i = 0 then (wc + nI (wC yy i)) else (wc + nI (wC yy i)) + 1)])), (dk, .inl (ay 0, 64, .inl (if (wY yy i) i = 0 then (wD hh dd yy i) else cpI hh (wD hh dd yy i) (4 * i) (4 * i + 4)))), (hk, .inl (ay 0, 64, .inl hh)), (dy, .inl (ay 1, 16, .inl (if (wY yy i) i = 0 then (wY yy i) else upd (wY yy i) i 0))), (o, .inr (8, [.ref k, .int (nI n)])), (k, .inl (ay 0, 100, .inl f))] rfl rfl ?_
    refine j_iinc F 0 (nI (i + 1)) [(2, .int (nI (i + 1))), (1, .int wc), (0, .ref mm)] dX2_writeAll_18 rfl (nI_1 _) (by decide) rfl ?_
    refine j_goto F 7 dX2_writeAll_21 (by decide) ?_
    rw [wD_s, wY_s, wC_s]
    exact ih (i + 1) (by omega) (by show 16 - (i + 1) < 16 - i; omega)

set_option maxHeartbeats 4000000 in
set_option maxRecDepth 100000 in
theorem c_X2_changeFrames (l : Launch) (D : va_G) (ay : Nat → ClassId) (mm : Nat) (dk : Nat) (hk : Nat) (dy : Nat) (o : Nat) (k : Nat) (fr : Nat) (ac : Int32) (fc : Int32) (wc : Int32) (dd : Nat → Int32) (hh : Nat → Int32) (yy : Nat → Int32) (n : Nat) (f : Nat → Int32) (x : Int32) : jM l yX2_changeFrames (jws yX2_changeFrames cX2_changeFrames 3 (some .int)) 3 66 0 0 D ay [.ref mm, .int x] [(mm, .inr (2, [.ref dk, .ref hk, .ref dy, .ref o, .int (nI fr), .int ac, .int fc, .int wc])), (dk, .inl (ay 0, 64, .inl dd)), (hk, .inl (ay 0, 64, .inl hh)), (dy, .inl (ay 1, 16, .inl yy)), (o, .inr (8, [.ref k, .int (nI n)])), (k, .inl (ay 0, 100, .inl f))] (fun v w => v = some (.int (nI (wC yy 16))) ∧ w = [(mm, .inr (2, [.ref dk, .ref hk, .ref dy, .ref o, .int x, .int ac, .int fc, .int (wc + nI (wC yy 16))])), (dk, .inl (ay 0, 64, .inl (wD hh dd yy 16))), (hk, .inl (ay 0, 64, .inl hh)), (dy, .inl (ay 1, 16, .inl (wY yy 16))), (o, .inr (8, [.ref k, .int (nI 0)])), (k, .inl (ay 0, 100, .inl f))]) := by
  refine jM_of l (by decide) [(0, .ref mm), (1, .int x)] rfl rfl (fun p9 e9 s9 m9 a9 b9 me9 c9 A9 F => ?_)
  refine j_aload_n F 0 dX2_changeFrames_0 rfl ?_
  refine j_callV F kX2_58 (As := []) (rest := []) (c_X2_writeAll l D ay mm dk hk dy o k fr ac fc wc dd hh yy n f) 0 [0, 1, 2, 3, 4, 5] [] [] rfl rfl rfl rfl rfl rfl rfl ⟨Nat.le_of_ble_eq_true rfl, Nat.le_of_ble_eq_true rfl⟩ dX2_changeFrames_1 (fun v w hw => ?_)
  obtain ⟨rfl, rfl⟩ := hw
  refine j_perm [0, 1, 2, 3, 4, 5] [(mm, .inr (2, [.ref dk, .ref hk, .ref dy, .ref o, .int (nI fr), .int ac, .int fc, .int (wc + nI (wC yy 16))])), (dk, .inl (ay 0, 64, .inl (wD hh dd yy 16))), (hk, .inl (ay 0, 64, .inl hh)), (dy, .inl (ay 1, 16, .inl (wY yy 16))), (o, .inr (8, [.ref k, .int (nI n)])), (k, .inl (ay 0, 100, .inl f))] rfl rfl ?_
  refine j_istore_n F 2 [(2, .int (nI (wC yy 16))), (0, .ref mm), (1, .int x)] dX2_changeFrames_4 rfl (by decide) rfl ?_
  refine j_aload_n F 1 dX2_changeFrames_5 rfl ?_
  refine j_getf F fX2_25 0 rfl rfl dX2_changeFrames_6 ?_
  refine j_callV F kX2_62 (As := []) (rest := []) (c_X8_dropAll l D ay o k n f) 4 [4, 5] [0, 1, 2, 3] [(mm, .inr (2, [.ref dk, .ref hk, .ref dy, .ref o, .int (nI fr), .int ac, .int fc, .int (wc + nI (wC yy 16))])), (dk, .inl (ay 0, 64, .inl (wD hh dd yy 16))), (hk, .inl (ay 0, 64, .inl hh)), (dy, .inl (ay 1, 16, .inl (wY yy 16)))] rfl rfl rfl rfl rfl rfl rfl ⟨Nat.le_of_ble_eq_true rfl, Nat.le_of_ble_eq_true rfl⟩ dX2_changeFrames_9 (fun v w hw => ?_)
  obtain ⟨rfl, rfl⟩ := hw
  refine j_perm [0, 1, 2, 3, 4, 5] [(mm, .inr (2, [.ref dk, .ref hk, .ref dy, .ref o, .int (nI fr), .int ac, .int fc, .int (wc + nI (wC yy 16))])), (dk, .inl (ay 0, 64, .inl (wD hh dd yy 16))), (hk, .inl (ay 0, 64, .inl hh)), (dy, .inl (ay 1, 16, .inl (wY yy 16))), (o, .inr (8, [.ref k, .int (nI 0)])), (k, .inl (ay 0, 100, .inl f))] rfl rfl ?_
  refine j_aload_n F 1 dX2_changeFrames_12 rfl ?_
  refine j_iload_n F 2 dX2_changeFrames_13 rfl ?_
  refine j_putf F fX2_29 0 [(mm, .inr (2, [.ref dk, .ref hk, .ref dy, .ref o, .int x, .int ac, .int fc, .int (wc + nI (wC yy 16))])), (dk, .inl (ay 0, 64, .inl (wD hh dd yy 16))), (hk, .inl (ay 0, 64, .inl hh)), (dy, .inl (ay 1, 16, .inl (wY yy 16))), (o, .inr (8, [.ref k, .int (nI 0)])), (k, .inl (ay 0, 100, .inl f))] rfl rfl rfl rfl rfl (Nat.le_of_ble_eq_true rfl) dX2_changeFrames_14 ?_
  refine j_iload_n F 0 dX2_changeFrames_17 rfl ?_
  exact j_iret F ⟨rfl, rfl⟩ dX2_changeFrames_18 (Nat.le_of_ble_eq_true rfl) (Nat.le_of_ble_eq_true rfl)

set_option maxHeartbeats 4000000 in
set_option maxRecDepth 100000 in
theorem c_X2_access (l : Launch) (D : va_G) (ay : Nat → ClassId) (mm : Nat) (dk : Nat) (hk : Nat) (dy : Nat) (o : Nat) (k : Nat) (fr : Nat) (ac : Int32) (fc : Int32) (wc : Int32) (dd : Nat → Int32) (hh : Nat → Int32) (yy : Nat → Int32) (n : Nat) (f : Nat → Int32) (p : Nat) (v1 : Nat) (hn : n ≤ 100) (hq : fx f (nI p) n < n ∨ n < 100) (hp : p < 16) (hf : fr < 100) (hv : ¬ usN f n (nI p) ≤ fr → usF f n (nI p) 0 = nI v1 ∧ v1 < 16) : jM l yX2_access (jws yX2_access cX2_access 2 none) 2 44 0 0 D ay [.ref mm, .int (nI p)] [(mm, .inr (2, [.ref dk, .ref hk, .ref dy, .ref o, .int (nI fr), .int ac, .int fc, .int wc])), (dk, .inl (ay 0, 64, .inl dd)), (hk, .inl (ay 0, 64, .inl hh)), (dy, .inl (ay 1, 16, .inl yy)), (o, .inr (8, [.ref k, .int (nI n)])), (k, .inl (ay 0, 100, .inl f))] (fun v w => v = none ∧ w = [(mm, .inr (2, [.ref dk, .ref hk, .ref dy, .ref o, .int (nI fr), .int ac, .int (if fx f (nI p) n < n then fc else fc + 1), .int (if usN f n (nI p) ≤ fr ∨ yy v1 = 0 then wc else wc + 1)])), (dk, .inl (ay 0, 64, .inl (if usN f n (nI p) ≤ fr ∨ yy v1 = 0 then dd else cpI (acH dd hh f n p) dd (4 * v1) (4 * v1 + 4)))), (hk, .inl (ay 0, 64, .inl (acH dd hh f n p))), (dy, .inl (ay 1, 16, .inl (if usN f n (nI p) ≤ fr ∨ yy v1 = 0 then yy else upd yy v1 0))), (o, .inr (8, [.ref k, .int (nI (stN f n (nI p) fr))])), (k, .inl (ay 0, 100, .inl (stF f n (nI p) fr)))]) := by
  refine jM_of l (by decide) [(0, .ref mm), (1, .int (nI p))] rfl rfl (fun p9 e9 s9 m9 a9 b9 me9 c9 A9 F => ?_)
  refine j_aload_n F 0 dX2_access_0 rfl ?_
  refine j_getf F fX2_25 0 rfl rfl dX2_access_1 ?_
  refine j_iload_n F 1 dX2_access_4 rfl ?_
  refine j_callV F kX2_68 (As := [.int (nI p)]) (rest := []) (c_X8_use l D ay o k n f (nI p) hn hq) 4 [4, 5] [0, 1, 2, 3] [(mm, .inr (2, [.ref dk, .ref hk, .ref dy, .ref o, .int (nI fr), .int ac, .int fc, .int wc])), (dk, .inl (ay 0, 64, .inl dd)), (hk, .inl (ay 0, 64, .inl hh)), (dy, .inl (ay 1, 16, .inl yy))] rfl rfl rfl rfl rfl rfl rfl ⟨Nat.le_of_ble_eq_true rfl, Nat.le_of_ble_eq_true rfl⟩ dX2_access_5 (fun v w hw => ?_)
  obtain ⟨rfl, rfl⟩ := hw
  refine j_perm [0, 1, 2, 3, 4, 5] [(mm, .inr (2, [.ref dk, .ref hk, .ref dy, .ref o, .int (nI fr), .int ac, .int fc, .int wc])), (dk, .inl (ay 0, 64, .inl dd)), (hk, .inl (ay 0, 64, .inl hh)), (dy, .inl (ay 1, 16, .inl yy)), (o, .inr (8, [.ref k, .int (nI (usN f n (nI p)))])), (k, .inl (ay 0, 100, .inl (usF f n (nI p))))] rfl rfl ?_
  by_cases hf2 : fx f (nI p) n < n
  · skip
    refine j_top 1 (if_pos hf2) ?_
    refine j_if_ne F 33 dX2_access_8 (by decide) (fun c_8 => ?_) (fun c_8 => absurd c_8 (by decide))
    refine j_aload_n F 0 dX2_access_33 rfl ?_
    refine j_aload_n F 0 dX2_access_34 rfl ?_
    refine j_getf F fX2_25 0 rfl rfl dX2_access_35 ?_
    refine j_aload_n F 0 dX2_access_38 rfl ?_
    refine j_getf F fX2_29 0 rfl rfl dX2_access_39 ?_
    refine j_callV F kX2_75 (As := [.int (nI fr)]) (rest := [.ref mm]) (c_X8_dropBeyond l D ay o k (usN f n (nI p)) (usF f n (nI p)) fr (usN_le hn hq) (by omega)) 4 [4, 5] [0, 1, 2, 3] [(mm, .inr (2, [.ref dk, .ref hk, .ref dy, .ref o, .int (nI fr), .int ac, .int fc, .int wc])), (dk, .inl (ay 0, 64, .inl dd)), (hk, .inl (ay 0, 64, .inl hh)), (dy, .inl (ay 1, 16, .inl yy))] rfl rfl rfl rfl rfl rfl rfl ⟨Nat.le_of_ble_eq_true rfl, Nat.le_of_ble_eq_true rfl⟩ dX2_access_42 (fun v w hw => ?_)
    obtain ⟨rfl, rfl⟩ := hw
    refine j_perm [0, 1, 2, 3, 4, 5] [(mm, .inr (2, [.ref dk, .ref hk, .ref dy, .ref o, .int (nI fr), .int ac, .int fc, .int wc])), (dk, .inl (ay 0, 64, .inl dd)), (hk, .inl (ay 0, 64, .inl hh)), (dy, .inl (ay 1, 16, .inl yy)), (o, .inr (8, [.ref k, .int (nI (if (usN f n (nI p)) ≤ fr then (usN f n (nI p)) else (usN f n (nI p)) - 1))])), (k, .inl (ay 0, 100, .inl (if (usN f n (nI p)) ≤ fr then (usF f n (nI p)) else shf (usF f n (nI p)) 0 (usN f n (nI p)))))] rfl rfl ?_
    by_cases hle : usN f n (nI p) ≤ fr
    · skip
      refine j_top (-1) (if_pos hle) ?_
      refine j_callV F kX2_65 (As := [.int (-1)]) (rest := []) (c_X2_writeIfDirty_none l D ay mm dk hk dy o k fr ac fc wc dd hh yy (if (usN f n (nI p)) ≤ fr then (usN f n (nI p)) else (usN f n (nI p)) - 1) (if (usN f n (nI p)) ≤ fr then (usF f n (nI p)) else shf (usF f n (nI p)) 0 (usN f n (nI p)))) 0 [0, 1, 2, 3, 4, 5] [] [] rfl rfl rfl rfl rfl rfl rfl ⟨Nat.le_of_ble_eq_true rfl, Nat.le_of_ble_eq_true rfl⟩ dX2_access_45 (fun v w hw => ?_)
      obtain ⟨rfl, rfl⟩ := hw
      refine j_perm [0, 1, 2, 3, 4, 5] [(mm, .inr (2, [.ref dk, .ref hk, .ref dy, .ref o, .int (nI fr), .int ac, .int fc, .int wc])), (dk, .inl (ay 0, 64, .inl dd)), (hk, .inl (ay 0, 64, .inl hh)), (dy, .inl (ay 1, 16, .inl yy)), (o, .inr (8, [.ref k, .int (nI (if (usN f n (nI p)) ≤ fr then (usN f n (nI p)) else (usN f n (nI p)) - 1))])), (k, .inl (ay 0, 100, .inl (if (usN f n (nI p)) ≤ fr then (usF f n (nI p)) else shf (usF f n (nI p)) 0 (usN f n (nI p)))))] rfl rfl ?_
      exact j_vret F ⟨rfl, by simp only [acH, stN, stF, if_pos hf2, if_pos hle, if_pos (show usN f n (nI p) ≤ fr ∨ yy v1 = 0 from Or.inl hle)]⟩ dX2_access_48 (Nat.le_of_ble_eq_true rfl) (Nat.le_of_ble_eq_true rfl)
    · skip
      refine j_top (nI v1) ((if_neg hle).trans (hv hle).1) ?_
      refine j_callV F kX2_65 (As := [.int (nI v1)]) (rest := []) (c_X2_writeIfDirty l D ay mm dk hk dy o k fr ac fc wc dd hh yy (if (usN f n (nI p)) ≤ fr then (usN f n (nI p)) else (usN f n (nI p)) - 1) (if (usN f n (nI p)) ≤ fr then (usF f n (nI p)) else shf (usF f n (nI p)) 0 (usN f n (nI p))) v1 (hv hle).2) 0 [0, 1, 2, 3, 4, 5] [] [] rfl rfl rfl rfl rfl rfl rfl ⟨Nat.le_of_ble_eq_true rfl, Nat.le_of_ble_eq_true rfl⟩ dX2_access_45 (fun v w hw => ?_)
      obtain ⟨rfl, rfl⟩ := hw
      refine j_perm [0, 1, 2, 3, 4, 5] [(mm, .inr (2, [.ref dk, .ref hk, .ref dy, .ref o, .int (nI fr), .int ac, .int fc, .int (if yy v1 = 0 then wc else wc + 1)])), (dk, .inl (ay 0, 64, .inl (if yy v1 = 0 then dd else cpI hh dd (4 * v1) (4 * v1 + 4)))), (hk, .inl (ay 0, 64, .inl hh)), (dy, .inl (ay 1, 16, .inl (if yy v1 = 0 then yy else upd yy v1 0))), (o, .inr (8, [.ref k, .int (nI (if (usN f n (nI p)) ≤ fr then (usN f n (nI p)) else (usN f n (nI p)) - 1))])), (k, .inl (ay 0, 100, .inl (if (usN f n (nI p)) ≤ fr then (usF f n (nI p)) else shf (usF f n (nI p)) 0 (usN f n (nI p)))))] rfl rfl ?_
      exact j_vret F ⟨rfl, by simp only [acH, stN, stF, if_pos hf2, if_neg hle, show (usN f n (nI p) ≤ fr ∨ yy v1 = 0) = (yy v1 = 0) from propext ⟨fun z => z.resolve_left hle, Or.inr⟩]⟩ dX2_access_48 (Nat.le_of_ble_eq_true rfl) (Nat.le_of_ble_eq_true rfl)
  · skip
    refine j_top 0 (if_neg hf2) ?_
    refine j_if_ne F 33 dX2_access_8 (by decide) (fun c_8 => absurd (by decide) c_8) (fun c_8 => ?_)
    refine j_aload_n F 0 dX2_access_11 rfl ?_
    refine j_dup F dX2_access_12 rfl ?_
    refine j_getf F fX2_36 0 rfl rfl dX2_access_13 ?_
    refine j_iconst F (v := 1) dX2_access_16 (by decide) ?_
    refine j_iadd F dX2_access_17 ?_
    refine j_putf F fX2_36 0 [(mm, .inr (2, [.ref dk, .ref hk, .ref dy, .ref o, .int (nI fr), .int ac, .int (fc + 1), .int wc])), (dk, .inl (ay 0, 64, .inl dd)), (hk, .inl (ay 0, 64, .inl hh)), (dy, .inl (ay 1, 16, .inl yy)), (o, .inr (8, [.ref k, .int (nI (usN f n (nI p)))])), (k, .inl (ay 0, 100, .inl (usF f n (nI p))))] rfl rfl rfl rfl rfl (Nat.le_of_ble_eq_true rfl) dX2_access_18 ?_
    refine j_iload_n F 1 dX2_access_21 rfl ?_
    refine j_aload_n F 0 dX2_access_22 rfl ?_
    refine j_getf F fX2_9 0 rfl rfl dX2_access_23 ?_
    refine j_aload_n F 0 dX2_access_26 rfl ?_
    refine j_getf F fX2_15 0 rfl rfl dX2_access_27 ?_
    refine j_callS F kX2_71 (As := [.int (nI p), .ref dk, .ref hk]) (rest := []) (c_X2_copyPage l D ay p dk hk dd hh (by first | assumption | omega)) [1, 2] [0, 3, 4, 5] [(mm, .inr (2, [.ref dk, .ref hk, .ref dy, .ref o, .int (nI fr), .int ac, .int (fc + 1), .int wc])), (dy, .inl (ay 1, 16, .inl yy)), (o, .inr (8, [.ref k, .int (nI (usN f n (nI p)))])), (k, .inl (ay 0, 100, .inl (usF f n (nI p))))] rfl rfl rfl rfl rfl rfl ⟨Nat.le_of_ble_eq_true rfl, Nat.le_of_ble_eq_true rfl⟩ dX2_access_30 (fun v w hw => ?_)
    obtain ⟨rfl, rfl⟩ := hw
    refine j_perm [0, 4, 5, 1, 2, 3] [(mm, .inr (2, [.ref dk, .ref hk, .ref dy, .ref o, .int (nI fr), .int ac, .int (fc + 1), .int wc])), (dk, .inl (ay 0, 64, .inl dd)), (hk, .inl (ay 0, 64, .inl (cpI dd hh (4 * p) (4 * p + 4)))), (dy, .inl (ay 1, 16, .inl yy)), (o, .inr (8, [.ref k, .int (nI (usN f n (nI p)))])), (k, .inl (ay 0, 100, .inl (usF f n (nI p))))] rfl rfl ?_
    refine j_aload_n F 0 dX2_access_33 rfl ?_
    refine j_aload_n F 0 dX2_access_34 rfl ?_
    refine j_getf F fX2_25 0 rfl rfl dX2_access_35 ?_
    refine j_aload_n F 0 dX2_access_38 rfl ?_
    refine j_getf F fX2_29 0 rfl rfl dX2_access_39 ?_
    refine j_callV F kX2_75 (As := [.int (nI fr)]) (rest := [.ref mm]) (c_X8_dropBeyond l D ay o k (usN f n (nI p)) (usF f n (nI p)) fr (usN_le hn hq) (by omega)) 4 [4, 5] [0, 1, 2, 3] [(mm, .inr (2, [.ref dk, .ref hk, .ref dy, .ref o, .int (nI fr), .int ac, .int (fc + 1), .int wc])), (dk, .inl (ay 0, 64, .inl dd)), (hk, .inl (ay 0, 64, .inl (cpI dd hh (4 * p) (4 * p + 4)))), (dy, .inl (ay 1, 16, .inl yy))] rfl rfl rfl rfl rfl rfl rfl ⟨Nat.le_of_ble_eq_true rfl, Nat.le_of_ble_eq_true rfl⟩ dX2_access_42 (fun v w hw => ?_)
    obtain ⟨rfl, rfl⟩ := hw
    refine j_perm [0, 1, 2, 3, 4, 5] [(mm, .inr (2, [.ref dk, .ref hk, .ref dy, .ref o, .int (nI fr), .int ac, .int (fc + 1), .int wc])), (dk, .inl (ay 0, 64, .inl dd)), (hk, .inl (ay 0, 64, .inl (cpI dd hh (4 * p) (4 * p + 4)))), (dy, .inl (ay 1, 16, .inl yy)), (o, .inr (8, [.ref k, .int (nI (if (usN f n (nI p)) ≤ fr then (usN f n (nI p)) else (usN f n (nI p)) - 1))])), (k, .inl (ay 0, 100, .inl (if (usN f n (nI p)) ≤ fr then (usF f n (nI p)) else shf (usF f n (nI p)) 0 (usN f n (nI p)))))] rfl rfl ?_
    by_cases hle : usN f n (nI p) ≤ fr
    · skip
      refine j_top (-1) (if_pos hle) ?_
      refine j_callV F kX2_65 (As := [.int (-1)]) (rest := []) (c_X2_writeIfDirty_none l D ay mm dk hk dy o k fr ac (fc + 1) wc dd (cpI dd hh (4 * p) (4 * p + 4)) yy (if (usN f n (nI p)) ≤ fr then (usN f n (nI p)) else (usN f n (nI p)) - 1) (if (usN f n (nI p)) ≤ fr then (usF f n (nI p)) else shf (usF f n (nI p)) 0 (usN f n (nI p)))) 0 [0, 1, 2, 3, 4, 5] [] [] rfl rfl rfl rfl rfl rfl rfl ⟨Nat.le_of_ble_eq_true rfl, Nat.le_of_ble_eq_true rfl⟩ dX2_access_45 (fun v w hw => ?_)
      obtain ⟨rfl, rfl⟩ := hw
      refine j_perm [0, 1, 2, 3, 4, 5] [(mm, .inr (2, [.ref dk, .ref hk, .ref dy, .ref o, .int (nI fr), .int ac, .int (fc + 1), .int wc])), (dk, .inl (ay 0, 64, .inl dd)), (hk, .inl (ay 0, 64, .inl (cpI dd hh (4 * p) (4 * p + 4)))), (dy, .inl (ay 1, 16, .inl yy)), (o, .inr (8, [.ref k, .int (nI (if (usN f n (nI p)) ≤ fr then (usN f n (nI p)) else (usN f n (nI p)) - 1))])), (k, .inl (ay 0, 100, .inl (if (usN f n (nI p)) ≤ fr then (usF f n (nI p)) else shf (usF f n (nI p)) 0 (usN f n (nI p)))))] rfl rfl ?_
      exact j_vret F ⟨rfl, by simp only [acH, stN, stF, if_neg hf2, if_pos hle, if_pos (show usN f n (nI p) ≤ fr ∨ yy v1 = 0 from Or.inl hle)]⟩ dX2_access_48 (Nat.le_of_ble_eq_true rfl) (Nat.le_of_ble_eq_true rfl)
    · skip
      refine j_top (nI v1) ((if_neg hle).trans (hv hle).1) ?_
      refine j_callV F kX2_65 (As := [.int (nI v1)]) (rest := []) (c_X2_writeIfDirty l D ay mm dk hk dy o k fr ac (fc + 1) wc dd (cpI dd hh (4 * p) (4 * p + 4)) yy (if (usN f n (nI p)) ≤ fr then (usN f n (nI p)) else (usN f n (nI p)) - 1) (if (usN f n (nI p)) ≤ fr then (usF f n (nI p)) else shf (usF f n (nI p)) 0 (usN f n (nI p))) v1 (hv hle).2) 0 [0, 1, 2, 3, 4, 5] [] [] rfl rfl rfl rfl rfl rfl rfl ⟨Nat.le_of_ble_eq_true rfl, Nat.le_of_ble_eq_true rfl⟩ dX2_access_45 (fun v w hw => ?_)
      obtain ⟨rfl, rfl⟩ := hw
      refine j_perm [0, 1, 2, 3, 4, 5] [(mm, .inr (2, [.ref dk, .ref hk, .ref dy, .ref o, .int (nI fr), .int ac, .int (fc + 1), .int (if yy v1 = 0 then wc else wc + 1)])), (dk, .inl (ay 0, 64, .inl (if yy v1 = 0 then dd else cpI (cpI dd hh (4 * p) (4 * p + 4)) dd (4 * v1) (4 * v1 + 4)))), (hk, .inl (ay 0, 64, .inl (cpI dd hh (4 * p) (4 * p + 4)))), (dy, .inl (ay 1, 16, .inl (if yy v1 = 0 then yy else upd yy v1 0))), (o, .inr (8, [.ref k, .int (nI (if (usN f n (nI p)) ≤ fr then (usN f n (nI p)) else (usN f n (nI p)) - 1))])), (k, .inl (ay 0, 100, .inl (if (usN f n (nI p)) ≤ fr then (usF f n (nI p)) else shf (usF f n (nI p)) 0 (usN f n (nI p)))))] rfl rfl ?_
      exact j_vret F ⟨rfl, by simp only [acH, stN, stF, if_neg hf2, if_neg hle, show (usN f n (nI p) ≤ fr ∨ yy v1 = 0) = (yy v1 = 0) from propext ⟨fun z => z.resolve_left hle, Or.inr⟩]⟩ dX2_access_48 (Nat.le_of_ble_eq_true rfl) (Nat.le_of_ble_eq_true rfl)

set_option maxHeartbeats 4000000 in
set_option maxRecDepth 100000 in
theorem c_X2_storeWord (l : Launch) (D : va_G) (ay : Nat → ClassId) (mm : Nat) (dk : Nat) (hk : Nat) (dy : Nat) (o : Nat) (k : Nat) (fr : Nat) (ac : Int32) (fc : Int32) (wc : Int32) (dd : Nat → Int32) (hh : Nat → Int32) (yy : Nat → Int32) (n : Nat) (f : Nat → Int32) (a : Nat) (x : Int32) (ha : a < 64) : jM l yX2_storeWord (jws yX2_storeWord cX2_storeWord 3 none) 0 0 0 0 D ay [.ref mm, .int (nI a), .int x] [(mm, .inr (2, [.ref dk, .ref hk, .ref dy, .ref o, .int (nI fr), .int ac, .int fc, .int wc])), (dk, .inl (ay 0, 64, .inl dd)), (hk, .inl (ay 0, 64, .inl hh)), (dy, .inl (ay 1, 16, .inl yy)), (o, .inr (8, [.ref k, .int (nI n)])), (k, .inl (ay 0, 100, .inl f))] (fun v w => v = none ∧ w = [(mm, .inr (2, [.ref dk, .ref hk, .ref dy, .ref o, .int (nI fr), .int ac, .int fc, .int wc])), (dk, .inl (ay 0, 64, .inl dd)), (hk, .inl (ay 0, 64, .inl (upd hh a x))), (dy, .inl (ay 1, 16, .inl (upd yy (a / 4) 1))), (o, .inr (8, [.ref k, .int (nI n)])), (k, .inl (ay 0, 100, .inl f))]) := by
  refine jM_of l (by decide) [(0, .ref mm), (1, .int (nI a)), (2, .int x)] rfl rfl (fun p9 e9 s9 m9 a9 b9 me9 c9 A9 F => ?_)
  refine j_iload_n F 1 dX2_storeWord_0 rfl ?_
  refine j_if_lt F 26 dX2_storeWord_1 (by decide) (fun c_1 => absurd c_1 (nI_pos (by omega))) (fun c_1 => ?_)
  refine j_iload_n F 1 dX2_storeWord_4 rfl ?_
  refine j_bipush F (v := 64) dX2_storeWord_5 (by decide) ?_
  refine j_icmp_ge F 26 dX2_storeWord_7 (by decide) (fun c_7 => absurd c_7 (nI_ge (b := 64) ha (by decide))) (fun c_7 => ?_)
  refine j_aload_n F 0 dX2_storeWord_10 rfl ?_
  refine j_getf F fX2_15 0 rfl rfl dX2_storeWord_11 ?_
  refine j_iload_n F 1 dX2_storeWord_14 rfl ?_
  refine j_iload_n F 2 dX2_storeWord_15 rfl ?_
  refine j_iast F 2 [(mm, .inr (2, [.ref dk, .ref hk, .ref dy, .ref o, .int (nI fr), .int ac, .int fc, .int wc])), (dk, .inl (ay 0, 64, .inl dd)), (hk, .inl (ay 0, 64, .inl (upd hh a x))), (dy, .inl (ay 1, 16, .inl yy)), (o, .inr (8, [.ref k, .int (nI n)])), (k, .inl (ay 0, 100, .inl f))] a rfl rfl (by omega) (Nat.le_of_ble_eq_true rfl) rfl dX2_storeWord_16 ?_
  refine j_aload_n F 0 dX2_storeWord_17 rfl ?_
  refine j_getf F fX2_18 0 rfl rfl dX2_storeWord_18 ?_
  refine j_iload_n F 1 dX2_storeWord_21 rfl ?_
  refine j_iconst F (v := 4) dX2_storeWord_22 (by decide) ?_
  refine j_idiv F dX2_storeWord_23 (by decide) ?_
  refine j_top (nI (a / 4)) (pk_div (d := 4) (by omega) (by decide) (by decide)) ?_
  refine j_iconst F (v := 1) dX2_storeWord_24 (by decide) ?_
  refine j_zast F 3 [(mm, .inr (2, [.ref dk, .ref hk, .ref dy, .ref o, .int (nI fr), .int ac, .int fc, .int wc])), (dk, .inl (ay 0, 64, .inl dd)), (hk, .inl (ay 0, 64, .inl (upd hh a x))), (dy, .inl (ay 1, 16, .inl (upd yy (a / 4) 1))), (o, .inr (8, [.ref k, .int (nI n)])), (k, .inl (ay 0, 100, .inl f))] (a / 4) rfl rfl (by omega) (Nat.le_of_ble_eq_true rfl) rfl rfl dX2_storeWord_25 ?_
  exact j_vret F ⟨rfl, rfl⟩ dX2_storeWord_26 (Nat.le_of_ble_eq_true rfl) (Nat.le_of_ble_eq_true rfl)

set_option maxHeartbeats 4000000 in
set_option maxRecDepth 100000 in
theorem c_X2_perform_c (l : Launch) (D : va_G) (ay : Nat → ClassId) (mm : Nat) (dk : Nat) (hk : Nat) (dy : Nat) (o : Nat) (k : Nat) (fr : Nat) (ac : Int32) (fc : Int32) (wc : Int32) (dd : Nat → Int32) (hh : Nat → Int32) (yy : Nat → Int32) (n : Nat) (f : Nat → Int32) (x : Int32) : jM l yX2_perform (jws yX2_perform cX2_perform 3 none) 3 65 0 0 D ay [.ref mm, .int 99, .int x] [(mm, .inr (2, [.ref dk, .ref hk, .ref dy, .ref o, .int (nI fr), .int ac, .int fc, .int wc])), (dk, .inl (ay 0, 64, .inl dd)), (hk, .inl (ay 0, 64, .inl hh)), (dy, .inl (ay 1, 16, .inl yy)), (o, .inr (8, [.ref k, .int (nI n)])), (k, .inl (ay 0, 100, .inl f))] (fun v w => v = none ∧ w = [(mm, .inr (2, [.ref dk, .ref hk, .ref dy, .ref o, .int (nI fr), .int x, .int fc, .int wc])), (dk, .inl (ay 0, 64, .inl dd)), (hk, .inl (ay 0, 64, .inl hh)), (dy, .inl (ay 1, 16, .inl yy)), (o, .inr (8, [.ref k, .int (nI n)])), (k, .inl (ay 0, 100, .inl f))]) := by
  refine jM_of l (by decide) [(0, .ref mm), (1, .int 99), (2, .int x)] rfl rfl (fun p9 e9 s9 m9 a9 b9 me9 c9 A9 F => ?_)
  refine j_iload_n F 1 dX2_perform_0 rfl ?_
  refine j_bipush F (v := 99) dX2_perform_1 (by decide) ?_
  refine j_icmp_ne F 12 dX2_perform_3 (by decide) (fun c_3 => absurd (by decide) c_3) (fun c_3 => ?_)
  refine j_aload_n F 0 dX2_perform_6 rfl ?_
  refine j_iload_n F 2 dX2_perform_7 rfl ?_
  refine j_putf F fX2_33 0 [(mm, .inr (2, [.ref dk, .ref hk, .ref dy, .ref o, .int (nI fr), .int x, .int fc, .int wc])), (dk, .inl (ay 0, 64, .inl dd)), (hk, .inl (ay 0, 64, .inl hh)), (dy, .inl (ay 1, 16, .inl yy)), (o, .inr (8, [.ref k, .int (nI n)])), (k, .inl (ay 0, 100, .inl f))] rfl rfl rfl rfl rfl (Nat.le_of_ble_eq_true rfl) dX2_perform_8 ?_
  exact j_vret F ⟨rfl, rfl⟩ dX2_perform_11 (Nat.le_of_ble_eq_true rfl) (Nat.le_of_ble_eq_true rfl)

theorem stN_le {f : Nat → Int32} {n b : Nat} {key : Int32} (hn : n ≤ 100) (hq : fx f key n < n ∨ n < 100) (hb : 1 ≤ b ∧ b < 100) : stN f n key b ≤ 100 := by
  have h := usN_le hn hq
  unfold stN
  split <;> omega
set_option maxHeartbeats 4000000 in
set_option maxRecDepth 100000 in
theorem c_X2_perform_l (l : Launch) (D : va_G) (ay : Nat → ClassId) (mm : Nat) (dk : Nat) (hk : Nat) (dy : Nat) (o : Nat) (k : Nat) (fr : Nat) (ac : Int32) (fc : Int32) (wc : Int32) (dd : Nat → Int32) (hh : Nat → Int32) (yy : Nat → Int32) (n : Nat) (f : Nat → Int32) (a : Nat) (v1 : Nat) (hn : n ≤ 100) (hq : fx f (nI (a / 4)) n < n ∨ n < 100) (ha : a < 64) (hf : 1 ≤ fr ∧ fr < 100) (hv : ¬ usN f n (nI (a / 4)) ≤ fr → usF f n (nI (a / 4)) 0 = nI v1 ∧ v1 < 16) : jM l yX2_perform (jws yX2_perform cX2_perform 3 none) 3 65 0 0 D ay [.ref mm, .int 108, .int (nI a)] [(mm, .inr (2, [.ref dk, .ref hk, .ref dy, .ref o, .int (nI fr), .int ac, .int fc, .int wc])), (dk, .inl (ay 0, 64, .inl dd)), (hk, .inl (ay 0, 64, .inl hh)), (dy, .inl (ay 1, 16, .inl yy)), (o, .inr (8, [.ref k, .int (nI n)])), (k, .inl (ay 0, 100, .inl f))] (fun v w => v = none ∧ w = [(mm, .inr (2, [.ref dk, .ref hk, .ref dy, .ref o, .int (nI fr), .int (acH dd hh f n (a / 4) a), .int (if fx f (nI (a / 4)) n < n then fc else fc + 1), .int (if usN f n (nI (a / 4)) ≤ fr ∨ yy v1 = 0 then wc else wc + 1)])), (dk, .inl (ay 0, 64, .inl (if usN f n (nI (a / 4)) ≤ fr ∨ yy v1 = 0 then dd else cpI (acH dd hh f n (a / 4)) dd (4 * v1) (4 * v1 + 4)))), (hk, .inl (ay 0, 64, .inl (acH dd hh f n (a / 4)))), (dy, .inl (ay 1, 16, .inl (if usN f n (nI (a / 4)) ≤ fr ∨ yy v1 = 0 then yy else upd yy v1 0))), (o, .inr (8, [.ref k, .int (nI (stN f n (nI (a / 4)) fr))])), (k, .inl (ay 0, 100, .inl (stF f n (nI (a / 4)) fr)))]) := by
  refine jM_of l (by decide) [(0, .ref mm), (1, .int 108), (2, .int (nI a))] rfl rfl (fun p9 e9 s9 m9 a9 b9 me9 c9 A9 F => ?_)
  refine j_iload_n F 1 dX2_perform_0 rfl ?_
  refine j_bipush F (v := 99) dX2_perform_1 (by decide) ?_
  refine j_icmp_ne F 12 dX2_perform_3 (by decide) (fun c_3 => ?_) (fun c_3 => absurd c_3 (by decide))
  refine j_aload_n F 0 dX2_perform_12 rfl ?_
  refine j_iload_n F 2 dX2_perform_13 rfl ?_
  refine j_iconst F (v := 4) dX2_perform_14 (by decide) ?_
  refine j_idiv F dX2_perform_15 (by decide) ?_
  refine j_top (nI (a / 4)) (pk_div (d := 4) (by omega) (by decide) (by decide)) ?_
  refine j_callV F kX2_46 (As := [.int (nI (a / 4))]) (rest := []) (c_X2_access l D ay mm dk hk dy o k fr ac fc wc dd hh yy n f (a / 4) v1 hn hq (by omega) hf.2 hv) 0 [0, 1, 2, 3, 4, 5] [] [] rfl rfl rfl rfl rfl rfl rfl ⟨Nat.le_of_ble_eq_true rfl, Nat.le_of_ble_eq_true rfl⟩ dX2_perform_16 (fun v w hw => ?_)
  obtain ⟨rfl, rfl⟩ := hw
  refine j_perm [0, 1, 2, 3, 4, 5] [(mm, .inr (2, [.ref dk, .ref hk, .ref dy, .ref o, .int (nI fr), .int ac, .int (if fx f (nI (a / 4)) n < n then fc else fc + 1), .int (if usN f n (nI (a / 4)) ≤ fr ∨ yy v1 = 0 then wc else wc + 1)])), (dk, .inl (ay 0, 64, .inl (if usN f n (nI (a / 4)) ≤ fr ∨ yy v1 = 0 then dd else cpI (acH dd hh f n (a / 4)) dd (4 * v1) (4 * v1 + 4)))), (hk, .inl (ay 0, 64, .inl (acH dd hh f n (a / 4)))), (dy, .inl (ay 1, 16, .inl (if usN f n (nI (a / 4)) ≤ fr ∨ yy v1 = 0 then yy else upd yy v1 0))), (o, .inr (8, [.ref k, .int (nI (stN f n (nI (a / 4)) fr))])), (k, .inl (ay 0, 100, .inl (stF f n (nI (a / 4)) fr)))] rfl rfl ?_
  refine j_iload_n F 1 dX2_perform_19 rfl ?_
  refine j_bipush F (v := 108) dX2_perform_20 (by decide) ?_
  refine j_icmp_ne F 37 dX2_perform_22 (by decide) (fun c_22 => absurd (by decide) c_22) (fun c_22 => ?_)
  refine j_aload_n F 0 dX2_perform_25 rfl ?_
  refine j_aload_n F 0 dX2_perform_26 rfl ?_
  refine j_iload_n F 2 dX2_perform_27 rfl ?_
  refine j_callV F kX2_50 (As := [.int (nI a)]) (rest := [.ref mm]) (c_X2_wordIn l D ay mm dk hk dy o k fr ac (if fx f (nI (a / 4)) n < n then fc else fc + 1) (if usN f n (nI (a / 4)) ≤ fr ∨ yy v1 = 0 then wc else wc + 1) (if usN f n (nI (a / 4)) ≤ fr ∨ yy v1 = 0 then dd else cpI (acH dd hh f n (a / 4)) dd (4 * v1) (4 * v1 + 4)) (acH dd hh f n (a / 4)) (if usN f n (nI (a / 4)) ≤ fr ∨ yy v1 = 0 then yy else upd yy v1 0) (stN f n (nI (a / 4)) fr) (stF f n (nI (a / 4)) fr) a (stN_le hn hq hf) ha) 0 [0, 1, 2, 3, 4, 5] [] [] rfl rfl rfl rfl rfl rfl rfl ⟨Nat.le_of_ble_eq_true rfl, Nat.le_of_ble_eq_true rfl⟩ dX2_perform_28 (fun v w hw => ?_)
  obtain ⟨rfl, rfl⟩ := hw
  refine j_perm [0, 1, 2, 3, 4, 5] [(mm, .inr (2, [.ref dk, .ref hk, .ref dy, .ref o, .int (nI fr), .int ac, .int (if fx f (nI (a / 4)) n < n then fc else fc + 1), .int (if usN f n (nI (a / 4)) ≤ fr ∨ yy v1 = 0 then wc else wc + 1)])), (dk, .inl (ay 0, 64, .inl (if usN f n (nI (a / 4)) ≤ fr ∨ yy v1 = 0 then dd else cpI (acH dd hh f n (a / 4)) dd (4 * v1) (4 * v1 + 4)))), (hk, .inl (ay 0, 64, .inl (acH dd hh f n (a / 4)))), (dy, .inl (ay 1, 16, .inl (if usN f n (nI (a / 4)) ≤ fr ∨ yy v1 = 0 then yy else upd yy v1 0))), (o, .inr (8, [.ref k, .int (nI (stN f n (nI (a / 4)) fr))])), (k, .inl (ay 0, 100, .inl (stF f n (nI (a / 4)) fr)))] rfl rfl ?_
  refine j_top (acH dd hh f n (a / 4) a) (if_pos (st_has hf.1)) ?_
  refine j_putf F fX2_33 0 [(mm, .inr (2, [.ref dk, .ref hk, .ref dy, .ref o, .int (nI fr), .int (acH dd hh f n (a / 4) a), .int (if fx f (nI (a / 4)) n < n then fc else fc + 1), .int (if usN f n (nI (a / 4)) ≤ fr ∨ yy v1 = 0 then wc else wc + 1)])), (dk, .inl (ay 0, 64, .inl (if usN f n (nI (a / 4)) ≤ fr ∨ yy v1 = 0 then dd else cpI (acH dd hh f n (a / 4)) dd (4 * v1) (4 * v1 + 4)))), (hk, .inl (ay 0, 64, .inl (acH dd hh f n (a / 4)))), (dy, .inl (ay 1, 16, .inl (if usN f n (nI (a / 4)) ≤ fr ∨ yy v1 = 0 then yy else upd yy v1 0))), (o, .inr (8, [.ref k, .int (nI (stN f n (nI (a / 4)) fr))])), (k, .inl (ay 0, 100, .inl (stF f n (nI (a / 4)) fr)))] rfl rfl rfl rfl rfl (Nat.le_of_ble_eq_true rfl) dX2_perform_31 ?_
  refine j_goto F 69 dX2_perform_34 (by decide) ?_
  exact j_vret F ⟨rfl, rfl⟩ dX2_perform_69 (Nat.le_of_ble_eq_true rfl) (Nat.le_of_ble_eq_true rfl)

set_option maxHeartbeats 4000000 in
set_option maxRecDepth 100000 in
theorem c_X2_perform_a (l : Launch) (D : va_G) (ay : Nat → ClassId) (mm : Nat) (dk : Nat) (hk : Nat) (dy : Nat) (o : Nat) (k : Nat) (fr : Nat) (ac : Int32) (fc : Int32) (wc : Int32) (dd : Nat → Int32) (hh : Nat → Int32) (yy : Nat → Int32) (n : Nat) (f : Nat → Int32) (a : Nat) (v1 : Nat) (hn : n ≤ 100) (hq : fx f (nI (a / 4)) n < n ∨ n < 100) (ha : a < 64) (hf : 1 ≤ fr ∧ fr < 100) (hv : ¬ usN f n (nI (a / 4)) ≤ fr → usF f n (nI (a / 4)) 0 = nI v1 ∧ v1 < 16) : jM l yX2_perform (jws yX2_perform cX2_perform 3 none) 3 65 0 0 D ay [.ref mm, .int 97, .int (nI a)] [(mm, .inr (2, [.ref dk, .ref hk, .ref dy, .ref o, .int (nI fr), .int ac, .int fc, .int wc])), (dk, .inl (ay 0, 64, .inl dd)), (hk, .inl (ay 0, 64, .inl hh)), (dy, .inl (ay 1, 16, .inl yy)), (o, .inr (8, [.ref k, .int (nI n)])), (k, .inl (ay 0, 100, .inl f))] (fun v w => v = none ∧ w = [(mm, .inr (2, [.ref dk, .ref hk, .ref dy, .ref o, .int (nI fr), .int (ac + acH dd hh f n (a / 4) a), .int (if fx f (nI (a / 4)) n < n then fc else fc + 1), .int (if usN f n (nI (a / 4)) ≤ fr ∨ yy v1 = 0 then wc else wc + 1)])), (dk, .inl (ay 0, 64, .inl (if usN f n (nI (a / 4)) ≤ fr ∨ yy v1 = 0 then dd else cpI (acH dd hh f n (a / 4)) dd (4 * v1) (4 * v1 + 4)))), (hk, .inl (ay 0, 64, .inl (acH dd hh f n (a / 4)))), (dy, .inl (ay 1, 16, .inl (if usN f n (nI (a / 4)) ≤ fr ∨ yy v1 = 0 then yy else upd yy v1 0))), (o, .inr (8, [.ref k, .int (nI (stN f n (nI (a / 4)) fr))])), (k, .inl (ay 0, 100, .inl (stF f n (nI (a / 4)) fr)))]) := by
  refine jM_of l (by decide) [(0, .ref mm), (1, .int 97), (2, .int (nI a))] rfl rfl (fun p9 e9 s9 m9 a9 b9 me9 c9 A9 F => ?_)
  refine j_iload_n F 1 dX2_perform_0 rfl ?_
  refine j_bipush F (v := 99) dX2_perform_1 (by decide) ?_
  refine j_icmp_ne F 12 dX2_perform_3 (by decide) (fun c_3 => ?_) (fun c_3 => absurd c_3 (by decide))
  refine j_aload_n F 0 dX2_perform_12 rfl ?_
  refine j_iload_n F 2 dX2_perform_13 rfl ?_
  refine j_iconst F (v := 4) dX2_perform_14 (by decide) ?_
  refine j_idiv F dX2_perform_15 (by decide) ?_
  refine j_top (nI (a / 4)) (pk_div (d := 4) (by omega) (by decide) (by decide)) ?_
  refine j_callV F kX2_46 (As := [.int (nI (a / 4))]) (rest := []) (c_X2_access l D ay mm dk hk dy o k fr ac fc wc dd hh yy n f (a / 4) v1 hn hq (by omega) hf.2 hv) 0 [0, 1, 2, 3, 4, 5] [] [] rfl rfl rfl rfl rfl rfl rfl ⟨Nat.le_of_ble_eq_true rfl, Nat.le_of_ble_eq_true rfl⟩ dX2_perform_16 (fun v w hw => ?_)
  obtain ⟨rfl, rfl⟩ := hw
  refine j_perm [0, 1, 2, 3, 4, 5] [(mm, .inr (2, [.ref dk, .ref hk, .ref dy, .ref o, .int (nI fr), .int ac, .int (if fx f (nI (a / 4)) n < n then fc else fc + 1), .int (if usN f n (nI (a / 4)) ≤ fr ∨ yy v1 = 0 then wc else wc + 1)])), (dk, .inl (ay 0, 64, .inl (if usN f n (nI (a / 4)) ≤ fr ∨ yy v1 = 0 then dd else cpI (acH dd hh f n (a / 4)) dd (4 * v1) (4 * v1 + 4)))), (hk, .inl (ay 0, 64, .inl (acH dd hh f n (a / 4)))), (dy, .inl (ay 1, 16, .inl (if usN f n (nI (a / 4)) ≤ fr ∨ yy v1 = 0 then yy else upd yy v1 0))), (o, .inr (8, [.ref k, .int (nI (stN f n (nI (a / 4)) fr))])), (k, .inl (ay 0, 100, .inl (stF f n (nI (a / 4)) fr)))] rfl rfl ?_
  refine j_iload_n F 1 dX2_perform_19 rfl ?_
  refine j_bipush F (v := 108) dX2_perform_20 (by decide) ?_
  refine j_icmp_ne F 37 dX2_perform_22 (by decide) (fun c_22 => ?_) (fun c_22 => absurd c_22 (by decide))
  refine j_iload_n F 1 dX2_perform_37 rfl ?_
  refine j_bipush F (v := 97) dX2_perform_38 (by decide) ?_
  refine j_icmp_ne F 60 dX2_perform_40 (by decide) (fun c_40 => absurd (by decide) c_40) (fun c_40 => ?_)
  refine j_aload_n F 0 dX2_perform_43 rfl ?_
  refine j_dup F dX2_perform_44 rfl ?_
  refine j_getf F fX2_33 0 rfl rfl dX2_perform_45 ?_
  refine j_aload_n F 0 dX2_perform_48 rfl ?_
  refine j_iload_n F 2 dX2_perform_49 rfl ?_
  refine j_callV F kX2_50 (As := [.int (nI a)]) (rest := [.int ac, .ref mm]) (c_X2_wordIn l D ay mm dk hk dy o k fr ac (if fx f (nI (a / 4)) n < n then fc else fc + 1) (if usN f n (nI (a / 4)) ≤ fr ∨ yy v1 = 0 then wc else wc + 1) (if usN f n (nI (a / 4)) ≤ fr ∨ yy v1 = 0 then dd else cpI (acH dd hh f n (a / 4)) dd (4 * v1) (4 * v1 + 4)) (acH dd hh f n (a / 4)) (if usN f n (nI (a / 4)) ≤ fr ∨ yy v1 = 0 then yy else upd yy v1 0) (stN f n (nI (a / 4)) fr) (stF f n (nI (a / 4)) fr) a (stN_le hn hq hf) ha) 0 [0, 1, 2, 3, 4, 5] [] [] rfl rfl rfl rfl rfl rfl rfl ⟨Nat.le_of_ble_eq_true rfl, Nat.le_of_ble_eq_true rfl⟩ dX2_perform_50 (fun v w hw => ?_)
  obtain ⟨rfl, rfl⟩ := hw
  refine j_perm [0, 1, 2, 3, 4, 5] [(mm, .inr (2, [.ref dk, .ref hk, .ref dy, .ref o, .int (nI fr), .int ac, .int (if fx f (nI (a / 4)) n < n then fc else fc + 1), .int (if usN f n (nI (a / 4)) ≤ fr ∨ yy v1 = 0 then wc else wc + 1)])), (dk, .inl (ay 0, 64, .inl (if usN f n (nI (a / 4)) ≤ fr ∨ yy v1 = 0 then dd else cpI (acH dd hh f n (a / 4)) dd (4 * v1) (4 * v1 + 4)))), (hk, .inl (ay 0, 64, .inl (acH dd hh f n (a / 4)))), (dy, .inl (ay 1, 16, .inl (if usN f n (nI (a / 4)) ≤ fr ∨ yy v1 = 0 then yy else upd yy v1 0))), (o, .inr (8, [.ref k, .int (nI (stN f n (nI (a / 4)) fr))])), (k, .inl (ay 0, 100, .inl (stF f n (nI (a / 4)) fr)))] rfl rfl ?_
  refine j_top (acH dd hh f n (a / 4) a) (if_pos (st_has hf.1)) ?_
  refine j_iadd F dX2_perform_53 ?_
  refine j_putf F fX2_33 0 [(mm, .inr (2, [.ref dk, .ref hk, .ref dy, .ref o, .int (nI fr), .int (ac + acH dd hh f n (a / 4) a), .int (if fx f (nI (a / 4)) n < n then fc else fc + 1), .int (if usN f n (nI (a / 4)) ≤ fr ∨ yy v1 = 0 then wc else wc + 1)])), (dk, .inl (ay 0, 64, .inl (if usN f n (nI (a / 4)) ≤ fr ∨ yy v1 = 0 then dd else cpI (acH dd hh f n (a / 4)) dd (4 * v1) (4 * v1 + 4)))), (hk, .inl (ay 0, 64, .inl (acH dd hh f n (a / 4)))), (dy, .inl (ay 1, 16, .inl (if usN f n (nI (a / 4)) ≤ fr ∨ yy v1 = 0 then yy else upd yy v1 0))), (o, .inr (8, [.ref k, .int (nI (stN f n (nI (a / 4)) fr))])), (k, .inl (ay 0, 100, .inl (stF f n (nI (a / 4)) fr)))] rfl rfl rfl rfl rfl (Nat.le_of_ble_eq_true rfl) dX2_perform_54 ?_
  refine j_goto F 69 dX2_perform_57 (by decide) ?_
  exact j_vret F ⟨rfl, rfl⟩ dX2_perform_69 (Nat.le_of_ble_eq_true rfl) (Nat.le_of_ble_eq_true rfl)

set_option maxHeartbeats 4000000 in
set_option maxRecDepth 100000 in
theorem c_X2_perform_s (l : Launch) (D : va_G) (ay : Nat → ClassId) (mm : Nat) (dk : Nat) (hk : Nat) (dy : Nat) (o : Nat) (k : Nat) (fr : Nat) (ac : Int32) (fc : Int32) (wc : Int32) (dd : Nat → Int32) (hh : Nat → Int32) (yy : Nat → Int32) (n : Nat) (f : Nat → Int32) (a : Nat) (v1 : Nat) (hn : n ≤ 100) (hq : fx f (nI (a / 4)) n < n ∨ n < 100) (ha : a < 64) (hf : 1 ≤ fr ∧ fr < 100) (hv : ¬ usN f n (nI (a / 4)) ≤ fr → usF f n (nI (a / 4)) 0 = nI v1 ∧ v1 < 16) : jM l yX2_perform (jws yX2_perform cX2_perform 3 none) 3 65 0 0 D ay [.ref mm, .int 115, .int (nI a)] [(mm, .inr (2, [.ref dk, .ref hk, .ref dy, .ref o, .int (nI fr), .int ac, .int fc, .int wc])), (dk, .inl (ay 0, 64, .inl dd)), (hk, .inl (ay 0, 64, .inl hh)), (dy, .inl (ay 1, 16, .inl yy)), (o, .inr (8, [.ref k, .int (nI n)])), (k, .inl (ay 0, 100, .inl f))] (fun v w => v = none ∧ w = [(mm, .inr (2, [.ref dk, .ref hk, .ref dy, .ref o, .int (nI fr), .int ac, .int (if fx f (nI (a / 4)) n < n then fc else fc + 1), .int (if usN f n (nI (a / 4)) ≤ fr ∨ yy v1 = 0 then wc else wc + 1)])), (dk, .inl (ay 0, 64, .inl (if usN f n (nI (a / 4)) ≤ fr ∨ yy v1 = 0 then dd else cpI (acH dd hh f n (a / 4)) dd (4 * v1) (4 * v1 + 4)))), (hk, .inl (ay 0, 64, .inl (upd (acH dd hh f n (a / 4)) a ac))), (dy, .inl (ay 1, 16, .inl (upd (if usN f n (nI (a / 4)) ≤ fr ∨ yy v1 = 0 then yy else upd yy v1 0) (a / 4) 1))), (o, .inr (8, [.ref k, .int (nI (stN f n (nI (a / 4)) fr))])), (k, .inl (ay 0, 100, .inl (stF f n (nI (a / 4)) fr)))]) := by
  refine jM_of l (by decide) [(0, .ref mm), (1, .int 115), (2, .int (nI a))] rfl rfl (fun p9 e9 s9 m9 a9 b9 me9 c9 A9 F => ?_)
  refine j_iload_n F 1 dX2_perform_0 rfl ?_
  refine j_bipush F (v := 99) dX2_perform_1 (by decide) ?_
  refine j_icmp_ne F 12 dX2_perform_3 (by decide) (fun c_3 => ?_) (fun c_3 => absurd c_3 (by decide))
  refine j_aload_n F 0 dX2_perform_12 rfl ?_
  refine j_iload_n F 2 dX2_perform_13 rfl ?_
  refine j_iconst F (v := 4) dX2_perform_14 (by decide) ?_
  refine j_idiv F dX2_perform_15 (by decide) ?_
  refine j_top (nI (a / 4)) (pk_div (d := 4) (by omega) (by decide) (by decide)) ?_
  refine j_callV F kX2_46 (As := [.int (nI (a / 4))]) (rest := []) (c_X2_access l D ay mm dk hk dy o k fr ac fc wc dd hh yy n f (a / 4) v1 hn hq (by omega) hf.2 hv) 0 [0, 1, 2, 3, 4, 5] [] [] rfl rfl rfl rfl rfl rfl rfl ⟨Nat.le_of_ble_eq_true rfl, Nat.le_of_ble_eq_true rfl⟩ dX2_perform_16 (fun v w hw => ?_)
  obtain ⟨rfl, rfl⟩ := hw
  refine j_perm [0, 1, 2, 3, 4, 5] [(mm, .inr (2, [.ref dk, .ref hk, .ref dy, .ref o, .int (nI fr), .int ac, .int (if fx f (nI (a / 4)) n < n then fc else fc + 1), .int (if usN f n (nI (a / 4)) ≤ fr ∨ yy v1 = 0 then wc else wc + 1)])), (dk, .inl (ay 0, 64, .inl (if usN f n (nI (a / 4)) ≤ fr ∨ yy v1 = 0 then dd else cpI (acH dd hh f n (a / 4)) dd (4 * v1) (4 * v1 + 4)))), (hk, .inl (ay 0, 64, .inl (acH dd hh f n (a / 4)))), (dy, .inl (ay 1, 16, .inl (if usN f n (nI (a / 4)) ≤ fr ∨ yy v1 = 0 then yy else upd yy v1 0))), (o, .inr (8, [.ref k, .int (nI (stN f n (nI (a / 4)) fr))])), (k, .inl (ay 0, 100, .inl (stF f n (nI (a / 4)) fr)))] rfl rfl ?_
  refine j_iload_n F 1 dX2_perform_19 rfl ?_
  refine j_bipush F (v := 108) dX2_perform_20 (by decide) ?_
  refine j_icmp_ne F 37 dX2_perform_22 (by decide) (fun c_22 => ?_) (fun c_22 => absurd c_22 (by decide))
  refine j_iload_n F 1 dX2_perform_37 rfl ?_
  refine j_bipush F (v := 97) dX2_perform_38 (by decide) ?_
  refine j_icmp_ne F 60 dX2_perform_40 (by decide) (fun c_40 => ?_) (fun c_40 => absurd c_40 (by decide))
  refine j_aload_n F 0 dX2_perform_60 rfl ?_
  refine j_iload_n F 2 dX2_perform_61 rfl ?_
  refine j_aload_n F 0 dX2_perform_62 rfl ?_
  refine j_getf F fX2_33 0 rfl rfl dX2_perform_63 ?_
  refine j_callV F kX2_54 (As := [.int (nI a), .int ac]) (rest := []) (c_X2_storeWord l D ay mm dk hk dy o k fr ac (if fx f (nI (a / 4)) n < n then fc else fc + 1) (if usN f n (nI (a / 4)) ≤ fr ∨ yy v1 = 0 then wc else wc + 1) (if usN f n (nI (a / 4)) ≤ fr ∨ yy v1 = 0 then dd else cpI (acH dd hh f n (a / 4)) dd (4 * v1) (4 * v1 + 4)) (acH dd hh f n (a / 4)) (if usN f n (nI (a / 4)) ≤ fr ∨ yy v1 = 0 then yy else upd yy v1 0) (stN f n (nI (a / 4)) fr) (stF f n (nI (a / 4)) fr) a ac (by first | assumption | omega)) 0 [0, 1, 2, 3, 4, 5] [] [] rfl rfl rfl rfl rfl rfl rfl ⟨Nat.le_of_ble_eq_true rfl, Nat.le_of_ble_eq_true rfl⟩ dX2_perform_66 (fun v w hw => ?_)
  obtain ⟨rfl, rfl⟩ := hw
  refine j_perm [0, 1, 2, 3, 4, 5] [(mm, .inr (2, [.ref dk, .ref hk, .ref dy, .ref o, .int (nI fr), .int ac, .int (if fx f (nI (a / 4)) n < n then fc else fc + 1), .int (if usN f n (nI (a / 4)) ≤ fr ∨ yy v1 = 0 then wc else wc + 1)])), (dk, .inl (ay 0, 64, .inl (if usN f n (nI (a / 4)) ≤ fr ∨ yy v1 = 0 then dd else cpI (acH dd hh f n (a / 4)) dd (4 * v1) (4 * v1 + 4)))), (hk, .inl (ay 0, 64, .inl (upd (acH dd hh f n (a / 4)) a ac))), (dy, .inl (ay 1, 16, .inl (upd (if usN f n (nI (a / 4)) ≤ fr ∨ yy v1 = 0 then yy else upd yy v1 0) (a / 4) 1))), (o, .inr (8, [.ref k, .int (nI (stN f n (nI (a / 4)) fr))])), (k, .inl (ay 0, 100, .inl (stF f n (nI (a / 4)) fr)))] rfl rfl ?_
  exact j_vret F ⟨rfl, rfl⟩ dX2_perform_69 (Nat.le_of_ble_eq_true rfl) (Nat.le_of_ble_eq_true rfl)
