def aHH (T : DS) (p : Nat) : Nat → Int32 := acH (T.2.2 20) (T.2.2 21) (T.2.2 23) (T.1 11) p
def aFC (T : DS) (p : Nat) : Int32 := if fx (T.2.2 23) (nI p) (T.1 11) < (T.1 11) then (T.2.1 20) else (T.2.1 20) + 1
def aE (T : DS) (p : Nat) : Nat := kN (usF (T.2.2 23) (T.1 11) (nI p)) 0
def aWC (T : DS) (p : Nat) : Int32 := if usN (T.2.2 23) (T.1 11) (nI p) ≤ (T.1 19) ∨ (T.2.2 22) (aE T p) = 0 then (T.2.1 21) else (T.2.1 21) + 1
def aDD (T : DS) (p : Nat) : Nat → Int32 := if usN (T.2.2 23) (T.1 11) (nI p) ≤ (T.1 19) ∨ (T.2.2 22) (aE T p) = 0 then (T.2.2 20) else cpI (aHH T p) (T.2.2 20) (4 * aE T p) (4 * aE T p + 4)
def aYY (T : DS) (p : Nat) : Nat → Int32 := if usN (T.2.2 23) (T.1 11) (nI p) ≤ (T.1 19) ∨ (T.2.2 22) (aE T p) = 0 then (T.2.2 22) else upd (T.2.2 22) (aE T p) 0
/-- an access to a page: the accumulator, the words and the marks may change behind it -/
def acx (T : DS) (p : Nat) (ac : Int32) (hh yy : Nat → Int32) : DS := xU T (T.1 19) ac (aFC T p) (aWC T p) (aDD T p) hh yy (stN (T.2.2 23) (T.1 11) (nI p) (T.1 19)) (stF (T.2.2 23) (T.1 11) (nI p) (T.1 19))
theorem mstL_a (T : DS) (a : Nat) : mstL T a = acx T (a / 4) (aHH T (a / 4) a) (aHH T (a / 4)) (aYY T (a / 4)) := rfl
theorem mstA_a (T : DS) (a : Nat) : mstA T a = acx T (a / 4) (T.2.1 19 + aHH T (a / 4) a) (aHH T (a / 4)) (aYY T (a / 4)) := rfl
theorem mstS_a (T : DS) (a : Nat) : mstS T a = acx T (a / 4) (T.2.1 19) (upd (aHH T (a / 4)) a (T.2.1 19)) (upd (aYY T (a / 4)) (a / 4) 1) := rfl
theorem gX_U {T : DS} {fr : Nat} {ac fc wc : Int32} {dd hh yy : Nat → Int32} {n : Nat} {f g15 g16 g17 g18 : Nat → Int32} {v31 v32 v33 v34 v35 : Int32} (hk : kI n f) (h16 : k16 n f) (hfr : 1 ≤ fr ∧ fr ≤ 8) (hn : n ≤ fr) (e1 : v31 = nI fr) (e2 : v32 = nI n) (e3 : v33 = ac) (e4 : v34 = fc) (e5 : v35 = wc) (h1 : ∀ a, a < 64 → g15 a = dd a ∧ g16 a = hh a) (h2 : ∀ q, q < 16 → g18 q = yy q ∧ (yy q = 0 ∨ yy q = 1)) (h3 : ∀ j, j < n → g17 j = f j) : gX (xU T fr ac fc wc dd hh yy n f) g15 g16 g17 g18 v31 v32 v33 v34 v35 := ⟨⟨hk, h16, hfr⟩, hn, e1, e2, e3, e4, e5, h1, h2, h3⟩
/-- a change of the machine -/
theorem GI_x {Z T : DS} {vi vi' : Nat → Int32} {ga ga' : Nat → Nat → Int32} (hG : GI Z vi ga) (f1 : ∀ q, q ≠ 11 → q ≠ 19 → T.1 q = Z.1 q) (f2 : ∀ q, q < 19 → T.2.1 q = Z.2.1 q) (f3 : ∀ q, q < 20 → T.2.2 q = Z.2.2 q) (hX : gX T (ga' 15) (ga' 16) (ga' 17) (ga' 18) (vi' 31) (vi' 32) (vi' 33) (vi' 34) (vi' 35)) (hv : ∀ q, 1 ≤ q ∧ q < 31 → vi' q = vi q) (hg : ∀ q, q < 15 → ga' q = ga q) : GI T vi' ga' := by
  obtain ⟨h1, h2, h3, h4, h5, h6, h7, h9⟩ := hG
  refine ⟨fun m hm => ?_, ?_, ⟨fun i hi => ?_, ?_, ?_⟩, ?_, ?_, ?_, ?_, hX⟩
  · rw [hg 0 (by omega), hg 1 (by omega), hg 2 (by omega), hg 3 (by omega), hg 4 (by omega)]
    exact gM_fr (h1 m hm) (f1 _ (by omega) (by omega)) (f1 _ (by omega) (by omega)) (f2 _ (by omega)) (f2 _ (by omega)) (f2 _ (by omega)) (f3 _ (by omega)) (f3 _ (by omega)) rfl (fun _ _ => ⟨rfl, rfl⟩) rfl rfl
  · rw [hv 4 (by omega), hv 5 (by omega), hv 6 (by omega)]
    exact gB_fr h2 (f1 _ (by omega) (by omega)) (f1 _ (by omega) (by omega)) (f2 _ (by omega)) (f2 _ (by omega))
  · rw [f1 _ (by omega) (by omega), f3 _ (by omega)]; exact h3.1 i hi
  · rw [f1 _ (by omega) (by omega), f3 _ (by omega)]; exact h3.2.1
  · rw [f1 _ (by omega) (by omega)]; exact h3.2.2
  · rw [hg 5 (by omega), hg 6 (by omega), hg 7 (by omega)]
    exact gC_fr h4 (fun q _ _ => f1 q (by omega) (by omega)) (fun q _ _ => f2 q (by omega)) (fun q _ _ => f3 q (by omega))
  · rw [hg 8 (by omega), hv 13 (by omega)]
    exact gL_fr h5 (f1 _ (by omega) (by omega)) (f1 _ (by omega) (by omega)) (f3 _ (by omega)) (f3 _ (by omega)) (f3 _ (by omega))
  · rw [hg 10 (by omega), hv 16 (by omega)]
    exact gT_fr h6 (f1 _ (by omega) (by omega)) (f3 _ (by omega))
  · rw [hv 24 (by omega), f2 0 (by omega)]; exact h7
/-- the pages' row behind a use -/
theorem pg_1 {g K : Nat → Int32} {n : Nat} {key : Int32} (h : ∀ j, j < n → g j = K j) (hf : fx K key n < n) : ∀ j, j < usN K n key → upd (shf g (fx K key n) n) (n - 1) key j = usF K n key j := fun j hj => by
  unfold usN at hj
  unfold usF
  rw [if_pos hf] at hj ⊢
  by_cases e : j = n - 1
  · rw [e, upd_s, upd_s]
  · rw [upd_o e, upd_o e]
    show (if fx K key n ≤ j ∧ j + 1 < n then g (j + 1) else g j) = (if fx K key n ≤ j ∧ j + 1 < n then K (j + 1) else K j)
    split
    · exact h _ (by omega)
    · exact h _ (by omega)
theorem pg_2 {g K : Nat → Int32} {n : Nat} {key : Int32} (h : ∀ j, j < n → g j = K j) (hf : ¬ fx K key n < n) : ∀ j, j < usN K n key → upd g n key j = usF K n key j := fun j hj => by
  unfold usN at hj
  unfold usF
  rw [if_neg hf] at hj ⊢
  by_cases e : j = n
  · rw [e, upd_s, upd_s]
  · rw [upd_o e, upd_o e]; exact h j (by omega)
theorem pg_k {r K : Nat → Int32} {n b : Nat} {key : Int32} (h : ∀ j, j < usN K n key → r j = usF K n key j) (hk : usN K n key ≤ b) : ∀ j, j < stN K n key b → r j = stF K n key b j := fun j hj => by
  unfold stN at hj
  unfold stF
  rw [if_pos hk] at hj ⊢
  exact h j hj
theorem pg_o {r K : Nat → Int32} {n b : Nat} {key : Int32} (h : ∀ j, j < usN K n key → r j = usF K n key j) (hk : ¬ usN K n key ≤ b) : ∀ j, j < stN K n key b → shf r 0 (usN K n key) j = stF K n key b j := fun j hj => by
  unfold stN at hj
  unfold stF
  rw [if_neg hk] at hj ⊢
  show (if 0 ≤ j ∧ j + 1 < usN K n key then r (j + 1) else r j) = (if 0 ≤ j ∧ j + 1 < usN K n key then usF K n key (j + 1) else usF K n key j)
  split
  · exact h _ (by omega)
  · exact h _ (by omega)
theorem wd_1 {T : DS} {p : Nat} {g15 g16 : Nat → Int32} (h : ∀ a, a < 64 → g15 a = T.2.2 20 a ∧ g16 a = T.2.2 21 a) (hf : fx (T.2.2 23) (nI p) (T.1 11) < T.1 11) : ∀ a, a < 64 → g16 a = aHH T p a := fun a ha => by
  unfold aHH acH; rw [if_pos hf]; exact (h a ha).2
theorem wd_2 {T : DS} {p : Nat} {g15 g16 : Nat → Int32} (h : ∀ a, a < 64 → g15 a = T.2.2 20 a ∧ g16 a = T.2.2 21 a) (hf : ¬ fx (T.2.2 23) (nI p) (T.1 11) < T.1 11) : ∀ a, a < 64 → cpI g15 g16 (4 * p) (4 * p + 4) a = aHH T p a := fun a ha => by
  unfold aHH acH; rw [if_neg hf]
  show (if 4 * p ≤ a ∧ a < 4 * p + 4 then g15 a else g16 a) = (if 4 * p ≤ a ∧ a < 4 * p + 4 then T.2.2 20 a else T.2.2 21 a)
  split
  · exact (h a ha).1
  · exact (h a ha).2
theorem dd_1 {T : DS} {p : Nat} {g15 : Nat → Int32} (h : ∀ a, a < 64 → g15 a = T.2.2 20 a) (hc : usN (T.2.2 23) (T.1 11) (nI p) ≤ (T.1 19) ∨ (T.2.2 22) (aE T p) = 0) : ∀ a, a < 64 → g15 a = aDD T p a := fun a ha => by
  unfold aDD; rw [if_pos hc]; exact h a ha
theorem dd_2 {T : DS} {p : Nat} {g15 w : Nat → Int32} (h : ∀ a, a < 64 → g15 a = T.2.2 20 a) (hw : ∀ a, a < 64 → w a = aHH T p a) (hc : ¬ (usN (T.2.2 23) (T.1 11) (nI p) ≤ (T.1 19) ∨ (T.2.2 22) (aE T p) = 0)) : ∀ a, a < 64 → cpI w g15 (4 * aE T p) (4 * aE T p + 4) a = aDD T p a := fun a ha => by
  unfold aDD; rw [if_neg hc]
  show (if 4 * aE T p ≤ a ∧ a < 4 * aE T p + 4 then w a else g15 a) = (if 4 * aE T p ≤ a ∧ a < 4 * aE T p + 4 then aHH T p a else T.2.2 20 a)
  split
  · exact hw a ha
  · exact h a ha
theorem yy_1 {T : DS} {p : Nat} {g18 : Nat → Int32} (h : ∀ q, q < 16 → g18 q = T.2.2 22 q ∧ (T.2.2 22 q = 0 ∨ T.2.2 22 q = 1)) (hc : usN (T.2.2 23) (T.1 11) (nI p) ≤ (T.1 19) ∨ (T.2.2 22) (aE T p) = 0) : ∀ q, q < 16 → g18 q = aYY T p q ∧ (aYY T p q = 0 ∨ aYY T p q = 1) := fun q hq => by
  unfold aYY; rw [if_pos hc]; exact h q hq
theorem yy_2 {T : DS} {p : Nat} {g18 : Nat → Int32} (h : ∀ q, q < 16 → g18 q = T.2.2 22 q ∧ (T.2.2 22 q = 0 ∨ T.2.2 22 q = 1)) (hc : ¬ (usN (T.2.2 23) (T.1 11) (nI p) ≤ (T.1 19) ∨ (T.2.2 22) (aE T p) = 0)) : ∀ q, q < 16 → upd g18 (aE T p) 0 q = aYY T p q ∧ (aYY T p q = 0 ∨ aYY T p q = 1) := fun q hq => by
  unfold aYY; rw [if_neg hc]
  by_cases e : q = aE T p
  · rw [e, upd_s, upd_s]; exact ⟨rfl, Or.inl rfl⟩
  · rw [upd_o e, upd_o e]; exact h q hq
theorem aE_lt {T : DS} (h : xI T) {p : Nat} (hp : p < 16) : aE T p < 16 ∧ usF (T.2.2 23) (T.1 11) (nI p) 0 = nI (aE T p) := ⟨h.2.1.use hp 0 usN_pos, ((h.1.use (y := p) (by omega)).k 0 usN_pos).2⟩
theorem stN_b {f : Nat → Int32} {n b : Nat} {key : Int32} (h : n ≤ b) : stN f n key b ≤ b := by
  have := usN_b (f := f) (n := n) (key := key)
  unfold stN; split <;> omega
/-- an access in both states -/
theorem acc_G {T : DS} {vi vi' : Nat → Int32} {ga ga' : Nat → Nat → Int32} {p : Nat} (hG : GI T vi ga) (hp : p < 16) (hv : ∀ q, 1 ≤ q ∧ q < 31 → vi' q = vi q) (hg : ∀ q, q < 15 → ga' q = ga q) (e1 : vi' 31 = vi 31) (e2 : vi' 32 = nI (stN (T.2.2 23) (T.1 11) (nI p) (T.1 19))) (e3 : vi' 33 = vi 33) (e4 : vi' 34 = aFC T p) (e5 : vi' 35 = aWC T p) (h1 : ∀ a, a < 64 → ga' 15 a = aDD T p a) (h2 : ∀ a, a < 64 → ga' 16 a = aHH T p a) (h3 : ∀ q, q < 16 → ga' 18 q = aYY T p q ∧ (aYY T p q = 0 ∨ aYY T p q = 1)) (h4 : ∀ j, j < stN (T.2.2 23) (T.1 11) (nI p) (T.1 19) → ga' 17 j = stF (T.2.2 23) (T.1 11) (nI p) (T.1 19) j) : GI (acx T p (T.2.1 19) (aHH T p) (aYY T p)) vi' ga' := by
  have hX := hG.2.2.2.2.2.2.2
  obtain ⟨x1, x2, x3, x4, x5, x6, x7, -⟩ := hX
  have hxu := xU_fr (T := T) (fr := T.1 19) (ac := T.2.1 19) (fc := aFC T p) (wc := aWC T p) (dd := aDD T p) (hh := aHH T p) (yy := aYY T p) (n := stN (T.2.2 23) (T.1 11) (nI p) (T.1 19)) (f := stF (T.2.2 23) (T.1 11) (nI p) (T.1 19))
  exact GI_x hG (fun q a b => hxu.1 q b a) hxu.2.1 hxu.2.2 (gX_U (x1.1.st (y := p) (by omega) _) (x1.2.1.st hp) x1.2.2 (stN_b x2) (e1.trans x3) e2 (e3.trans x5) e4 e5 (fun a ha => ⟨h1 a ha, h2 a ha⟩) h3 h4) hv hg
/-- what follows an access -/
theorem acx_G {T : DS} {vi vi' : Nat → Int32} {ga ga' : Nat → Nat → Int32} {p : Nat} {ac ac2 : Int32} {hh hh2 yy yy2 : Nat → Int32} (hG : GI (acx T p ac hh yy) vi ga) (hv : ∀ q, 1 ≤ q ∧ q < 31 → vi' q = vi q) (hg : ∀ q, q < 15 → ga' q = ga q) (e1 : vi' 31 = vi 31) (e2 : vi' 32 = vi 32) (e3 : vi' 33 = ac2) (e4 : vi' 34 = vi 34) (e5 : vi' 35 = vi 35) (g15 : ga' 15 = ga 15) (g17 : ga' 17 = ga 17) (h1 : ∀ a, a < 64 → ga' 16 a = hh2 a) (h2 : ∀ q, q < 16 → ga' 18 q = yy2 q ∧ (yy2 q = 0 ∨ yy2 q = 1)) : GI (acx T p ac2 hh2 yy2) vi' ga' := by
  have hX := hG.2.2.2.2.2.2.2
  obtain ⟨x1, x2, x3, x4, x5, x6, x7, x8, x9, x10⟩ := hX
  refine GI_x hG (fun q a b => ?_) (fun q a => ?_) (fun q a => ?_) (gX_U x1.1 x1.2.1 x1.2.2 x2 (e1.trans x3) (e2.trans x4) e3 (e4.trans x6) (e5.trans x7) (fun a ha => ⟨by rw [g15]; exact (x8 a ha).1, h1 a ha⟩) h2 (by rw [g17]; exact x10)) hv hg
  · exact ((ups_ne a).trans (ups_ne b)).trans ((ups_ne a).trans (ups_ne b)).symm
  · exact ((ups_ne (by omega)).trans ((ups_ne (by omega)).trans (ups_ne (by omega)))).trans ((ups_ne (by omega)).trans ((ups_ne (by omega)).trans (ups_ne (by omega)))).symm
  · exact ((ups_ne (by omega)).trans ((ups_ne (by omega)).trans ((ups_ne (by omega)).trans (ups_ne (by omega))))).trans ((ups_ne (by omega)).trans ((ups_ne (by omega)).trans ((ups_ne (by omega)).trans (ups_ne (by omega))))).symm
