theorem wl_1 {hh dd yy g15 : Nat → Int32} {i : Nat} (h : ∀ a, a < 64 → g15 a = wD hh dd yy i a) (hy : yy i = 0) : ∀ a, a < 64 → g15 a = wD hh dd yy (i + 1) a := fun a ha => by
  rw [h a ha]
  show (if a / 4 < i ∧ ¬ yy (a / 4) = 0 then hh a else dd a) = (if a / 4 < i + 1 ∧ ¬ yy (a / 4) = 0 then hh a else dd a)
  by_cases e : a / 4 = i
  · rw [if_neg (fun q => q.2 (by rw [e]; exact hy)), if_neg (fun q => q.2 (by rw [e]; exact hy))]
  · by_cases c : a / 4 < i ∧ ¬ yy (a / 4) = 0
    · rw [if_pos c, if_pos ⟨by omega, c.2⟩]
    · rw [if_neg c, if_neg (fun q => c ⟨by omega, q.2⟩)]
theorem wl_2 {hh dd yy g15 g16 : Nat → Int32} {i : Nat} (h : ∀ a, a < 64 → g15 a = wD hh dd yy i a) (h2 : ∀ a, a < 64 → g16 a = hh a) (hy : ¬ yy i = 0) : ∀ a, a < 64 → cpI g16 g15 (4 * i) (4 * i + 4) a = wD hh dd yy (i + 1) a := fun a ha => by
  show (if 4 * i ≤ a ∧ a < 4 * i + 4 then g16 a else g15 a) = (if a / 4 < i + 1 ∧ ¬ yy (a / 4) = 0 then hh a else dd a)
  by_cases e : a / 4 = i
  · rw [if_pos (by omega), if_pos ⟨by omega, by rw [e]; exact hy⟩]; exact h2 a ha
  · rw [if_neg (by omega), h a ha]
    show (if a / 4 < i ∧ ¬ yy (a / 4) = 0 then hh a else dd a) = _
    by_cases c : a / 4 < i ∧ ¬ yy (a / 4) = 0
    · rw [if_pos c, if_pos ⟨by omega, c.2⟩]
    · rw [if_neg c, if_neg (fun q => c ⟨by omega, q.2⟩)]
theorem wy_1 {yy g18 : Nat → Int32} {i : Nat} (h : ∀ q, q < 16 → g18 q = wY yy i q) (hy : yy i = 0) : ∀ q, q < 16 → g18 q = wY yy (i + 1) q := fun q hq => by
  rw [h q hq]
  show (if q < i then 0 else yy q) = (if q < i + 1 then 0 else yy q)
  by_cases e : q = i
  · rw [if_neg (by omega), if_pos (by omega), e, hy]
  · by_cases c : q < i
    · rw [if_pos c, if_pos (by omega)]
    · rw [if_neg c, if_neg (by omega)]
theorem wy_2 {yy g18 : Nat → Int32} {i : Nat} (h : ∀ q, q < 16 → g18 q = wY yy i q) : ∀ q, q < 16 → upd g18 i 0 q = wY yy (i + 1) q := fun q hq => by
  show (if q = i then 0 else g18 q) = (if q < i + 1 then 0 else yy q)
  by_cases e : q = i
  · rw [if_pos e, if_pos (by omega)]
  · rw [if_neg e, h q hq]
    show (if q < i then 0 else yy q) = _
    by_cases c : q < i
    · rw [if_pos c, if_pos (by omega)]
    · rw [if_neg c, if_neg (by omega)]
/-- all dirty pages are written -/
def wAl (Z : DS) (fr n : Nat) : DS := xU Z fr (Z.2.1 19) (Z.2.1 20) ((Z.2.1 21) + nI (wC (Z.2.2 22) 16)) (wD (Z.2.2 21) (Z.2.2 20) (Z.2.2 22) 16) (Z.2.2 21) (wY (Z.2.2 22) 16) n (Z.2.2 23)
theorem wall_G {Z : DS} {vi vi' : Nat → Int32} {ga ga' : Nat → Nat → Int32} {fr n : Nat} (hG : GI Z vi ga) (hfr : 1 ≤ fr ∧ fr ≤ 8) (hn : n ≤ fr) (hn2 : n ≤ Z.1 11) (hv : ∀ q, 1 ≤ q ∧ q < 31 → vi' q = vi q) (hg : ∀ q, q < 15 ∨ q = 16 ∨ q = 17 → ga' q = ga q) (e1 : vi' 31 = nI fr) (e2 : vi' 32 = nI n) (e3 : vi' 33 = vi 33) (e4 : vi' 34 = vi 34) (e5 : vi' 35 = Z.2.1 21 + nI (wC (Z.2.2 22) 16)) (h1 : ∀ a, a < 64 → ga' 15 a = wD (Z.2.2 21) (Z.2.2 20) (Z.2.2 22) 16 a) (h2 : ∀ q, q < 16 → ga' 18 q = wY (Z.2.2 22) 16 q) : GI (wAl Z fr n) vi' ga' := by
  obtain ⟨x1, x2, x3, x4, x5, x6, x7, x8, x9, x10⟩ := hG.2.2.2.2.2.2.2
  have hxu := xU_fr (T := Z) (fr := fr) (ac := Z.2.1 19) (fc := Z.2.1 20) (wc := (Z.2.1 21) + nI (wC (Z.2.2 22) 16)) (dd := wD (Z.2.2 21) (Z.2.2 20) (Z.2.2 22) 16) (hh := Z.2.2 21) (yy := wY (Z.2.2 22) 16) (n := n) (f := Z.2.2 23)
  have hk : kI n (Z.2.2 23) := ⟨by have := x1.1.1; omega, fun j hj => x1.1.2.1 j (by omega), fun i j hij hj => x1.1.2.2 i j hij (by omega)⟩
  refine GI_x hG (fun q a b => hxu.1 q b a) hxu.2.1 hxu.2.2 (gX_U hk (fun j hj => x1.2.1 j (by omega)) hfr hn e1 e2 (e3.trans x5) (e4.trans x6) e5 (fun a ha => ⟨h1 a ha, by rw [hg 16 (by omega)]; exact (x8 a ha).2⟩) (fun q hq => ⟨h2 q hq, ?_⟩) (fun j hj => by rw [hg 17 (by omega)]; exact x10 j (by omega))) hv (fun q hq => hg q (by omega))
  left
  show (if q < 16 then (0 : Int32) else Z.2.2 22 q) = 0
  rw [if_pos hq]
