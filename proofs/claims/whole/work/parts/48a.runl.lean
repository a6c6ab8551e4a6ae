theorem rd_G {Z : DS} {vi vi' : Nat → Int32} {ga ga' : Nat → Nat → Int32} {pos : Nat} {P : PS} {x : Int32} (hG : GI Z vi ga) (hv : ∀ q, (1 ≤ q ∧ q < 16) ∨ 25 ≤ q → vi' q = vi q) (hg : ∀ q, q < 11 ∨ 15 ≤ q → ga' q = ga q) (h16 : vi' 16 = 0) (h24 : vi' 24 = x) : GI (tU (eU (rU Z pos P) x) 0 (Z.2.2 15)) vi' ga' := by
  obtain ⟨h1, h2, h3, h4, h5, h6, h7, h9⟩ := hG
  have f1 : ∀ q, q < 15 ∨ q = 19 → (tU (eU (rU Z pos P) x) 0 (Z.2.2 15)).1 q = Z.1 q := fun q hq => (ups_ne (by omega)).trans ((ups_ne (by omega)).trans ((ups_ne (by omega)).trans (ups_ne (by omega))))
  have f2 : ∀ q, 1 ≤ q → (tU (eU (rU Z pos P) x) 0 (Z.2.2 15)).2.1 q = Z.2.1 q := fun q hq => ups_ne (by omega)
  have f3 : ∀ q, q < 15 ∨ 20 ≤ q → (tU (eU (rU Z pos P) x) 0 (Z.2.2 15)).2.2 q = Z.2.2 q := fun q hq => (ups_ne (by omega)).trans ((ups_ne (by omega)).trans ((ups_ne (by omega)).trans ((ups_ne (by omega)).trans (ups_ne (by omega)))))
  refine ⟨fun m hm => ?_, ?_, aI_fr h3 (fun q hq => f1 q (by omega)) (fun q hq => f3 q (by omega)), ?_, ?_, ⟨Nat.zero_le _, h16, by rw [hg 10 (by omega)]; exact h6.2.2⟩, h24, ?_⟩
  · rw [hg 0 (by omega), hg 1 (by omega), hg 2 (by omega), hg 3 (by omega), hg 4 (by omega)]
    exact gM_fr (h1 m hm) (f1 _ (by omega)) (f1 _ (by omega)) (f2 _ (by omega)) (f2 _ (by omega)) (f2 _ (by omega)) (f3 _ (by omega)) (f3 _ (by omega)) rfl (fun _ _ => ⟨rfl, rfl⟩) rfl rfl
  · rw [hv 4 (by omega), hv 5 (by omega), hv 6 (by omega)]
    exact gB_fr h2 (f1 _ (by omega)) (f1 _ (by omega)) (f2 _ (by omega)) (f2 _ (by omega))
  · rw [hg 5 (by omega), hg 6 (by omega), hg 7 (by omega)]
    exact gC_fr h4 (fun q _ _ => f1 q (by omega)) (fun q _ _ => f2 q (by omega)) (fun q _ _ => f3 q (by omega))
  · rw [hg 8 (by omega), hv 13 (by omega)]
    exact gL_fr h5 (f1 _ (by omega)) (f1 _ (by omega)) (f3 _ (by omega)) (f3 _ (by omega)) (f3 _ (by omega))
  · rw [hg 15 (by omega), hg 16 (by omega), hg 17 (by omega), hg 18 (by omega), hv 31 (by omega), hv 32 (by omega), hv 33 (by omega), hv 34 (by omega), hv 35 (by omega)]
    exact gX_fr h9 (f1 _ (by omega)) (f1 _ (by omega)) (fun q _ _ => f2 q (by omega)) (fun q _ _ => f3 q (by omega))
/-- a text without an error: its items, its steps, and what the row of steps holds -/
theorem prog_of {f : Nat → Int32} {n : Nat} {S : PS} (hn : n ≤ 300) (hS : S.1 = 0) (hS2 : S.2.2.2.2.2 = 0) (he : (prs f n n (sk f n 0) 0).2 = -1) : ∃ (k : Nat) (u : List PIt), bal k 0 (prs f n n (sk f n 0) 0).1 u ∧ (∀ a ∈ u, stepV a.1 a.2) ∧ ((prs f n n (sk f n 0) 0).1.foldl pst S).1 = min 200 u.length ∧ (∀ (i : Nat) (a : PIt), u[i]? = some a → i < 200 → ((prs f n n (sk f n 0) 0).1.foldl pst S).2.1 i = a.1 ∧ ((prs f n n (sk f n 0) 0).1.foldl pst S).2.2.1 i = a.2) ∧ stV ((prs f n n (sk f n 0) 0).1.foldl pst S) := by
  obtain ⟨c1, c2⟩ := prs_clo hn n (sk f n 0) 0 (sk_le (Nat.zero_le _)) he
  obtain ⟨u, hb⟩ := (bal_ex (prs f n n (sk f n 0) 0).1.length _ (Nat.le_refl _) c2 0 c1).1 rfl
  have hV := bal_V _ _ _ _ hb c2
  obtain ⟨a1, a2, a3, -⟩ := ap_bal _ _ _ _ hb S (by omega)
  rw [hS, Nat.zero_add] at a1
  have a3' : ∀ (i : Nat) (a : PIt), u[i]? = some a → i < 200 → ((prs f n n (sk f n 0) 0).1.foldl pst S).2.1 i = a.1 ∧ ((prs f n n (sk f n 0) 0).1.foldl pst S).2.2.1 i = a.2 := fun i a h hi => by
    have := a3 i a h (by omega)
    rw [hS, Nat.zero_add] at this
    exact this
  refine ⟨_, u, hb, hV, a1, a3', by omega, fun i hi => ?_⟩
  have hiu : i < u.length := by omega
  obtain ⟨e1, e2⟩ := a3' i u[i] (List.getElem?_eq_getElem hiu) (by omega)
  rw [e1, e2]
  exact hV _ (List.getElem_mem hiu)
