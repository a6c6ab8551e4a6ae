/-- what stands between two turns -/
def SI (T : DS) (L M : Nat → Int32) (its : List PIt) (x0 : Int32) (s : Nat) (vi : Nat → Int32) (ga : Nat → Nat → Int32) : Prop := GI (runF T L M s) vi ga ∧ vi 0 = x0 ∧ vi 23 = nI its.length ∧ RW its (ga 11) (ga 12)
theorem SI_g {T : DS} {L M : Nat → Int32} {its : List PIt} {x0 : Int32} {s : Nat} {vi : Nat → Int32} {ga ga' : Nat → Nat → Int32} (h : SI T L M its x0 s vi ga) (hg : ∀ q, q < 13 ∨ 15 ≤ q → ga' q = ga q) : SI T L M its x0 s vi ga' := by
  obtain ⟨h1, h2, h3, h4⟩ := h
  exact ⟨GI_id h1 (fun _ _ => rfl) (fun q hq => hg q (by omega)), h2, h3, by rw [hg 11 (by omega), hg 12 (by omega)]; exact h4⟩
theorem at_pre {its pre l : List PIt} {a : PIt} {n : Nat} (h : its = pre ++ a :: l) (hn : pre.length = n) : its[n]? = some a ∧ n < its.length := by
  subst h
  refine ⟨?_, by simp; omega⟩
  rw [List.getElem?_append_right (by omega), hn, Nat.sub_self]; rfl
section BLK
variable {J : (Nat → Int32) → (Nat → Nat → Int32) → Nat → Nat → Nat → Prop} {T : DS} {L M : Nat → Int32} {its U : List PIt} {x0 : Int32}
theorem blk (hN : its.length ≤ 300) (hU : ∀ (i : Nat) (a : PIt), U[i]? = some a → i < 200 → L i = a.1 ∧ M i = a.2) (hV : ∀ a ∈ U, stepV a.1 a.2) (hI : ∀ i, i ≤ 200 → i ≤ U.length → (runF T L M i).1 14 ≤ 800 + i)
    (hstep : ∀ (vi : Nat → Int32) (ga : Nat → Nat → Int32) (Zc : DS) (N s q a : Nat) (kd x : Int32), GI Zc vi ga → vi 23 = nI N → N ≤ 300 → a < N → ga 11 a = kd → ga 12 a = x → ¬ kd = 120 → ¬ kd = 125 → stepV kd x → Zc.1 14 < 1000 → s < 200 → (∀ (vi' : Nat → Int32) (ga' : Nat → Nat → Int32), GI (stepS Zc kd x) vi' ga' → vi' 0 = vi 0 → (∀ q, 14 ≤ q ∧ q < 31 → vi' q = vi q) → (∀ q, 9 ≤ q ∧ q < 15 → ga' q = ga q) → J vi' ga' (s + 1) q (a + 1)) → J vi ga s q a)
    (hfull : ∀ (vi : Nat → Int32) (ga : Nat → Nat → Int32) (N q a : Nat) (kd : Int32), vi 23 = nI N → N ≤ 300 → a < N → ga 11 a = kd → ¬ kd = 120 → ¬ kd = 125 → GI (runF T L M 200) vi ga → vi 0 = x0 → 200 < U.length → J vi ga 200 q a)
    (hopen : ∀ (vi : Nat → Int32) (ga : Nat → Nat → Int32) (N s q a d : Nat), vi 23 = nI N → N ≤ 300 → a < N → ga 11 a = 120 → ga 12 a = nI d → q < 4 → J vi (ups (ups ga 13 (upd (ga 13) q (nI a))) 14 (upd (ga 14) q (nI d))) s (q + 1) (a + 1) → J vi ga s q a)
    (hmore : ∀ (vi : Nat → Int32) (ga : Nat → Nat → Int32) (N s q a t b : Nat), vi 23 = nI N → N ≤ 300 → a < N → ga 11 a = 125 → ga 14 q = nI (t + 1) → 1 ≤ t ∧ t ≤ 9 → ga 13 q = nI b → q < 4 → J vi (ups ga 14 (upd (ga 14) q (nI t))) s (q + 1) (b + 1) → J vi ga s (q + 1) a)
    (hlast : ∀ (vi : Nat → Int32) (ga : Nat → Nat → Int32) (N s q a : Nat), vi 23 = nI N → N ≤ 300 → a < N → ga 11 a = 125 → ga 14 q = nI 1 → q < 4 → J vi (ups ga 14 (upd (ga 14) q 0)) s q (a + 1) → J vi ga s (q + 1) a) :
    ∀ (k q : Nat) (l u : List PIt), bal k q l u → ∀ (a : Nat) (pre rest done ur : List PIt) (vi : Nat → Int32) (ga : Nat → Nat → Int32), its = pre ++ (l ++ rest) → pre.length = a → U = done ++ (u ++ ur) → done.length ≤ 200 → SI T L M its x0 done.length vi ga → (∀ (vi' : Nat → Int32) (ga' : Nat → Nat → Int32), SI T L M its x0 (done.length + u.length) vi' ga' → (∀ j, j < q → ga' 13 j = ga 13 j ∧ ga' 14 j = ga 14 j) → done.length + u.length ≤ 200 → J vi' ga' (done.length + u.length) q (a + l.length)) → J vi ga done.length q a := by
  intro k
  induction k with
  | zero =>
    intro q l u h a pre rest done ur vi ga _ _ _ hd hS K
    obtain ⟨rfl, rfl⟩ := h
    exact K vi ga hS (fun _ _ => ⟨rfl, rfl⟩) hd
  | succ k ih =>
    intro q l u h a pre rest done ur vi ga hits hpre hUd hd hS K
    rcases h with ⟨rfl, rfl⟩ | ⟨b, l', u', rfl, rfl, h1, h2, h3⟩ | ⟨d, c, l1, l2, u1, u2, rfl, hd9, hq4, h3, h4, rfl⟩
    · exact K vi ga hS (fun _ _ => ⟨rfl, rfl⟩) hd
    · -- a step
      obtain ⟨hb, hlt⟩ := at_pre (its := its) (l := l' ++ rest) (a := b) hits hpre
      have hS' := hS
      obtain ⟨s1, s2, s3, s4⟩ := hS
      obtain ⟨r1, r2⟩ := s4 a b.1 b.2 hb
      have r2 : ga 12 a = b.2 := r2.resolve_left h2
      have hbU : b ∈ U := by rw [hUd]; exact List.mem_append_right _ (List.mem_append_left _ List.mem_cons_self)
      have hgU : U[done.length]? = some b := by
        rw [hUd, List.getElem?_append_right (Nat.le_refl _), Nat.sub_self]; rfl
      have hlU : done.length < U.length := (List.getElem?_eq_some_iff.mp hgU).1
      by_cases hf : done.length < 200
      · obtain ⟨e1, e2⟩ := hU _ _ hgU hf
        have hc := hI done.length hd (by omega)
        refine hstep vi ga (runF T L M done.length) its.length done.length q a b.1 b.2 s1 s3 hN hlt r1 r2 h1 h2 (hV b hbU) (by omega) hf (fun vi' ga' g1 g2 g3 g4 => ?_)
        have hS2 : SI T L M its x0 (done ++ [b]).length vi' ga' := by
          rw [List.length_append]
          refine ⟨?_, g2.trans s2, (g3 23 (by omega)).trans s3, by rw [g4 11 (by omega), g4 12 (by omega)]; exact s4⟩
          show GI (stepS (runF T L M done.length) (L done.length) (M done.length)) vi' ga'
          rw [e1, e2]; exact g1
        have hJ := ih q l' u' h3 (a + 1) (pre ++ [b]) rest (done ++ [b]) ur vi' ga' (by rw [hits]; simp) (by rw [List.length_append, hpre]; rfl) (by rw [hUd]; simp) (by rw [List.length_append]; show done.length + 1 ≤ 200; omega) hS2 (fun vi2 ga2 k1 k2 k3 => by
          have e3 : (done ++ [b]).length + u'.length = done.length + (b :: u').length := by simp; omega
          have e4 : a + 1 + l'.length = a + (b :: l').length := by simp; omega
          rw [e3] at k1 k3 ⊢
          rw [e4]
          exact K vi2 ga2 k1 (fun j hj => ⟨(k2 j hj).1.trans (by rw [g4 13 (by omega)]), (k2 j hj).2.trans (by rw [g4 14 (by omega)])⟩) k3)
        have e5 : (done ++ [b]).length = done.length + 1 := by simp
        rw [e5] at hJ
        exact hJ
      · have e2 : done.length = 200 := by omega
        rw [e2] at s1 ⊢
        exact hfull vi ga its.length q a b.1 s3 hN hlt r1 h1 h2 s1 s2 (by omega)
    · -- a loop
      have hits' : its = pre ++ (120, nI d) :: ((l1 ++ (125, c) :: l2) ++ rest) := hits
      obtain ⟨hb, hlt⟩ := at_pre hits' hpre
      obtain ⟨s1, s2, s3, s4⟩ := hS
      obtain ⟨r1, r2⟩ := s4 a 120 (nI d) hb
      have r2 : ga 12 a = nI d := r2.resolve_left (by decide)
      have hcl : its = (pre ++ (120, nI d) :: l1) ++ (125, c) :: (l2 ++ rest) := by rw [hits']; simp
      obtain ⟨hb2, hlt2⟩ := at_pre (n := a + 1 + l1.length) hcl (by simp; omega)
      refine hopen vi ga its.length done.length q a d s3 hN hlt r1 r2 hq4 ?_
      have inner : ∀ t, 1 ≤ t → t ≤ 9 → ∀ (done2 : List PIt) (vi2 : Nat → Int32) (ga2 : Nat → Nat → Int32), U = done2 ++ (((List.replicate t u1).flatten ++ u2) ++ ur) → done2.length ≤ 200 → SI T L M its x0 done2.length vi2 ga2 → ga2 13 q = nI a → ga2 14 q = nI t → (∀ j, j < q → ga2 13 j = ga 13 j ∧ ga2 14 j = ga 14 j) → J vi2 ga2 done2.length (q + 1) (a + 1) := by
        intro t
        induction t with
        | zero => intro h0; omega
        | succ t iht =>
          intro _ ht9 done2 vi2 ga2 hU2 hd2 hS2 g13 g14 hfr
          have hU2' : U = done2 ++ (u1 ++ (((List.replicate t u1).flatten ++ u2) ++ ur)) := by
            rw [hU2, List.replicate_succ, List.flatten_cons]; simp
          refine ih (q + 1) l1 u1 h3 (a + 1) (pre ++ [(120, nI d)]) ((125, c) :: l2 ++ rest) done2 _ vi2 ga2 (by rw [hits']; simp) (by rw [List.length_append, hpre]; rfl) hU2' hd2 hS2 (fun vi3 ga3 k1 k2 k3 => ?_)
          have k1' := k1
          obtain ⟨w1, w2, w3, w4⟩ := k1
          obtain ⟨x1, -⟩ := w4 (a + 1 + l1.length) 125 c hb2
          obtain ⟨f13, f14⟩ := k2 q (by omega)
          have el : (done2 ++ u1).length = done2.length + u1.length := List.length_append
          by_cases ht : 1 ≤ t
          · refine hmore vi3 ga3 its.length (done2.length + u1.length) q (a + 1 + l1.length) t a w3 hN hlt2 x1 (f14.trans g14) ⟨ht, by omega⟩ (f13.trans g13) hq4 ?_
            have hJ := iht ht (by omega) (done2 ++ u1) vi3 (ups ga3 14 (upd (ga3 14) q (nI t))) (by rw [hU2']; simp) (by rw [el]; exact k3) (by rw [el]; exact SI_g k1' (fun j hj => ups_ne (by omega))) ((congrFun (ups_ne (by omega)) q).trans (f13.trans g13)) (by rw [ups_at]; exact upd_s) (fun j hj => by
              rw [ups_ne (show 13 ≠ 14 by omega), ups_at, upd_o (by omega)]
              exact ⟨(k2 j (by omega)).1.trans (hfr j hj).1, (k2 j (by omega)).2.trans (hfr j hj).2⟩)
            rw [el] at hJ
            exact hJ
          · have ht0 : t = 0 := by omega
            subst ht0
            refine hlast vi3 ga3 its.length (done2.length + u1.length) q (a + 1 + l1.length) w3 hN hlt2 x1 (f14.trans g14) hq4 ?_
            have hU3 : U = (done2 ++ u1) ++ (u2 ++ ur) := by rw [hU2']; simp
            have hJ := ih q l2 u2 h4 (a + 1 + l1.length + 1) (pre ++ (120, nI d) :: (l1 ++ [(125, c)])) rest (done2 ++ u1) ur vi3 (ups ga3 14 (upd (ga3 14) q 0)) (by rw [hits']; simp) (by simp; omega) hU3 (by rw [el]; exact k3) (by rw [el]; exact SI_g k1' (fun j hj => ups_ne (by omega))) (fun vi4 ga4 y1 y2 y3 => by
              have e6 : (done2 ++ u1).length + u2.length = done.length + ((List.replicate d u1).flatten ++ u2).length := by
                have a1 := congrArg List.length hU3
                have a2 := congrArg List.length hUd
                simp only [List.length_append] at a1 a2 ⊢
                omega
              have e7 : a + 1 + l1.length + 1 + l2.length = a + ((120, nI d) :: (l1 ++ (125, c) :: l2)).length := by simp; omega
              rw [e6] at y1 y3 ⊢
              rw [e7]
              exact K vi4 ga4 y1 (fun j hj => by
                obtain ⟨z1, z2⟩ := y2 j hj
                rw [ups_ne (show 13 ≠ 14 by omega)] at z1
                rw [ups_at, upd_o (by omega)] at z2
                exact ⟨z1.trans ((k2 j (by omega)).1.trans (hfr j hj).1), z2.trans ((k2 j (by omega)).2.trans (hfr j hj).2)⟩) y3)
            rw [el] at hJ
            exact hJ
      exact inner d hd9.1 hd9.2 done vi _ hUd hd (SI_g ⟨s1, s2, s3, s4⟩ (fun j hj => (ups_ne (by omega)).trans (ups_ne (by omega)))) ((congrFun ((ups_ne (by omega)).trans ups_at) q).trans upd_s) (by rw [ups_at]; exact upd_s) (fun j hj => by
        rw [ups_ne (show 13 ≠ 14 by omega), ups_at, ups_at, upd_o (by omega), upd_o (by omega)]
        exact ⟨rfl, rfl⟩)
end BLK
