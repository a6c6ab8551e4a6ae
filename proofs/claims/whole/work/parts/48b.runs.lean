set_option maxHeartbeats 4000000 in
set_option maxRecDepth 100000 in
theorem c_X10_runs (l : Launch) (D : va_G) (ay : Nat → ClassId) (ad : Nat → Nat) (vi : Nat → Int32) (ga : Nat → Nat → Int32) (T : DS) (its : List PIt) (u : List PIt) (P : PS) (kk : Nat) (hG : GI T vi ga) (h23 : vi 23 = nI its.length) (hN : its.length ≤ 300) (hRW : RW its (ga 11) (ga 12)) (hbal : bal kk 0 its u) (hV : ∀ a ∈ u, stepV a.1 a.2) (hc : T.1 14 ≤ 800) (hP1 : P.1 = min 200 u.length) (hPL : ∀ (i : Nat) (a : PIt), u[i]? = some a → i < 200 → P.2.1 i = a.1 ∧ P.2.2.1 i = a.2) : jM l yX10_runs (jws yX10_runs cX10_runs 5 (some .int)) 4 92 0 0 D ay [.ref (ad 0)] (mW ay ad vi ga) (fun v w => ∃ (vi' : Nat → Int32) (ga' : Nat → Nat → Int32), GI (runF T P.2.1 P.2.2.1 P.1) vi' ga' ∧ vi' 0 = vi 0 ∧ v = some (.int (nI P.1)) ∧ w = mW ay ad vi' ga') := by
  refine jM_of l (by decide) [(0, .ref (ad 0))] rfl rfl (fun p9 e9 s9 m9 a9 b9 me9 c9 A9 F => ?_)
  refine j_iconst F (v := 0) dX10_runs_0 (by decide) ?_
  refine j_istore_n F 1 [(1, .int 0), (0, .ref (ad 0))] dX10_runs_1 rfl (by decide) rfl ?_
  refine j_iconst F (v := 0) dX10_runs_2 (by decide) ?_
  refine j_istore_n F 2 [(2, .int 0), (1, .int 0), (0, .ref (ad 0))] dX10_runs_3 rfl (by decide) rfl ?_
  refine j_iconst F (v := 0) dX10_runs_4 (by decide) ?_
  refine j_istore_n F 3 [(3, .int 0), (2, .int 0), (1, .int 0), (0, .ref (ad 0))] dX10_runs_5 rfl (by decide) rfl ?_
  have hst : stV P := ⟨by omega, fun i hi => by
    have hiu : i < u.length := by omega
    obtain ⟨e1, e2⟩ := hPL i u[i] (List.getElem?_eq_getElem hiu) (by omega)
    rw [e1, e2]
    exact hV _ (List.getElem_mem hiu)⟩
  have hrI := runF_I hst hG.2.2.1 hG.2.2.2.2.2.2.2.1 hc
  refine j_sub [2, 1, 0, 3] [(1, .int 0), (2, .int 0), (3, .int 0), (0, .ref (ad 0))] rfl ?_
  refine j_nf (mW ay ad vi ga) [(1, .int (nI 0)), (2, .int (nI 0)), (3, .int (nI 0)), (0, .ref (ad 0))] rfl rfl ?_
  refine blk (J := (fun vi_ ga_ s q a => jJ p9 l e9 ({ frames := 4, cells := 0, slots := 0, locals := 92 } : Room) s9 m9 a9 b9 me9 c9 (MQ b9 (jQ (fun v w => ∃ (vi' : Nat → Int32) (ga' : Nat → Nat → Int32), GI (runF T P.2.1 P.2.2.1 P.1) vi' ga' ∧ vi' 0 = vi 0 ∧ v = some (.int (nI P.1)) ∧ w = mW ay ad vi' ga') D ay A9) a9 s9 0 0 A9) D A9 5 0 0 (mW ay ad vi_ ga_) 6 [(1, .int (nI s)), (2, .int (nI q)), (3, .int (nI a)), (0, .ref (ad 0))] [])) (T := T) (L := P.2.1) (M := P.2.2.1) (its := its) (U := u) (x0 := vi 0) hN hPL hV (fun i h1 h2 => by have := (hrI i (by omega)).2.2.1; omega) (fun vi ga Zc N s q a kd x => r_step l D ay ad F vi ga Zc N s q a kd x) (fun vi2 ga2 N q a kd h1 h2 h3 h4 h5 h6 h7 h8 h9 => r_full l D ay ad F vi2 ga2 N q a kd h1 h2 h3 h4 h5 h6 ⟨vi2, ga2, by rw [show P.1 = 200 by omega]; exact h7, h8, by rw [show P.1 = 200 by omega], rfl⟩) (fun vi ga N s q a d => r_open l D ay ad F vi ga N s q a d) (fun vi ga N s q a t b => r_more l D ay ad F vi ga N s q a t b) (fun vi ga N s q a => r_last l D ay ad F vi ga N s q a) kk 0 its u hbal 0 [] [] [] [] vi ga (by simp) rfl (by simp) (Nat.zero_le _) ⟨hG, rfl, h23, hRW⟩ (fun vi2 ga2 hS2 _ hle => ?_)
  rw [List.length_nil, Nat.zero_add] at hS2 hle ⊢
  rw [Nat.zero_add]
  exact r_end l D ay ad F vi2 ga2 its.length u.length 0 hS2.2.2.1 hN ⟨vi2, ga2, by rw [show P.1 = u.length by omega]; exact hS2.1, hS2.2.1, by rw [show P.1 = u.length by omega], rfl⟩

