theorem b255 : ∀ i : Nat, i < 32 → 8 ≤ i → (255#32).getLsbD i = false := by decide
theorem bs_bits (b : BitVec 32) (s : Nat) (hs : s ≤ 24) : b.sshiftRight s &&& 255#32 = (b >>> s) &&& 255#32 := by
  refine BitVec.eq_of_getLsbD_eq fun i hi => ?_
  rw [BitVec.getLsbD_and, BitVec.getLsbD_and]
  by_cases h8 : i < 8
  · rw [BitVec.getLsbD_sshiftRight, BitVec.getLsbD_ushiftRight, if_pos (by omega), decide_eq_false (by omega)]
    rfl
  · rw [b255 i hi (by omega), Bool.and_false, Bool.and_false]
theorem bs_24 (x : Int32) : (x >>> ((24 : Int32) &&& 31)) &&& 255 = by4 x 24 := Int32.toBitVec_inj.mp (bs_bits x.toBitVec 24 (by decide))
theorem bs_16 (x : Int32) : (x >>> ((16 : Int32) &&& 31)) &&& 255 = by4 x 16 := Int32.toBitVec_inj.mp (bs_bits x.toBitVec 16 (by decide))
theorem bs_8 (x : Int32) : (x >>> ((8 : Int32) &&& 31)) &&& 255 = by4 x 8 := Int32.toBitVec_inj.mp (bs_bits x.toBitVec 8 (by decide))
theorem bs_0 (x : Int32) : (x >>> ((0 : Int32) &&& 31)) &&& 255 = by4 x 0 := Int32.toBitVec_inj.mp (bs_bits x.toBitVec 0 (by decide))
/-- the four shifts, the least first -/
def rsh : Nat → Int32
  | 0 => 0
  | 1 => 8
  | 2 => 16
  | 3 => 24
  | _ => 32
theorem rsh_next : ∀ {i : Nat}, i < 4 → rsh i + Int32.ofInt 8 = rsh (i + 1)
  | 0, _ => rfl
  | 1, _ => rfl
  | 2, _ => rfl
  | 3, _ => rfl
  | _ + 4, h => absurd h (by omega)
theorem rsh_lt : ∀ {i : Nat}, i < 4 → ¬ 32 ≤ rsh i
  | 0, _ => by decide
  | 1, _ => by decide
  | 2, _ => by decide
  | 3, _ => by decide
  | _ + 4, h => absurd h (by omega)
theorem bs_r (x : Int32) : ∀ {i : Nat}, i < 4 → (x >>> (rsh i &&& 31)) &&& 255 = by4 x (rsh i)
  | 0, _ => bs_0 x
  | 1, _ => bs_8 x
  | 2, _ => bs_16 x
  | 3, _ => bs_24 x
  | _ + 4, h => absurd h (by omega)
theorem bs_s (x : Int32) : ∀ {i : Nat}, i < 4 → (x >>> (sh4 i &&& 31)) &&& 255 = by4 x (sh4 i)
  | 0, _ => bs_24 x
  | 1, _ => bs_16 x
  | 2, _ => bs_8 x
  | 3, _ => bs_0 x
  | _ + 4, h => absurd h (by omega)
/-- how many of the last i bytes are not 0 -/
def rcnt (x : Int32) : Nat → Nat
  | 0 => 0
  | i + 1 => if by4 x (rsh i) = 0 then rcnt x i else rcnt x i + 1
theorem rcnt_4 (x : Int32) : rcnt x 4 = bcnt x 4 := by
  have a : ∀ i, rcnt x (i + 1) = rcnt x i + (if by4 x (rsh i) = 0 then 0 else 1) := fun i => by
    show (if by4 x (rsh i) = 0 then rcnt x i else rcnt x i + 1) = _
    split <;> rfl
  have b : ∀ i, bcnt x (i + 1) = bcnt x i + (if by4 x (sh4 i) = 0 then 0 else 1) := fun i => by
    show (if by4 x (sh4 i) = 0 then bcnt x i else bcnt x i + 1) = _
    split <;> rfl
  rw [a 3, a 2, a 1, a 0, b 3, b 2, b 1, b 0]
  show 0 + (if by4 x 0 = 0 then 0 else 1) + (if by4 x 8 = 0 then 0 else 1) + (if by4 x 16 = 0 then 0 else 1) + (if by4 x 24 = 0 then 0 else 1) = 0 + (if by4 x 24 = 0 then 0 else 1) + (if by4 x 16 = 0 then 0 else 1) + (if by4 x 8 = 0 then 0 else 1) + (if by4 x 0 = 0 then 0 else 1)
  omega
theorem brow_rel {f g : Nat → Int32} {n : Nat} {x : Int32} (h : ∀ j, j < n → f j = g j) : ∀ i j, j < n + bcnt x i → brow f n x i j = brow g n x i j := by
  intro i
  induction i with
  | zero => intro j hj; exact h j hj
  | succ i ih =>
    intro j hj
    have hj : j < n + (if by4 x (sh4 i) = 0 then bcnt x i else bcnt x i + 1) := hj
    show (if by4 x (sh4 i) = 0 then brow f n x i else upd (brow f n x i) (n + bcnt x i) (by4 x (sh4 i))) j = (if by4 x (sh4 i) = 0 then brow g n x i else upd (brow g n x i) (n + bcnt x i) (by4 x (sh4 i))) j
    by_cases c : by4 x (sh4 i) = 0
    · rw [if_pos c] at hj
      rw [if_pos c, if_pos c]; exact ih j hj
    · rw [if_neg c] at hj
      rw [if_neg c, if_neg c]
      by_cases e : j = n + bcnt x i
      · rw [e, upd_s, upd_s]
      · rw [upd_o e, upd_o e]; exact ih j (by omega)
theorem tU_fr {Z : DS} {n : Nat} {f : Nat → Int32} : (∀ q, q ≠ 15 → (tU Z n f).1 q = Z.1 q) ∧ ∀ q, q ≠ 15 → (tU Z n f).2.2 q = Z.2.2 q := ⟨fun q h => ups_ne h, fun q h => ups_ne h⟩
/-- a change of the tape -/
theorem GI_t {Z : DS} {vi vi' : Nat → Int32} {ga ga' : Nat → Nat → Int32} {n : Nat} {f : Nat → Int32} (hG : GI Z vi ga) (hv : ∀ q, (1 ≤ q ∧ q < 16) ∨ 24 ≤ q → vi' q = vi q) (hg : ∀ q, q < 9 ∨ 15 ≤ q → ga' q = ga q) (hn : n ≤ 300) (h16 : vi' 16 = nI n) (h10 : ga' 10 = f) : GI (tU Z n f) vi' ga' := by
  obtain ⟨h1, h2, h3, h4, h5, h6, h7, h9⟩ := hG
  obtain ⟨f1, f3⟩ := tU_fr (Z := Z) (n := n) (f := f)
  refine ⟨fun m hm => ?_, ?_, aI_fr h3 (fun q hq => f1 q (by omega)) (fun q hq => f3 q (by omega)), ?_, ?_, ⟨hn, h16, h10⟩, ?_, ?_⟩
  · rw [hg 0 (by omega), hg 1 (by omega), hg 2 (by omega), hg 3 (by omega), hg 4 (by omega)]
    exact gM_fr (h1 m hm) (f1 _ (by omega)) (f1 _ (by omega)) rfl rfl rfl (f3 _ (by omega)) (f3 _ (by omega)) rfl (fun _ _ => ⟨rfl, rfl⟩) rfl rfl
  · rw [hv 4 (by omega), hv 5 (by omega), hv 6 (by omega)]
    exact gB_fr h2 (f1 _ (by omega)) (f1 _ (by omega)) rfl rfl
  · rw [hg 5 (by omega), hg 6 (by omega), hg 7 (by omega)]
    exact gC_fr h4 (fun q _ _ => f1 q (by omega)) (fun _ _ _ => rfl) (fun q _ _ => f3 q (by omega))
  · rw [hg 8 (by omega), hv 13 (by omega)]
    exact gL_fr h5 (f1 _ (by omega)) (f1 _ (by omega)) (f3 _ (by omega)) (f3 _ (by omega)) (f3 _ (by omega))
  · rw [hv 24 (by omega)]; exact h7
  · rw [hg 15 (by omega), hg 16 (by omega), hg 17 (by omega), hg 18 (by omega), hv 31 (by omega), hv 32 (by omega), hv 33 (by omega), hv 34 (by omega), hv 35 (by omega)]
    exact gX_fr h9 (f1 _ (by omega)) (f1 _ (by omega)) (fun _ _ _ => rfl) (fun q _ _ => f3 q (by omega))
