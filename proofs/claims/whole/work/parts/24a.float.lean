/-! ===== quotients that are no NaN ===== -/
theorem fp_n32 {a : UInt32} (h : FP.Core.fIsNaN a = false) : vf_n32 a := by
  have h1 : ¬ 2139095040 < a.toNat % 2 ^ 31 := fun h2 => by rw [(FP.Core.isNaN_bits32 a).mpr h2] at h; cases h
  have e1 : (2147483647 : UInt32).toNat = 2 ^ 31 - 1 := by decide
  have e2 : (2139095040 : UInt32).toNat = 2139095040 := by decide
  unfold vf_n32
  rw [UInt32.le_iff_toNat_le, UInt32.toNat_and, e1, e2, Nat.and_two_pow_sub_one_eq_mod]
  exact Nat.le_of_not_lt h1
theorem fp_n64 {a : UInt64} (h : FP.Core.dIsNaN a = false) : vf_n64 a := by
  have h1 : ¬ 9218868437227405312 < a.toNat % 2 ^ 63 := fun h2 => by rw [(FP.Core.isNaN_bits a).mpr h2] at h; cases h
  have e1 : (9223372036854775807 : UInt64).toNat = 2 ^ 63 - 1 := by decide
  have e2 : (9218868437227405312 : UInt64).toNat = 9218868437227405312 := by decide
  unfold vf_n64
  rw [UInt64.le_iff_toNat_le, UInt64.toNat_and, e1, e2, Nat.and_two_pow_sub_one_eq_mod]
  exact Nat.le_of_not_lt h1
theorem fp_i2f (x : Int32) : FP.Core.fIsNaN (FP.Core.i2f x) = false := by
  cases h : FP.Core.fIsNaN (FP.Core.i2f x) with
  | false => rfl
  | true =>
    have h1 := (FP.Core.isNaN_bits32 _).mp h
    have h2 := FP.Core.i2f_mag x
    omega
theorem fp_i2d (x : Int32) : FP.Core.dIsNaN (FP.Core.i2d x) = false := by
  cases h : FP.Core.dIsNaN (FP.Core.i2d x) with
  | false => rfl
  | true =>
    have h1 := (FP.Core.isNaN_bits _).mp h
    have h2 := FP.Core.i2d_mag x
    omega
theorem fp_fdiv (x : Int32) {y : Int32} (h : y ≠ 0) : FP.Core.fIsNaN (FP.fdiv (FP.i2f x) (FP.i2f y)) = false := by
  rw [FP.fdiv_core, FP.i2f_core]
  refine FP.Core.fdiv_out (fp_i2f x) (FP.Core.i2f_fin y) (fun hz => ?_)
  exact FP.Core.i2f_ne_zero h ((FP.Core.zero_bits232 _).mp hz)
theorem fp_ddiv (x : Int32) {y : Int32} (h : y ≠ 0) : FP.Core.dIsNaN (FP.ddiv (FP.i2d x) (FP.i2d y)) = false := by
  rw [FP.ddiv_core, FP.i2d_core]
  refine FP.Core.ddiv_out (fp_i2d x) (FP.Core.i2d_fin y) (fun hz => ?_)
  exact FP.Core.i2d_ne_zero h ((FP.Core.zero_bits2 _).mp hz)
