/-! FLOATS: no NaN in upShare and meanKnown -/
theorem vf64 {a : UInt64} (h : FP.Core.dIsNaN a = false) : vf_n64 a := by
  have g : ¬ 9218868437227405312 < a.toNat % 2 ^ 63 := fun q => by
    rw [(FP.Core.isNaN_bits a).mpr q] at h
    exact absurd h (by decide)
  unfold vf_n64
  rw [UInt64.le_iff_toNat_le, UInt64.toNat_and]
  show a.toNat &&& (2 ^ 63 - 1) ≤ _
  rw [Nat.and_two_pow_sub_one_eq_mod]
  exact Nat.not_lt.mp g
theorem md_nan {s n : Int32} (h : n ≠ 0) : FP.Core.dIsNaN (FP.ddiv (FP.i2d s) (FP.i2d n)) = false := by
  refine FP.Core.ddiv_out (FP.Core.DFin.notNaN (FP.Core.i2d_fin s)) (FP.Core.i2d_fin n) (fun z => FP.Core.i2d_ne_zero h ?_)
  exact (FP.Core.zero_bits2 _).mp z
theorem dc_self {a : UInt64} (h : FP.Core.dIsNaN a = false) : Op.cmpValue (FP.dcmp a a) CmpOp.l = 0 := by
  have e : FP.dcmp a a = some .eq := by
    show FP.Core.dcmp a a = some .eq
    rw [FP.Core.dcmp_zval ((FP.Core.notNaN_iff a).mp h) ((FP.Core.notNaN_iff a).mp h)]
    simp
  rw [e]
  rfl
theorem us_ok (n : Nat) (h : n ≤ 5) : vf_n32 (FP.fdiv (FP.i2f (nI n)) 1084227584) ∧ FP.Core.dIsNaN (FP.f2d (FP.fdiv (FP.i2f (nI n)) 1084227584)) = false := by
  have : n = 0 ∨ n = 1 ∨ n = 2 ∨ n = 3 ∨ n = 4 ∨ n = 5 := by omega
  unfold vf_n32
  rcases this with h | h | h | h | h | h <;> subst h <;> decide +kernel
theorem vfu (f : Nat → UInt64) (x : UInt64) : vf_upd f 0 x 0 = x := by simp [vf_upd]
theorem uD_o (w : St) (f : Nat → UInt64) : (uD w f).2.2.2 = f := rfl
theorem uD_1 (w : St) (f : Nat → UInt64) : (uD w f).1 = w.1 := rfl
