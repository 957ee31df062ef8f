/-! floats: a quotient of two ints made floats, the divisor not 0, is a number -/
theorem en_f32_ok : en_f32 := by
  intro x y hy
  have ha := FP.Core.i2f_mag x
  obtain ⟨hb, hb2⟩ := FP.Core.i2f_big (FP.Core.int32_ne hy)
  have h := FP.Core.fdiv_mag (a := FP.Core.i2f x) (b := FP.Core.i2f y) (K := 160) (L := 127) ha hb hb2 (by decide) (by decide)
  show FP.Core.fdiv (FP.Core.i2f x) (FP.Core.i2f y) &&& 0x7fffffff ≤ 0x7f800000
  rw [UInt32.le_iff_toNat_le, UInt32.toNat_and]
  have e1 : (0x7fffffff : UInt32).toNat = 2 ^ 31 - 1 := rfl
  have e2 : (0x7f800000 : UInt32).toNat = 2139095040 := rfl
  rw [e1, e2, Nat.and_two_pow_sub_one_eq_mod]
  omega
theorem en_f64_ok : en_f64 := by
  intro x y hy
  have ha := FP.Core.i2d_mag x
  obtain ⟨hb, hb2⟩ := FP.Core.i2d_big (FP.Core.int32_ne hy)
  have h := FP.Core.ddiv_mag (a := FP.Core.i2d x) (b := FP.Core.i2d y) (K := 1056) (L := 1023) ha hb hb2 (by decide) (by decide)
  show FP.Core.ddiv (FP.Core.i2d x) (FP.Core.i2d y) &&& 0x7fffffffffffffff ≤ 0x7ff0000000000000
  rw [UInt64.le_iff_toNat_le, UInt64.toNat_and]
  have e1 : (0x7fffffffffffffff : UInt64).toNat = 2 ^ 63 - 1 := rfl
  have e2 : (0x7ff0000000000000 : UInt64).toNat = 9218868437227405312 := rfl
  rw [e1, e2, Nat.and_two_pow_sub_one_eq_mod]
  omega
