set_option maxRecDepth 100000 in
theorem fp_32 : ∀ b, b < 81 → 0 < b → ∀ k, k < 81 → (FP.fdiv (FP.i2f (nI k)) (FP.i2f (nI b)) &&& 0x7fffffff ≤ 0x7f800000 ∧ FP.f2d (FP.fdiv (FP.i2f (nI k)) (FP.i2f (nI b))) &&& 0x7fffffffffffffff ≤ 0x7ff0000000000000) := by decide +kernel
