set_option maxRecDepth 100000 in
theorem fp_64_41 : ∀ k, k < 721 → FP.ddiv (FP.i2d (nI k)) (FP.i2d (nI 41)) &&& 0x7fffffffffffffff ≤ 0x7ff0000000000000 := by decide +kernel
set_option maxRecDepth 100000 in
theorem fp_64_42 : ∀ k, k < 721 → FP.ddiv (FP.i2d (nI k)) (FP.i2d (nI 42)) &&& 0x7fffffffffffffff ≤ 0x7ff0000000000000 := by decide +kernel
set_option maxRecDepth 100000 in
theorem fp_64_43 : ∀ k, k < 721 → FP.ddiv (FP.i2d (nI k)) (FP.i2d (nI 43)) &&& 0x7fffffffffffffff ≤ 0x7ff0000000000000 := by decide +kernel
set_option maxRecDepth 100000 in
theorem fp_64_44 : ∀ k, k < 721 → FP.ddiv (FP.i2d (nI k)) (FP.i2d (nI 44)) &&& 0x7fffffffffffffff ≤ 0x7ff0000000000000 := by decide +kernel
set_option maxRecDepth 100000 in
theorem fp_64_45 : ∀ k, k < 721 → FP.ddiv (FP.i2d (nI k)) (FP.i2d (nI 45)) &&& 0x7fffffffffffffff ≤ 0x7ff0000000000000 := by decide +kernel
set_option maxRecDepth 100000 in
theorem fp_64_46 : ∀ k, k < 721 → FP.ddiv (FP.i2d (nI k)) (FP.i2d (nI 46)) &&& 0x7fffffffffffffff ≤ 0x7ff0000000000000 := by decide +kernel
set_option maxRecDepth 100000 in
theorem fp_64_47 : ∀ k, k < 721 → FP.ddiv (FP.i2d (nI k)) (FP.i2d (nI 47)) &&& 0x7fffffffffffffff ≤ 0x7ff0000000000000 := by decide +kernel
set_option maxRecDepth 100000 in
theorem fp_64_48 : ∀ k, k < 721 → FP.ddiv (FP.i2d (nI k)) (FP.i2d (nI 48)) &&& 0x7fffffffffffffff ≤ 0x7ff0000000000000 := by decide +kernel
set_option maxRecDepth 100000 in
theorem fp_64_49 : ∀ k, k < 721 → FP.ddiv (FP.i2d (nI k)) (FP.i2d (nI 49)) &&& 0x7fffffffffffffff ≤ 0x7ff0000000000000 := by decide +kernel
set_option maxRecDepth 100000 in
theorem fp_64_50 : ∀ k, k < 721 → FP.ddiv (FP.i2d (nI k)) (FP.i2d (nI 50)) &&& 0x7fffffffffffffff ≤ 0x7ff0000000000000 := by decide +kernel
set_option maxRecDepth 100000 in
theorem fp_64_51 : ∀ k, k < 721 → FP.ddiv (FP.i2d (nI k)) (FP.i2d (nI 51)) &&& 0x7fffffffffffffff ≤ 0x7ff0000000000000 := by decide +kernel
set_option maxRecDepth 100000 in
theorem fp_64_52 : ∀ k, k < 721 → FP.ddiv (FP.i2d (nI k)) (FP.i2d (nI 52)) &&& 0x7fffffffffffffff ≤ 0x7ff0000000000000 := by decide +kernel
set_option maxRecDepth 100000 in
theorem fp_64_53 : ∀ k, k < 721 → FP.ddiv (FP.i2d (nI k)) (FP.i2d (nI 53)) &&& 0x7fffffffffffffff ≤ 0x7ff0000000000000 := by decide +kernel
set_option maxRecDepth 100000 in
theorem fp_64_54 : ∀ k, k < 721 → FP.ddiv (FP.i2d (nI k)) (FP.i2d (nI 54)) &&& 0x7fffffffffffffff ≤ 0x7ff0000000000000 := by decide +kernel
set_option maxRecDepth 100000 in
theorem fp_64_55 : ∀ k, k < 721 → FP.ddiv (FP.i2d (nI k)) (FP.i2d (nI 55)) &&& 0x7fffffffffffffff ≤ 0x7ff0000000000000 := by decide +kernel
set_option maxRecDepth 100000 in
theorem fp_64_56 : ∀ k, k < 721 → FP.ddiv (FP.i2d (nI k)) (FP.i2d (nI 56)) &&& 0x7fffffffffffffff ≤ 0x7ff0000000000000 := by decide +kernel
set_option maxRecDepth 100000 in
theorem fp_64_57 : ∀ k, k < 721 → FP.ddiv (FP.i2d (nI k)) (FP.i2d (nI 57)) &&& 0x7fffffffffffffff ≤ 0x7ff0000000000000 := by decide +kernel
set_option maxRecDepth 100000 in
theorem fp_64_58 : ∀ k, k < 721 → FP.ddiv (FP.i2d (nI k)) (FP.i2d (nI 58)) &&& 0x7fffffffffffffff ≤ 0x7ff0000000000000 := by decide +kernel
set_option maxRecDepth 100000 in
theorem fp_64_59 : ∀ k, k < 721 → FP.ddiv (FP.i2d (nI k)) (FP.i2d (nI 59)) &&& 0x7fffffffffffffff ≤ 0x7ff0000000000000 := by decide +kernel
set_option maxRecDepth 100000 in
theorem fp_64_60 : ∀ k, k < 721 → FP.ddiv (FP.i2d (nI k)) (FP.i2d (nI 60)) &&& 0x7fffffffffffffff ≤ 0x7ff0000000000000 := by decide +kernel
