set_option maxRecDepth 100000 in
theorem fp_64_61 : ∀ k, k < 721 → FP.ddiv (FP.i2d (nI k)) (FP.i2d (nI 61)) &&& 0x7fffffffffffffff ≤ 0x7ff0000000000000 := by decide +kernel
set_option maxRecDepth 100000 in
theorem fp_64_62 : ∀ k, k < 721 → FP.ddiv (FP.i2d (nI k)) (FP.i2d (nI 62)) &&& 0x7fffffffffffffff ≤ 0x7ff0000000000000 := by decide +kernel
set_option maxRecDepth 100000 in
theorem fp_64_63 : ∀ k, k < 721 → FP.ddiv (FP.i2d (nI k)) (FP.i2d (nI 63)) &&& 0x7fffffffffffffff ≤ 0x7ff0000000000000 := by decide +kernel
set_option maxRecDepth 100000 in
theorem fp_64_64 : ∀ k, k < 721 → FP.ddiv (FP.i2d (nI k)) (FP.i2d (nI 64)) &&& 0x7fffffffffffffff ≤ 0x7ff0000000000000 := by decide +kernel
set_option maxRecDepth 100000 in
theorem fp_64_65 : ∀ k, k < 721 → FP.ddiv (FP.i2d (nI k)) (FP.i2d (nI 65)) &&& 0x7fffffffffffffff ≤ 0x7ff0000000000000 := by decide +kernel
set_option maxRecDepth 100000 in
theorem fp_64_66 : ∀ k, k < 721 → FP.ddiv (FP.i2d (nI k)) (FP.i2d (nI 66)) &&& 0x7fffffffffffffff ≤ 0x7ff0000000000000 := by decide +kernel
set_option maxRecDepth 100000 in
theorem fp_64_67 : ∀ k, k < 721 → FP.ddiv (FP.i2d (nI k)) (FP.i2d (nI 67)) &&& 0x7fffffffffffffff ≤ 0x7ff0000000000000 := by decide +kernel
set_option maxRecDepth 100000 in
theorem fp_64_68 : ∀ k, k < 721 → FP.ddiv (FP.i2d (nI k)) (FP.i2d (nI 68)) &&& 0x7fffffffffffffff ≤ 0x7ff0000000000000 := by decide +kernel
set_option maxRecDepth 100000 in
theorem fp_64_69 : ∀ k, k < 721 → FP.ddiv (FP.i2d (nI k)) (FP.i2d (nI 69)) &&& 0x7fffffffffffffff ≤ 0x7ff0000000000000 := by decide +kernel
set_option maxRecDepth 100000 in
theorem fp_64_70 : ∀ k, k < 721 → FP.ddiv (FP.i2d (nI k)) (FP.i2d (nI 70)) &&& 0x7fffffffffffffff ≤ 0x7ff0000000000000 := by decide +kernel
set_option maxRecDepth 100000 in
theorem fp_64_71 : ∀ k, k < 721 → FP.ddiv (FP.i2d (nI k)) (FP.i2d (nI 71)) &&& 0x7fffffffffffffff ≤ 0x7ff0000000000000 := by decide +kernel
set_option maxRecDepth 100000 in
theorem fp_64_72 : ∀ k, k < 721 → FP.ddiv (FP.i2d (nI k)) (FP.i2d (nI 72)) &&& 0x7fffffffffffffff ≤ 0x7ff0000000000000 := by decide +kernel
set_option maxRecDepth 100000 in
theorem fp_64_73 : ∀ k, k < 721 → FP.ddiv (FP.i2d (nI k)) (FP.i2d (nI 73)) &&& 0x7fffffffffffffff ≤ 0x7ff0000000000000 := by decide +kernel
set_option maxRecDepth 100000 in
theorem fp_64_74 : ∀ k, k < 721 → FP.ddiv (FP.i2d (nI k)) (FP.i2d (nI 74)) &&& 0x7fffffffffffffff ≤ 0x7ff0000000000000 := by decide +kernel
set_option maxRecDepth 100000 in
theorem fp_64_75 : ∀ k, k < 721 → FP.ddiv (FP.i2d (nI k)) (FP.i2d (nI 75)) &&& 0x7fffffffffffffff ≤ 0x7ff0000000000000 := by decide +kernel
set_option maxRecDepth 100000 in
theorem fp_64_76 : ∀ k, k < 721 → FP.ddiv (FP.i2d (nI k)) (FP.i2d (nI 76)) &&& 0x7fffffffffffffff ≤ 0x7ff0000000000000 := by decide +kernel
set_option maxRecDepth 100000 in
theorem fp_64_77 : ∀ k, k < 721 → FP.ddiv (FP.i2d (nI k)) (FP.i2d (nI 77)) &&& 0x7fffffffffffffff ≤ 0x7ff0000000000000 := by decide +kernel
set_option maxRecDepth 100000 in
theorem fp_64_78 : ∀ k, k < 721 → FP.ddiv (FP.i2d (nI k)) (FP.i2d (nI 78)) &&& 0x7fffffffffffffff ≤ 0x7ff0000000000000 := by decide +kernel
set_option maxRecDepth 100000 in
theorem fp_64_79 : ∀ k, k < 721 → FP.ddiv (FP.i2d (nI k)) (FP.i2d (nI 79)) &&& 0x7fffffffffffffff ≤ 0x7ff0000000000000 := by decide +kernel
set_option maxRecDepth 100000 in
theorem fp_64_80 : ∀ k, k < 721 → FP.ddiv (FP.i2d (nI k)) (FP.i2d (nI 80)) &&& 0x7fffffffffffffff ≤ 0x7ff0000000000000 := by decide +kernel
