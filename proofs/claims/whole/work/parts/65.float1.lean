set_option maxRecDepth 100000 in
theorem fp_64_1 : ∀ k, k < 721 → FP.ddiv (FP.i2d (nI k)) (FP.i2d (nI 1)) &&& 0x7fffffffffffffff ≤ 0x7ff0000000000000 := by decide +kernel
set_option maxRecDepth 100000 in
theorem fp_64_2 : ∀ k, k < 721 → FP.ddiv (FP.i2d (nI k)) (FP.i2d (nI 2)) &&& 0x7fffffffffffffff ≤ 0x7ff0000000000000 := by decide +kernel
set_option maxRecDepth 100000 in
theorem fp_64_3 : ∀ k, k < 721 → FP.ddiv (FP.i2d (nI k)) (FP.i2d (nI 3)) &&& 0x7fffffffffffffff ≤ 0x7ff0000000000000 := by decide +kernel
set_option maxRecDepth 100000 in
theorem fp_64_4 : ∀ k, k < 721 → FP.ddiv (FP.i2d (nI k)) (FP.i2d (nI 4)) &&& 0x7fffffffffffffff ≤ 0x7ff0000000000000 := by decide +kernel
set_option maxRecDepth 100000 in
theorem fp_64_5 : ∀ k, k < 721 → FP.ddiv (FP.i2d (nI k)) (FP.i2d (nI 5)) &&& 0x7fffffffffffffff ≤ 0x7ff0000000000000 := by decide +kernel
set_option maxRecDepth 100000 in
theorem fp_64_6 : ∀ k, k < 721 → FP.ddiv (FP.i2d (nI k)) (FP.i2d (nI 6)) &&& 0x7fffffffffffffff ≤ 0x7ff0000000000000 := by decide +kernel
set_option maxRecDepth 100000 in
theorem fp_64_7 : ∀ k, k < 721 → FP.ddiv (FP.i2d (nI k)) (FP.i2d (nI 7)) &&& 0x7fffffffffffffff ≤ 0x7ff0000000000000 := by decide +kernel
set_option maxRecDepth 100000 in
theorem fp_64_8 : ∀ k, k < 721 → FP.ddiv (FP.i2d (nI k)) (FP.i2d (nI 8)) &&& 0x7fffffffffffffff ≤ 0x7ff0000000000000 := by decide +kernel
set_option maxRecDepth 100000 in
theorem fp_64_9 : ∀ k, k < 721 → FP.ddiv (FP.i2d (nI k)) (FP.i2d (nI 9)) &&& 0x7fffffffffffffff ≤ 0x7ff0000000000000 := by decide +kernel
set_option maxRecDepth 100000 in
theorem fp_64_10 : ∀ k, k < 721 → FP.ddiv (FP.i2d (nI k)) (FP.i2d (nI 10)) &&& 0x7fffffffffffffff ≤ 0x7ff0000000000000 := by decide +kernel
set_option maxRecDepth 100000 in
theorem fp_64_11 : ∀ k, k < 721 → FP.ddiv (FP.i2d (nI k)) (FP.i2d (nI 11)) &&& 0x7fffffffffffffff ≤ 0x7ff0000000000000 := by decide +kernel
set_option maxRecDepth 100000 in
theorem fp_64_12 : ∀ k, k < 721 → FP.ddiv (FP.i2d (nI k)) (FP.i2d (nI 12)) &&& 0x7fffffffffffffff ≤ 0x7ff0000000000000 := by decide +kernel
set_option maxRecDepth 100000 in
theorem fp_64_13 : ∀ k, k < 721 → FP.ddiv (FP.i2d (nI k)) (FP.i2d (nI 13)) &&& 0x7fffffffffffffff ≤ 0x7ff0000000000000 := by decide +kernel
set_option maxRecDepth 100000 in
theorem fp_64_14 : ∀ k, k < 721 → FP.ddiv (FP.i2d (nI k)) (FP.i2d (nI 14)) &&& 0x7fffffffffffffff ≤ 0x7ff0000000000000 := by decide +kernel
set_option maxRecDepth 100000 in
theorem fp_64_15 : ∀ k, k < 721 → FP.ddiv (FP.i2d (nI k)) (FP.i2d (nI 15)) &&& 0x7fffffffffffffff ≤ 0x7ff0000000000000 := by decide +kernel
set_option maxRecDepth 100000 in
theorem fp_64_16 : ∀ k, k < 721 → FP.ddiv (FP.i2d (nI k)) (FP.i2d (nI 16)) &&& 0x7fffffffffffffff ≤ 0x7ff0000000000000 := by decide +kernel
set_option maxRecDepth 100000 in
theorem fp_64_17 : ∀ k, k < 721 → FP.ddiv (FP.i2d (nI k)) (FP.i2d (nI 17)) &&& 0x7fffffffffffffff ≤ 0x7ff0000000000000 := by decide +kernel
set_option maxRecDepth 100000 in
theorem fp_64_18 : ∀ k, k < 721 → FP.ddiv (FP.i2d (nI k)) (FP.i2d (nI 18)) &&& 0x7fffffffffffffff ≤ 0x7ff0000000000000 := by decide +kernel
set_option maxRecDepth 100000 in
theorem fp_64_19 : ∀ k, k < 721 → FP.ddiv (FP.i2d (nI k)) (FP.i2d (nI 19)) &&& 0x7fffffffffffffff ≤ 0x7ff0000000000000 := by decide +kernel
set_option maxRecDepth 100000 in
theorem fp_64_20 : ∀ k, k < 721 → FP.ddiv (FP.i2d (nI k)) (FP.i2d (nI 20)) &&& 0x7fffffffffffffff ≤ 0x7ff0000000000000 := by decide +kernel
