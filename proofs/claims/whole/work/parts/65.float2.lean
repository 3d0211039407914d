set_option maxRecDepth 100000 in
theorem fp_64_21 : ∀ k, k < 721 → FP.ddiv (FP.i2d (nI k)) (FP.i2d (nI 21)) &&& 0x7fffffffffffffff ≤ 0x7ff0000000000000 := by decide +kernel
set_option maxRecDepth 100000 in
theorem fp_64_22 : ∀ k, k < 721 → FP.ddiv (FP.i2d (nI k)) (FP.i2d (nI 22)) &&& 0x7fffffffffffffff ≤ 0x7ff0000000000000 := by decide +kernel
set_option maxRecDepth 100000 in
theorem fp_64_23 : ∀ k, k < 721 → FP.ddiv (FP.i2d (nI k)) (FP.i2d (nI 23)) &&& 0x7fffffffffffffff ≤ 0x7ff0000000000000 := by decide +kernel
set_option maxRecDepth 100000 in
theorem fp_64_24 : ∀ k, k < 721 → FP.ddiv (FP.i2d (nI k)) (FP.i2d (nI 24)) &&& 0x7fffffffffffffff ≤ 0x7ff0000000000000 := by decide +kernel
set_option maxRecDepth 100000 in
theorem fp_64_25 : ∀ k, k < 721 → FP.ddiv (FP.i2d (nI k)) (FP.i2d (nI 25)) &&& 0x7fffffffffffffff ≤ 0x7ff0000000000000 := by decide +kernel
set_option maxRecDepth 100000 in
theorem fp_64_26 : ∀ k, k < 721 → FP.ddiv (FP.i2d (nI k)) (FP.i2d (nI 26)) &&& 0x7fffffffffffffff ≤ 0x7ff0000000000000 := by decide +kernel
set_option maxRecDepth 100000 in
theorem fp_64_27 : ∀ k, k < 721 → FP.ddiv (FP.i2d (nI k)) (FP.i2d (nI 27)) &&& 0x7fffffffffffffff ≤ 0x7ff0000000000000 := by decide +kernel
set_option maxRecDepth 100000 in
theorem fp_64_28 : ∀ k, k < 721 → FP.ddiv (FP.i2d (nI k)) (FP.i2d (nI 28)) &&& 0x7fffffffffffffff ≤ 0x7ff0000000000000 := by decide +kernel
set_option maxRecDepth 100000 in
theorem fp_64_29 : ∀ k, k < 721 → FP.ddiv (FP.i2d (nI k)) (FP.i2d (nI 29)) &&& 0x7fffffffffffffff ≤ 0x7ff0000000000000 := by decide +kernel
set_option maxRecDepth 100000 in
theorem fp_64_30 : ∀ k, k < 721 → FP.ddiv (FP.i2d (nI k)) (FP.i2d (nI 30)) &&& 0x7fffffffffffffff ≤ 0x7ff0000000000000 := by decide +kernel
set_option maxRecDepth 100000 in
theorem fp_64_31 : ∀ k, k < 721 → FP.ddiv (FP.i2d (nI k)) (FP.i2d (nI 31)) &&& 0x7fffffffffffffff ≤ 0x7ff0000000000000 := by decide +kernel
set_option maxRecDepth 100000 in
theorem fp_64_32 : ∀ k, k < 721 → FP.ddiv (FP.i2d (nI k)) (FP.i2d (nI 32)) &&& 0x7fffffffffffffff ≤ 0x7ff0000000000000 := by decide +kernel
set_option maxRecDepth 100000 in
theorem fp_64_33 : ∀ k, k < 721 → FP.ddiv (FP.i2d (nI k)) (FP.i2d (nI 33)) &&& 0x7fffffffffffffff ≤ 0x7ff0000000000000 := by decide +kernel
set_option maxRecDepth 100000 in
theorem fp_64_34 : ∀ k, k < 721 → FP.ddiv (FP.i2d (nI k)) (FP.i2d (nI 34)) &&& 0x7fffffffffffffff ≤ 0x7ff0000000000000 := by decide +kernel
set_option maxRecDepth 100000 in
theorem fp_64_35 : ∀ k, k < 721 → FP.ddiv (FP.i2d (nI k)) (FP.i2d (nI 35)) &&& 0x7fffffffffffffff ≤ 0x7ff0000000000000 := by decide +kernel
set_option maxRecDepth 100000 in
theorem fp_64_36 : ∀ k, k < 721 → FP.ddiv (FP.i2d (nI k)) (FP.i2d (nI 36)) &&& 0x7fffffffffffffff ≤ 0x7ff0000000000000 := by decide +kernel
set_option maxRecDepth 100000 in
theorem fp_64_37 : ∀ k, k < 721 → FP.ddiv (FP.i2d (nI k)) (FP.i2d (nI 37)) &&& 0x7fffffffffffffff ≤ 0x7ff0000000000000 := by decide +kernel
set_option maxRecDepth 100000 in
theorem fp_64_38 : ∀ k, k < 721 → FP.ddiv (FP.i2d (nI k)) (FP.i2d (nI 38)) &&& 0x7fffffffffffffff ≤ 0x7ff0000000000000 := by decide +kernel
set_option maxRecDepth 100000 in
theorem fp_64_39 : ∀ k, k < 721 → FP.ddiv (FP.i2d (nI k)) (FP.i2d (nI 39)) &&& 0x7fffffffffffffff ≤ 0x7ff0000000000000 := by decide +kernel
set_option maxRecDepth 100000 in
theorem fp_64_40 : ∀ k, k < 721 → FP.ddiv (FP.i2d (nI k)) (FP.i2d (nI 40)) &&& 0x7fffffffffffffff ≤ 0x7ff0000000000000 := by decide +kernel
