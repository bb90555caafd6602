theorem dd_t : ∀ n, n < 20 → ∀ w, w < 61 * (n + 1) → (FP.ddiv (FP.i2d (nI w)) (FP.i2d (nI (n + 1)))) &&& 0x7fffffffffffffff ≤ 0x7ff0000000000000 := by decide +kernel

