set_option maxRecDepth 100000 in
theorem dv_ok : ∀ s : Fin 1001, FP.ddiv (FP.i2d (nI s.1)) 0x4024000000000000 &&& 0x7fffffffffffffff ≤ 0x7ff0000000000000 := by decide +kernel
