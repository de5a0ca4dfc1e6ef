set_option maxRecDepth 10000 in
theorem kcW : ∀ k, k < 90 → kc (1000, 90, wC) k = (1, wF k, wF k) := by decide +kernel
