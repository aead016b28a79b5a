/-! tables that take long -/
theorem sGrant_bt : ∀ X, X < 64 → ∀ j, j < 6 → ∀ i, i < 2 → ∀ k, k < 6 → bt (sGrant (nI X) j (nI i)) k = if k = j then nI i else bt (nI X) k := by decide +kernel
