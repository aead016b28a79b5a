/-! tables that take long -/
theorem sGrant_bt : ∀ X, X < 64 → ∀ j, j < 6 → ∀ i, i < 2 → ∀ k, k < 6 → bt (sGrant (nI X) j (nI i)) k = if k = j then nI i else bt (nI X) k := by decide +kernel
theorem sGrant_b : ∀ X, X < 64 → ∀ j, j < 6 → ∀ i, i < 2 → (sGrant (nI X) j (nI i)).toNatClampNeg ≤ 63 ∧ sGrant (nI X) j (nI i) = nI (sGrant (nI X) j (nI i)).toNatClampNeg := by decide +kernel
