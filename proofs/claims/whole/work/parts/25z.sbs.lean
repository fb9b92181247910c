theorem sbs_I : ∀ s, s < 256 → ∀ t, t < 256 → (nI s &&& (nI t ^^^ (-1)) = 0 ↔ s &&& t = s) := by decide +kernel
