/-! one shuttle in a box; no yarn below 0 -/
def UN (μ : Nat → Int32) : Prop := ∀ i j, i < 5 → j < 5 → μ (14 + 4 * i) = μ (14 + 4 * j) → μ (15 + 4 * i) = μ (15 + 4 * j) → ¬ μ (14 + 4 * i) = -6 → i = j
def YN (μ : Nat → Int32) : Prop := ∀ k, k < 5 → 0 ≤ μ (13 + 4 * k)
