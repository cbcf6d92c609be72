section S_C0N
/-- the rebates' thresholds are not negative -/
def stO (μ : Nat → Int32) : Prop := ∀ i, i < iv (μ 2) → 0 ≤ μ (4 + 2 * i)

end S_C0N
