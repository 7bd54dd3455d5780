theorem lo_pure_all : ∀ B, lo_pure B := by
  sorry
