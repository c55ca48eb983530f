theorem pm_tf (b : Bool) : b = true ∨ b = false := by cases b; exact Or.inr rfl; exact Or.inl rfl
