theorem law_holds : law_pure := by sorry
