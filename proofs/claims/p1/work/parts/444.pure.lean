/-! trace -/
theorem pp_31 (y1 : Int32) : ∃ (r : Int32) , fX8_trace 700 y1 0 (mm_zs 24) = some r ∧ fX9_trace 700 y1 0 (mm_zs 24) = some r := by
  refine ⟨-1, ?_, ?_⟩
  · unfold fX8_trace fX1_traced
    by_cases h : y1 < 0
    · rw [if_pos h]; rfl
    · rw [if_neg h]
      have h2 : (0 : Int32) ≤ y1 := Int32.not_lt.mp h
      rw [if_pos h2]
      by_cases h3 : (24 : Int32) ≤ y1
      · rw [if_pos h3]; rfl
      · rw [if_neg h3]; rfl
  · unfold fX9_trace
    by_cases h : y1 < 0
    · rw [if_pos h]
    · rw [if_neg h, if_pos (Int32.not_lt.mp h)]
