/-! switches -/
set_option maxHeartbeats 8000000 in
set_option maxRecDepth 100000 in
theorem pp_38 (y1 : Int32) : ∃ (r : Int32) , fX8_count 700 y1 2 4 0 0 0 0 0 = some r ∧ fX9_count 700 y1 0 2 4 0 0 0 0 = some r := by
  by_cases h0 : y1 = 0
  · subst h0
    obtain ⟨r, h8, h9⟩ := mm_sameNs (x := fX8_count 700 0 2 4 0 0 0 0 0) (y := fX9_count 700 0 0 2 4 0 0 0 0) (by decide +kernel)
    exact ⟨r, h8, h9⟩
  by_cases h1 : y1 = 1
  · subst h1
    obtain ⟨r, h8, h9⟩ := mm_sameNs (x := fX8_count 700 1 2 4 0 0 0 0 0) (y := fX9_count 700 1 0 2 4 0 0 0 0) (by decide +kernel)
    exact ⟨r, h8, h9⟩
  by_cases h2 : y1 = 2
  · subst h2
    obtain ⟨r, h8, h9⟩ := mm_sameNs (x := fX8_count 700 2 2 4 0 0 0 0 0) (y := fX9_count 700 2 0 2 4 0 0 0 0) (by decide +kernel)
    exact ⟨r, h8, h9⟩
  by_cases h3 : y1 = 3
  · subst h3
    obtain ⟨r, h8, h9⟩ := mm_sameNs (x := fX8_count 700 3 2 4 0 0 0 0 0) (y := fX9_count 700 3 0 2 4 0 0 0 0) (by decide +kernel)
    exact ⟨r, h8, h9⟩
  by_cases h4 : y1 = 4
  · subst h4
    obtain ⟨r, h8, h9⟩ := mm_sameNs (x := fX8_count 700 4 2 4 0 0 0 0 0) (y := fX9_count 700 4 0 2 4 0 0 0 0) (by decide +kernel)
    exact ⟨r, h8, h9⟩
  by_cases h5 : y1 = 5
  · subst h5
    obtain ⟨r, h8, h9⟩ := mm_sameNs (x := fX8_count 700 5 2 4 0 0 0 0 0) (y := fX9_count 700 5 0 2 4 0 0 0 0) (by decide +kernel)
    exact ⟨r, h8, h9⟩
  refine ⟨-1, ?_, ?_⟩
  · unfold fX8_count
    rw [if_neg h0, if_neg h1, if_neg h2, if_neg h3, if_neg h4, if_neg h5]
  · unfold fX9_count
    rw [if_neg h0, if_neg h1, if_neg h2, if_neg h3, if_neg h4, if_neg h5]
set_option maxHeartbeats 8000000 in
set_option maxRecDepth 100000 in
theorem pp_10 (y1 : Int32) : ∃ (r : Int32) , fX8_led 700 y1 2 4 0 0 (mm_zs 64) 20 = some r ∧ fX9_led 700 y1 2 4 0 0 z9_limit (mm_zs 384) = some r := by
  by_cases h0 : y1 = 0
  · subst h0
    obtain ⟨r, h8, h9⟩ := mm_sameNs (x := fX8_led 700 0 2 4 0 0 (mm_zs 64) 20) (y := fX9_led 700 0 2 4 0 0 z9_limit (mm_zs 384)) (by decide +kernel)
    exact ⟨r, h8, h9⟩
  by_cases h1 : y1 = 1
  · subst h1
    obtain ⟨r, h8, h9⟩ := mm_sameNs (x := fX8_led 700 1 2 4 0 0 (mm_zs 64) 20) (y := fX9_led 700 1 2 4 0 0 z9_limit (mm_zs 384)) (by decide +kernel)
    exact ⟨r, h8, h9⟩
  by_cases h2 : y1 = 2
  · subst h2
    obtain ⟨r, h8, h9⟩ := mm_sameNs (x := fX8_led 700 2 2 4 0 0 (mm_zs 64) 20) (y := fX9_led 700 2 2 4 0 0 z9_limit (mm_zs 384)) (by decide +kernel)
    exact ⟨r, h8, h9⟩
  refine ⟨-1, ?_, ?_⟩
  · unfold fX8_led
    rw [if_neg h0, if_neg h1, if_neg h2]
  · unfold fX9_led
    rw [if_neg h0, if_neg h1, if_neg h2]
