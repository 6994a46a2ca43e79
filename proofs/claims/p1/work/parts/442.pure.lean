/-! 3 -/
set_option maxHeartbeats 8000000 in
set_option maxRecDepth 100000 in
theorem pp_3  : ∃ (r : Int32) (p_wearing_size : Int32) (p_wearing_stepCount : Int32) (p_wearing_draftCount : Int32) (p_wearing_place : Int32) (p_wearing_fault : Int32) (p_wearing_steps : List Int32) (p_wearing_draft : List Int32) (q_tapeMany : Int32) (q_textMany : Int32) (q_base : Int32) (q_at : Int32) (q_ends : Int32) (q_fault : Int32) (q_opened : Int32) (q_text : List Int32), fX8_law 700 0 0 0 0 0 (mm_zs 120) (mm_zs 121) (mm_zs 121) = some (r, p_wearing_size, p_wearing_stepCount, p_wearing_draftCount, p_wearing_place, p_wearing_fault, p_wearing_steps, p_wearing_draft) ∧ fX9_law 700 0 (-1) 0 0 0 0 0 (mm_zs 120) (mm_zs 120) (mm_zs 6) = some (r, q_tapeMany, q_textMany, q_base, q_at, q_ends, q_fault, q_opened, q_text) := by
  obtain ⟨r, ⟨p0, p1, p2, p3, p4, p5, p6⟩, ⟨q0, q1, q2, q3, q4, q5, q6, q7⟩, h8, h9⟩ := mm_sames (x := fX8_law 700 0 0 0 0 0 (mm_zs 120) (mm_zs 121) (mm_zs 121)) (y := fX9_law 700 0 (-1) 0 0 0 0 0 (mm_zs 120) (mm_zs 120) (mm_zs 6)) (by decide +kernel)
  exact ⟨r, p0, p1, p2, p3, p4, p5, p6, q0, q1, q2, q3, q4, q5, q6, q7, h8, h9⟩
