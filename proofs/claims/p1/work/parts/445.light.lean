/-! limit, feed, body, sheet -/
set_option maxHeartbeats 8000000 in
set_option maxRecDepth 100000 in
theorem kk_1 (y1 : Int32) : mm_same (fX8_limit 700 y1 20 0 0 (mm_zs 40) (mm_zs 40)) (fX9_limit 700 y1 0 0 z9_limit (mm_zs 40) (mm_zs 40)) = true := by
  by_cases h : 0 ≤ y1.toInt ∧ y1.toInt < 100
  · exact rg_all (fun y => mm_same (fX8_limit 700 y 20 0 0 (mm_zs 40) (mm_zs 40)) (fX9_limit 700 y 0 0 z9_limit (mm_zs 40) (mm_zs 40))) 100 (by decide +kernel) y1 h.1 h.2
  · unfold fX8_limit fX9_limit
    rw [rg_wf 700 y1 (a := 1) (b := 99) (by decide) (by decide) (by omega)]
    by_cases k : y1.toInt < 1
    · rw [if_pos (rg_p (b := 1) (by decide) k)]; rfl
    · rw [if_neg (rg_n (b := 1) (by decide) (by omega)), if_neg (rg_en (b := 99) (by decide) (by omega))]; rfl
set_option maxHeartbeats 8000000 in
set_option maxRecDepth 100000 in
theorem pp_1 (y1 : Int32) : ∃ (r : Int32) (p_changes_value : Int32) (p_changes_done : Int32) (p_changes_size : Int32) (p_changes_before : List Int32) (p_changes_after : List Int32) (q_keptMany : Int32) (q_done : Int32) (q_limit : List Int32) (q_changeWas : List Int32) (q_changeIs : List Int32), fX8_limit 700 y1 20 0 0 (mm_zs 40) (mm_zs 40) = some (r, p_changes_value, p_changes_done, p_changes_size, p_changes_before, p_changes_after) ∧ fX9_limit 700 y1 0 0 z9_limit (mm_zs 40) (mm_zs 40) = some (r, q_keptMany, q_done, q_limit, q_changeWas, q_changeIs) := by
  obtain ⟨r, ⟨p0, p1, p2, p3, p4⟩, ⟨q0, q1, q2, q3, q4⟩, h8, h9⟩ := mm_sames (kk_1 y1)
  exact ⟨r, p0, p1, p2, p3, p4, q0, q1, q2, q3, q4, h8, h9⟩
set_option maxHeartbeats 8000000 in
set_option maxRecDepth 100000 in
theorem kk_2 (y1 : Int32) : mm_same (fX8_feed 700 y1 0 (mm_zs 120)) (fX9_feed 700 y1 0 (mm_zs 120)) = true := by
  by_cases h : 0 ≤ y1.toInt ∧ y1.toInt < 256
  · exact rg_all (fun y => mm_same (fX8_feed 700 y 0 (mm_zs 120)) (fX9_feed 700 y 0 (mm_zs 120))) 256 (by decide +kernel) y1 h.1 h.2
  · unfold fX8_feed fX9_feed
    rw [rg_wf 700 y1 (a := 0) (b := 255) (by decide) (by decide) (by omega)]
    by_cases k : y1.toInt < 0
    · rw [if_pos (rg_p (b := 0) (by decide) k)]; rfl
    · rw [if_neg (rg_n (b := 0) (by decide) (by omega)), if_neg (rg_en (b := 255) (by decide) (by omega))]; rfl
set_option maxHeartbeats 8000000 in
set_option maxRecDepth 100000 in
theorem pp_2 (y1 : Int32) : ∃ (r : Int32) (p_wearing_size : Int32) (p_wearing_tape : List Int32) (q_tapeMany : Int32) (q_tape : List Int32), fX8_feed 700 y1 0 (mm_zs 120) = some (r, p_wearing_size, p_wearing_tape) ∧ fX9_feed 700 y1 0 (mm_zs 120) = some (r, q_tapeMany, q_tape) := by
  obtain ⟨r, ⟨p0, p1⟩, ⟨q0, q1⟩, h8, h9⟩ := mm_sames (kk_2 y1)
  exact ⟨r, p0, p1, q0, q1, h8, h9⟩
set_option maxHeartbeats 8000000 in
set_option maxRecDepth 100000 in
theorem kk_29 (y1 : Int32) : mm_same (fX8_body 700 y1 0 (mm_zs 50)) (fX9_body 700 y1 0 (mm_zs 50)) = true := by
  by_cases h : 0 ≤ y1.toInt ∧ y1.toInt < 8
  · exact rg_all (fun y => mm_same (fX8_body 700 y 0 (mm_zs 50)) (fX9_body 700 y 0 (mm_zs 50))) 8 (by decide +kernel) y1 h.1 h.2
  · unfold fX8_body fX9_body
    rw [rg_wf 700 y1 (a := 0) (b := 7) (by decide) (by decide) (by omega)]
    by_cases k : y1.toInt < 0
    · rw [if_pos (rg_p (b := 0) (by decide) k)]; rfl
    · rw [if_neg (rg_n (b := 0) (by decide) (by omega)), if_neg (rg_n (b := 8) (by decide) (by omega))]; rfl
set_option maxHeartbeats 8000000 in
set_option maxRecDepth 100000 in
theorem pp_29 (y1 : Int32) : ∃ (r : Int32) (p_foldings_size : Int32) (p_foldings_kinds : List Int32) (q_bodies : Int32) (q_bodyKind : List Int32), fX8_body 700 y1 0 (mm_zs 50) = some (r, p_foldings_size, p_foldings_kinds) ∧ fX9_body 700 y1 0 (mm_zs 50) = some (r, q_bodies, q_bodyKind) := by
  obtain ⟨r, ⟨p0, p1⟩, ⟨q0, q1⟩, h8, h9⟩ := mm_sames (kk_29 y1)
  exact ⟨r, p0, p1, q0, q1, h8, h9⟩
set_option maxHeartbeats 8000000 in
set_option maxRecDepth 100000 in
theorem kk_0 (y1 : Int32) : mm_same (fX8_sheet 700 y1 2 4 2 4 0 0 0 z5_rowOf z5_colOf (mm_zs 32) (mm_zs 32) (mm_zs 64) (mm_zs 64)) (fX9_sheet 700 y1 2 4 0 0 z9_shapeRows z9_shapeColumns z9_row z9_column (mm_zs 192) (mm_zs 192) (mm_zs 384) (mm_zs 384)) = true := by
  by_cases h : 0 ≤ y1.toInt ∧ y1.toInt < 50
  · exact rg_all (fun y => mm_same (fX8_sheet 700 y 2 4 2 4 0 0 0 z5_rowOf z5_colOf (mm_zs 32) (mm_zs 32) (mm_zs 64) (mm_zs 64)) (fX9_sheet 700 y 2 4 0 0 z9_shapeRows z9_shapeColumns z9_row z9_column (mm_zs 192) (mm_zs 192) (mm_zs 384) (mm_zs 384))) 50 (by decide +kernel) y1 h.1 h.2
  · have l1 := Int32.toInt_lt y1
    have l2 := Int32.le_toInt y1
    have d := rg_d10 y1
    have kd := Int.mul_tdiv_add_tmod y1.toInt 10
    have b1 : y1.toInt.tmod 10 < 10 := Int.tmod_lt_of_pos _ (by decide)
    have b2 : -10 < y1.toInt.tmod 10 := Int.lt_tmod_of_pos _ (by decide)
    unfold fX8_sheet fX9_sheet
    by_cases k : y1.toInt < 0
    · rw [if_pos (rg_p (b := 0) (by decide) k)]
      show mm_same (if y1 / 10 < 1 then _ else _) _ = true
      rw [if_pos (rg_p (b := 1) (by decide) (by omega))]
      rfl
    · rw [if_neg (rg_n (b := 0) (by decide) (by omega)), rg_wf 700 (y1 / 10) (a := 1) (b := 4) (by decide) (by decide) (by omega)]
      show mm_same (if y1 / 10 < 1 then _ else if 4 < y1 / 10 then _ else _) _ = true
      rw [if_neg (rg_n (b := 1) (by decide) (by omega)), if_pos (rg_lp (b := 4) (by decide) (by omega))]
      rfl
set_option maxHeartbeats 8000000 in
set_option maxRecDepth 100000 in
theorem pp_0 (y1 : Int32) : ∃ (r : Int32) (p_now_rows : Int32) (p_now_cols : Int32) (p_now_high : Int32) (p_now_wide : Int32) (p_now_folds : Int32) (p_now_wrong : Int32) (p_now_more : Int32) (p_now_rowOf : List Int32) (p_now_colOf : List Int32) (p_now_below : List Int32) (p_now_face : List Int32) (p_now_worn : List Int32) (p_now_last : List Int32) (q_rowsOf : Int32) (q_columnsOf : Int32) (q_folded : Int32) (q_wronged : Int32) (q_shapeRows : List Int32) (q_shapeColumns : List Int32) (q_row : List Int32) (q_column : List Int32) (q_below : List Int32) (q_face : List Int32) (q_worn : List Int32) (q_lastBend : List Int32), fX8_sheet 700 y1 2 4 2 4 0 0 0 z5_rowOf z5_colOf (mm_zs 32) (mm_zs 32) (mm_zs 64) (mm_zs 64) = some (r, p_now_rows, p_now_cols, p_now_high, p_now_wide, p_now_folds, p_now_wrong, p_now_more, p_now_rowOf, p_now_colOf, p_now_below, p_now_face, p_now_worn, p_now_last) ∧ fX9_sheet 700 y1 2 4 0 0 z9_shapeRows z9_shapeColumns z9_row z9_column (mm_zs 192) (mm_zs 192) (mm_zs 384) (mm_zs 384) = some (r, q_rowsOf, q_columnsOf, q_folded, q_wronged, q_shapeRows, q_shapeColumns, q_row, q_column, q_below, q_face, q_worn, q_lastBend) := by
  obtain ⟨r, ⟨p0, p1, p2, p3, p4, p5, p6, p7, p8, p9, p10, p11, p12⟩, ⟨q0, q1, q2, q3, q4, q5, q6, q7, q8, q9, q10, q11⟩, h8, h9⟩ := mm_sames (kk_0 y1)
  exact ⟨r, p0, p1, p2, p3, p4, p5, p6, p7, p8, p9, p10, p11, p12, q0, q1, q2, q3, q4, q5, q6, q7, q8, q9, q10, q11, h8, h9⟩
