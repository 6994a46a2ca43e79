/-! fold, cost -/
set_option maxHeartbeats 8000000 in
set_option maxRecDepth 100000 in
theorem kf_0 : ((List.range 4).all (fun i => mm_same (fX8_fold 700 (Int32.ofNat i) (Int32.ofNat 0) 2 4 2 4 0 0 0 z5_rowOf z5_colOf (mm_zs 32) (mm_zs 32) (mm_zs 64) (mm_zs 64) (mm_zs 64) (mm_zs 32) 0 0 (mm_zs 121) (mm_zs 121) 20) (fX9_fold 700 (Int32.ofNat i) (Int32.ofNat 0) 2 4 0 0 (-1) 0 0 0 0 0 0 0 0 z9_limit z9_shapeRows z9_shapeColumns z9_row z9_column (mm_zs 192) (mm_zs 192) (mm_zs 384) (mm_zs 384) (mm_zs 120) (mm_zs 120) (mm_zs 6) (mm_zs 64) (mm_zs 32) (mm_zs 32) (mm_zs 64)))) = true := by decide +kernel
set_option maxHeartbeats 8000000 in
set_option maxRecDepth 100000 in
theorem kf_1 : ((List.range 4).all (fun i => mm_same (fX8_fold 700 (Int32.ofNat i) (Int32.ofNat 1) 2 4 2 4 0 0 0 z5_rowOf z5_colOf (mm_zs 32) (mm_zs 32) (mm_zs 64) (mm_zs 64) (mm_zs 64) (mm_zs 32) 0 0 (mm_zs 121) (mm_zs 121) 20) (fX9_fold 700 (Int32.ofNat i) (Int32.ofNat 1) 2 4 0 0 (-1) 0 0 0 0 0 0 0 0 z9_limit z9_shapeRows z9_shapeColumns z9_row z9_column (mm_zs 192) (mm_zs 192) (mm_zs 384) (mm_zs 384) (mm_zs 120) (mm_zs 120) (mm_zs 6) (mm_zs 64) (mm_zs 32) (mm_zs 32) (mm_zs 64)))) = true := by decide +kernel
set_option maxHeartbeats 8000000 in
set_option maxRecDepth 100000 in
theorem kf_2 : ((List.range 4).all (fun i => mm_same (fX8_fold 700 (Int32.ofNat i) (Int32.ofNat 2) 2 4 2 4 0 0 0 z5_rowOf z5_colOf (mm_zs 32) (mm_zs 32) (mm_zs 64) (mm_zs 64) (mm_zs 64) (mm_zs 32) 0 0 (mm_zs 121) (mm_zs 121) 20) (fX9_fold 700 (Int32.ofNat i) (Int32.ofNat 2) 2 4 0 0 (-1) 0 0 0 0 0 0 0 0 z9_limit z9_shapeRows z9_shapeColumns z9_row z9_column (mm_zs 192) (mm_zs 192) (mm_zs 384) (mm_zs 384) (mm_zs 120) (mm_zs 120) (mm_zs 6) (mm_zs 64) (mm_zs 32) (mm_zs 32) (mm_zs 64)))) = true := by decide +kernel
set_option maxHeartbeats 8000000 in
set_option maxRecDepth 100000 in
theorem kf_3 : ((List.range 4).all (fun i => mm_same (fX8_fold 700 (Int32.ofNat i) (Int32.ofNat 3) 2 4 2 4 0 0 0 z5_rowOf z5_colOf (mm_zs 32) (mm_zs 32) (mm_zs 64) (mm_zs 64) (mm_zs 64) (mm_zs 32) 0 0 (mm_zs 121) (mm_zs 121) 20) (fX9_fold 700 (Int32.ofNat i) (Int32.ofNat 3) 2 4 0 0 (-1) 0 0 0 0 0 0 0 0 z9_limit z9_shapeRows z9_shapeColumns z9_row z9_column (mm_zs 192) (mm_zs 192) (mm_zs 384) (mm_zs 384) (mm_zs 120) (mm_zs 120) (mm_zs 6) (mm_zs 64) (mm_zs 32) (mm_zs 32) (mm_zs 64)))) = true := by decide +kernel
set_option maxHeartbeats 8000000 in
set_option maxRecDepth 100000 in
theorem kf_4 : ((List.range 4).all (fun i => mm_same (fX8_fold 700 (Int32.ofNat i) (Int32.ofNat 4) 2 4 2 4 0 0 0 z5_rowOf z5_colOf (mm_zs 32) (mm_zs 32) (mm_zs 64) (mm_zs 64) (mm_zs 64) (mm_zs 32) 0 0 (mm_zs 121) (mm_zs 121) 20) (fX9_fold 700 (Int32.ofNat i) (Int32.ofNat 4) 2 4 0 0 (-1) 0 0 0 0 0 0 0 0 z9_limit z9_shapeRows z9_shapeColumns z9_row z9_column (mm_zs 192) (mm_zs 192) (mm_zs 384) (mm_zs 384) (mm_zs 120) (mm_zs 120) (mm_zs 6) (mm_zs 64) (mm_zs 32) (mm_zs 32) (mm_zs 64)))) = true := by decide +kernel
set_option maxHeartbeats 8000000 in
set_option maxRecDepth 100000 in
theorem kf_5 : ((List.range 4).all (fun i => mm_same (fX8_fold 700 (Int32.ofNat i) (Int32.ofNat 5) 2 4 2 4 0 0 0 z5_rowOf z5_colOf (mm_zs 32) (mm_zs 32) (mm_zs 64) (mm_zs 64) (mm_zs 64) (mm_zs 32) 0 0 (mm_zs 121) (mm_zs 121) 20) (fX9_fold 700 (Int32.ofNat i) (Int32.ofNat 5) 2 4 0 0 (-1) 0 0 0 0 0 0 0 0 z9_limit z9_shapeRows z9_shapeColumns z9_row z9_column (mm_zs 192) (mm_zs 192) (mm_zs 384) (mm_zs 384) (mm_zs 120) (mm_zs 120) (mm_zs 6) (mm_zs 64) (mm_zs 32) (mm_zs 32) (mm_zs 64)))) = true := by decide +kernel
set_option maxHeartbeats 8000000 in
set_option maxRecDepth 100000 in
theorem kf_6 : ((List.range 4).all (fun i => mm_same (fX8_fold 700 (Int32.ofNat i) (Int32.ofNat 6) 2 4 2 4 0 0 0 z5_rowOf z5_colOf (mm_zs 32) (mm_zs 32) (mm_zs 64) (mm_zs 64) (mm_zs 64) (mm_zs 32) 0 0 (mm_zs 121) (mm_zs 121) 20) (fX9_fold 700 (Int32.ofNat i) (Int32.ofNat 6) 2 4 0 0 (-1) 0 0 0 0 0 0 0 0 z9_limit z9_shapeRows z9_shapeColumns z9_row z9_column (mm_zs 192) (mm_zs 192) (mm_zs 384) (mm_zs 384) (mm_zs 120) (mm_zs 120) (mm_zs 6) (mm_zs 64) (mm_zs 32) (mm_zs 32) (mm_zs 64)))) = true := by decide +kernel
set_option maxHeartbeats 8000000 in
set_option maxRecDepth 100000 in
theorem kf_7 : ((List.range 4).all (fun i => mm_same (fX8_fold 700 (Int32.ofNat i) (Int32.ofNat 7) 2 4 2 4 0 0 0 z5_rowOf z5_colOf (mm_zs 32) (mm_zs 32) (mm_zs 64) (mm_zs 64) (mm_zs 64) (mm_zs 32) 0 0 (mm_zs 121) (mm_zs 121) 20) (fX9_fold 700 (Int32.ofNat i) (Int32.ofNat 7) 2 4 0 0 (-1) 0 0 0 0 0 0 0 0 z9_limit z9_shapeRows z9_shapeColumns z9_row z9_column (mm_zs 192) (mm_zs 192) (mm_zs 384) (mm_zs 384) (mm_zs 120) (mm_zs 120) (mm_zs 6) (mm_zs 64) (mm_zs 32) (mm_zs 32) (mm_zs 64)))) = true := by decide +kernel
set_option maxHeartbeats 8000000 in
set_option maxRecDepth 100000 in
theorem kk_4 (y1 : Int32) (y2 : Int32) : mm_same (fX8_fold 700 y1 y2 2 4 2 4 0 0 0 z5_rowOf z5_colOf (mm_zs 32) (mm_zs 32) (mm_zs 64) (mm_zs 64) (mm_zs 64) (mm_zs 32) 0 0 (mm_zs 121) (mm_zs 121) 20) (fX9_fold 700 y1 y2 2 4 0 0 (-1) 0 0 0 0 0 0 0 0 z9_limit z9_shapeRows z9_shapeColumns z9_row z9_column (mm_zs 192) (mm_zs 192) (mm_zs 384) (mm_zs 384) (mm_zs 120) (mm_zs 120) (mm_zs 6) (mm_zs 64) (mm_zs 32) (mm_zs 32) (mm_zs 64)) = true := by
  by_cases h : 0 ≤ y2.toInt ∧ y2.toInt < 8
  · by_cases g : 0 ≤ y1.toInt ∧ y1.toInt < 4
    · refine rg_all2 (fun z y => mm_same (fX8_fold 700 y z 2 4 2 4 0 0 0 z5_rowOf z5_colOf (mm_zs 32) (mm_zs 32) (mm_zs 64) (mm_zs 64) (mm_zs 64) (mm_zs 32) 0 0 (mm_zs 121) (mm_zs 121) 20) (fX9_fold 700 y z 2 4 0 0 (-1) 0 0 0 0 0 0 0 0 z9_limit z9_shapeRows z9_shapeColumns z9_row z9_column (mm_zs 192) (mm_zs 192) (mm_zs 384) (mm_zs 384) (mm_zs 120) (mm_zs 120) (mm_zs 6) (mm_zs 64) (mm_zs 32) (mm_zs 32) (mm_zs 64))) 8 4 ?_ y2 y1 h.1 h.2 g.1 g.2
      have e : List.range 8 = [0, 1, 2, 3, 4, 5, 6, 7] := by decide
      rw [e]
      simp only [List.all_cons, List.all_nil, kf_0, kf_1, kf_2, kf_3, kf_4, kf_5, kf_6, kf_7, Bool.and_true]
    · have w8 : fX8_isWay 700 y2 = some true := by
        unfold fX8_isWay
        rw [if_neg (rg_n (b := 0) (by decide) (by omega)), if_neg (rg_mn (b := 8) (by decide) (by omega))]
      have l8 : fX5_hasLine 700 y1 y2 2 4 = some false := by
        unfold fX5_hasLine
        by_cases k : y1.toInt < 1
        · rw [if_pos (rg_p (b := 1) (by decide) k)]
        · rw [if_neg (rg_n (b := 1) (by decide) (by omega))]
          unfold fX5_span
          by_cases c : (4 : Int32) ≤ y2
          · rw [if_pos c]
            show (if (2 : Int32) ≤ y1 then _ else _) = _
            rw [if_pos (rg_mp (b := 2) (by decide) (by omega))]
          · rw [if_neg c]
            show (if (4 : Int32) ≤ y1 then _ else _) = _
            rw [if_pos (rg_mp (b := 4) (by decide) (by omega))]
      have l9 : fX9_isLine 700 0 y1 y2 z9_shapeRows z9_shapeColumns = some false := by
        unfold fX9_isLine
        by_cases c : (4 : Int32) ≤ y2
        · rw [if_pos c]
          show mm_bd1 (fX9_within 700 y1.toInt64 1 ((2 : Int32) - 1).toInt64) _ = _
          rw [rg_wf 700 y1 (a := 1) (b := 1) (by decide) (by decide) (by omega)]
          rfl
        · rw [if_neg c]
          show mm_bd1 (fX9_within 700 y1.toInt64 1 ((4 : Int32) - 1).toInt64) _ = _
          rw [rg_wf 700 y1 (a := 1) (b := 3) (by decide) (by decide) (by omega)]
          rfl
      unfold fX8_fold fX9_fold
      rw [w8, l8, l9, rg_wt 700 y2 (a := 0) (b := 7) (by decide) (by decide) h.1 (by omega)]
      rfl
  · have w8 : fX8_isWay 700 y2 = some false := by
      unfold fX8_isWay
      by_cases k : y2.toInt < 0
      · rw [if_pos (rg_p (b := 0) (by decide) k)]
      · rw [if_neg (rg_n (b := 0) (by decide) (by omega)), if_pos (rg_mp (b := 8) (by decide) (by omega))]
    unfold fX8_fold fX9_fold
    rw [w8, rg_wf 700 y2 (a := 0) (b := 7) (by decide) (by decide) (by omega)]
    rfl
set_option maxHeartbeats 8000000 in
set_option maxRecDepth 100000 in
theorem pp_4 (y1 : Int32) (y2 : Int32) : ∃ (r : Int32) (p_now_high : Int32) (p_now_wide : Int32) (p_now_folds : Int32) (p_now_wrong : Int32) (p_now_more : Int32) (p_now_rowOf : List Int32) (p_now_colOf : List Int32) (p_now_below : List Int32) (p_now_face : List Int32) (p_now_worn : List Int32) (p_now_last : List Int32) (p_now_bend : List Int32) (p_now_tall : List Int32) (p_wearing_stacked : Int32) (p_wearing_stack : List Int32) (q_folded : Int32) (q_wronged : Int32) (q_base : Int32) (q_at : Int32) (q_ends : Int32) (q_fault : Int32) (q_opened : Int32) (q_bentMany : Int32) (q_bentWrong : Int32) (q_moreWorn : Int32) (q_shapeRows : List Int32) (q_shapeColumns : List Int32) (q_row : List Int32) (q_column : List Int32) (q_below : List Int32) (q_face : List Int32) (q_worn : List Int32) (q_lastBend : List Int32) (q_names : List Int32) (q_bends : List Int32) (q_high : List Int32) (q_to : List Int32) (q_pileSize : List Int32), fX8_fold 700 y1 y2 2 4 2 4 0 0 0 z5_rowOf z5_colOf (mm_zs 32) (mm_zs 32) (mm_zs 64) (mm_zs 64) (mm_zs 64) (mm_zs 32) 0 0 (mm_zs 121) (mm_zs 121) 20 = some (r, p_now_high, p_now_wide, p_now_folds, p_now_wrong, p_now_more, p_now_rowOf, p_now_colOf, p_now_below, p_now_face, p_now_worn, p_now_last, p_now_bend, p_now_tall, p_wearing_stacked, p_wearing_stack) ∧ fX9_fold 700 y1 y2 2 4 0 0 (-1) 0 0 0 0 0 0 0 0 z9_limit z9_shapeRows z9_shapeColumns z9_row z9_column (mm_zs 192) (mm_zs 192) (mm_zs 384) (mm_zs 384) (mm_zs 120) (mm_zs 120) (mm_zs 6) (mm_zs 64) (mm_zs 32) (mm_zs 32) (mm_zs 64) = some (r, q_folded, q_wronged, q_base, q_at, q_ends, q_fault, q_opened, q_bentMany, q_bentWrong, q_moreWorn, q_shapeRows, q_shapeColumns, q_row, q_column, q_below, q_face, q_worn, q_lastBend, q_names, q_bends, q_high, q_to, q_pileSize) := by
  obtain ⟨r, ⟨p0, p1, p2, p3, p4, p5, p6, p7, p8, p9, p10, p11, p12, p13, p14⟩, ⟨q0, q1, q2, q3, q4, q5, q6, q7, q8, q9, q10, q11, q12, q13, q14, q15, q16, q17, q18, q19, q20, q21, q22⟩, h8, h9⟩ := mm_sames (kk_4 y1 y2)
  exact ⟨r, p0, p1, p2, p3, p4, p5, p6, p7, p8, p9, p10, p11, p12, p13, p14, q0, q1, q2, q3, q4, q5, q6, q7, q8, q9, q10, q11, q12, q13, q14, q15, q16, q17, q18, q19, q20, q21, q22, h8, h9⟩
set_option maxHeartbeats 8000000 in
set_option maxRecDepth 100000 in
theorem kk_13 (y1 : Int32) : mm_same (fX8_cost 700 y1 2 4 2 4 0 0 0 z5_rowOf z5_colOf (mm_zs 32) (mm_zs 32) (mm_zs 64) (mm_zs 64) 0 0 (mm_zs 121) (mm_zs 121) 0 2 4 2 4 0 0 0 z5_rowOf z5_colOf (mm_zs 32) (mm_zs 32) (mm_zs 64) (mm_zs 64) (mm_zs 64) (mm_zs 32) (mm_zs 12) (mm_zs 12) 20) (fX9_cost 700 y1 2 4 (-1) 0 0 0 0 0 0 0 0 0 0 0 0 z9_limit z9_shapeRows z9_shapeColumns z9_row z9_column (mm_zs 192) (mm_zs 192) (mm_zs 384) (mm_zs 384) (mm_zs 120) (mm_zs 120) (mm_zs 6) (mm_zs 64) (mm_zs 32) (mm_zs 32) (mm_zs 64) (mm_zs 12) (mm_zs 12)) = true := by
  by_cases h : 0 ≤ y1.toInt ∧ y1.toInt < 4
  · exact rg_all (fun y => mm_same (fX8_cost 700 y 2 4 2 4 0 0 0 z5_rowOf z5_colOf (mm_zs 32) (mm_zs 32) (mm_zs 64) (mm_zs 64) 0 0 (mm_zs 121) (mm_zs 121) 0 2 4 2 4 0 0 0 z5_rowOf z5_colOf (mm_zs 32) (mm_zs 32) (mm_zs 64) (mm_zs 64) (mm_zs 64) (mm_zs 32) (mm_zs 12) (mm_zs 12) 20) (fX9_cost 700 y 2 4 (-1) 0 0 0 0 0 0 0 0 0 0 0 0 z9_limit z9_shapeRows z9_shapeColumns z9_row z9_column (mm_zs 192) (mm_zs 192) (mm_zs 384) (mm_zs 384) (mm_zs 120) (mm_zs 120) (mm_zs 6) (mm_zs 64) (mm_zs 32) (mm_zs 32) (mm_zs 64) (mm_zs 12) (mm_zs 12))) 4 (by decide +kernel) y1 h.1 h.2
  · unfold fX8_cost fX9_cost
    rw [rg_wf 700 y1 (a := 0) (b := 3) (by decide) (by decide) (by omega)]
    by_cases k : y1.toInt < 0
    · rw [if_pos (rg_p (b := 0) (by decide) k)]; rfl
    · rw [if_neg (rg_n (b := 0) (by decide) (by omega)), if_neg (rg_en (b := 3) (by decide) (by omega))]; rfl
set_option maxHeartbeats 8000000 in
set_option maxRecDepth 100000 in
theorem pp_13 (y1 : Int32) : ∃ (r : Int32) (p_wearing_stacked : Int32) (p_wearing_stack : List Int32) (p_planned_trial_rows : Int32) (p_planned_trial_cols : Int32) (p_planned_trial_high : Int32) (p_planned_trial_wide : Int32) (p_planned_trial_folds : Int32) (p_planned_trial_wrong : Int32) (p_planned_trial_more : Int32) (p_planned_trial_rowOf : List Int32) (p_planned_trial_colOf : List Int32) (p_planned_trial_below : List Int32) (p_planned_trial_face : List Int32) (p_planned_trial_worn : List Int32) (p_planned_trial_last : List Int32) (p_planned_trial_bend : List Int32) (p_planned_trial_tall : List Int32) (q_base : Int32) (q_at : Int32) (q_ends : Int32) (q_fault : Int32) (q_opened : Int32) (q_bentMany : Int32) (q_bentWrong : Int32) (q_moreWorn : Int32) (q_allWrong : Int32) (q_allWorn : Int32) (q_z : Int32) (q_shapeRows : List Int32) (q_shapeColumns : List Int32) (q_row : List Int32) (q_column : List Int32) (q_below : List Int32) (q_face : List Int32) (q_worn : List Int32) (q_lastBend : List Int32) (q_names : List Int32) (q_bends : List Int32) (q_high : List Int32) (q_to : List Int32) (q_pileSize : List Int32), fX8_cost 700 y1 2 4 2 4 0 0 0 z5_rowOf z5_colOf (mm_zs 32) (mm_zs 32) (mm_zs 64) (mm_zs 64) 0 0 (mm_zs 121) (mm_zs 121) 0 2 4 2 4 0 0 0 z5_rowOf z5_colOf (mm_zs 32) (mm_zs 32) (mm_zs 64) (mm_zs 64) (mm_zs 64) (mm_zs 32) (mm_zs 12) (mm_zs 12) 20 = some (r, p_wearing_stacked, p_wearing_stack, p_planned_trial_rows, p_planned_trial_cols, p_planned_trial_high, p_planned_trial_wide, p_planned_trial_folds, p_planned_trial_wrong, p_planned_trial_more, p_planned_trial_rowOf, p_planned_trial_colOf, p_planned_trial_below, p_planned_trial_face, p_planned_trial_worn, p_planned_trial_last, p_planned_trial_bend, p_planned_trial_tall) ∧ fX9_cost 700 y1 2 4 (-1) 0 0 0 0 0 0 0 0 0 0 0 0 z9_limit z9_shapeRows z9_shapeColumns z9_row z9_column (mm_zs 192) (mm_zs 192) (mm_zs 384) (mm_zs 384) (mm_zs 120) (mm_zs 120) (mm_zs 6) (mm_zs 64) (mm_zs 32) (mm_zs 32) (mm_zs 64) (mm_zs 12) (mm_zs 12) = some (r, q_base, q_at, q_ends, q_fault, q_opened, q_bentMany, q_bentWrong, q_moreWorn, q_allWrong, q_allWorn, q_z, q_shapeRows, q_shapeColumns, q_row, q_column, q_below, q_face, q_worn, q_lastBend, q_names, q_bends, q_high, q_to, q_pileSize) := by
  obtain ⟨r, ⟨p0, p1, p2, p3, p4, p5, p6, p7, p8, p9, p10, p11, p12, p13, p14, p15, p16⟩, ⟨q0, q1, q2, q3, q4, q5, q6, q7, q8, q9, q10, q11, q12, q13, q14, q15, q16, q17, q18, q19, q20, q21, q22, q23⟩, h8, h9⟩ := mm_sames (kk_13 y1)
  exact ⟨r, p0, p1, p2, p3, p4, p5, p6, p7, p8, p9, p10, p11, p12, p13, p14, p15, p16, q0, q1, q2, q3, q4, q5, q6, q7, q8, q9, q10, q11, q12, q13, q14, q15, q16, q17, q18, q19, q20, q21, q22, q23, h8, h9⟩
