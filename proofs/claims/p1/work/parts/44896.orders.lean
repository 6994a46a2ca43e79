/-! orders, by, with -/
set_option maxHeartbeats 8000000 in
set_option maxRecDepth 100000 in
theorem kk_21 (y1 : Int32) (y2 : Int32) : mm_same (fX8_orders 700 y1 y2 (mm_zs 680) (mm_zs 8) (mm_zs 7)) (fX9_orders 700 y1 y2 0 0 0 0 0 (mm_zs 7) (mm_zs 7)) = true := by
  by_cases h : 2 ≤ y1.toInt ∧ y1.toInt ≤ 7
  · rcases sb_six y1 h.1 h.2 with e | e | e | e | e | e
    · subst e
      exact sg_orders 2 y2 2 0 sg_l2 sg_f2 (List.replicate 7 (-1)) [1, 0, 0, 0, 0, 0, 0] [1, 0, 0, 0, 0, 0, 0] 0 sg_u2 (sg_ati 0 678 sg_u2 (by decide +kernel)) (by decide +kernel) (by decide) (by decide) (by decide) rfl rfl sg_h2 rfl sg_e2 sg_a2
    · subst e
      exact sg_orders 3 y2 6 2 sg_l3 sg_f3 (List.replicate 7 (-1)) [2, 1, 0, 0, 0, 0, 0] [2, 1, 0, 0, 0, 0, 0] 2 sg_u3 (sg_ati 2 672 sg_u3 (by decide +kernel)) (by decide +kernel) (by decide) (by decide) (by decide) rfl rfl sg_h3 rfl sg_e3 sg_a3
    · subst e
      exact sg_orders 4 y2 16 8 sg_l4 sg_f4 (List.replicate 7 (-1)) [3, 2, 1, 0, 0, 0, 0] [3, 2, 1, 0, 0, 0, 0] 8 sg_u4 (sg_ati 8 656 sg_u4 (by decide +kernel)) (by decide +kernel) (by decide) (by decide) (by decide) rfl rfl sg_h4 rfl sg_e4 sg_a4
    · subst e
      exact sg_orders 5 y2 50 24 sg_l5 sg_f5 (List.replicate 7 (-1)) [4, 3, 2, 1, 0, 0, 0] [4, 3, 2, 1, 0, 0, 0] 24 sg_u5 (sg_ati 24 606 sg_u5 (by decide +kernel)) (by decide +kernel) (by decide) (by decide) (by decide) rfl rfl sg_h5 rfl sg_e5 sg_a5
    · subst e
      exact sg_orders 6 y2 144 74 sg_l6 sg_f6 (List.replicate 7 (-1)) [5, 4, 3, 2, 1, 0, 0] [5, 4, 3, 2, 1, 0, 0] 74 sg_u6 (sg_ati 74 462 sg_u6 (by decide +kernel)) (by decide +kernel) (by decide) (by decide) (by decide) rfl rfl sg_h6 rfl sg_e6 sg_a6
    · subst e
      exact sg_orders 7 y2 462 218 sg_l7 sg_f7 (List.replicate 7 (-1)) [6, 5, 4, 3, 2, 1, 0] [6, 5, 4, 3, 2, 1, 0] 218 sg_u7 (sg_ati 218 0 sg_u7 (by decide +kernel)) (by decide +kernel) (by decide) (by decide) (by decide) rfl rfl sg_h7 rfl sg_e7 sg_a7
  · unfold fX8_orders fX9_orders
    rw [sb_n8f y1 (by omega), sb_n9f y1 (by omega)]
    rfl
set_option maxHeartbeats 8000000 in
set_option maxRecDepth 100000 in
theorem pp_21 (y1 : Int32) (y2 : Int32) : ∃ (r : Int32) (p_strip_list : List Int32) (p_strip_found : List Int32) (p_strip_at : List Int32) (q_soughtBy : Int32) (q_sought : Int32) (q_soughtAt : Int32) (q_foundMany : Int32) (q_foundOrder : Int32) (q_order1 : List Int32) (q_placeIn : List Int32), fX8_orders 700 y1 y2 (mm_zs 680) (mm_zs 8) (mm_zs 7) = some (r, p_strip_list, p_strip_found, p_strip_at) ∧ fX9_orders 700 y1 y2 0 0 0 0 0 (mm_zs 7) (mm_zs 7) = some (r, q_soughtBy, q_sought, q_soughtAt, q_foundMany, q_foundOrder, q_order1, q_placeIn) := by
  obtain ⟨r, ⟨p0, p1, p2⟩, ⟨q0, q1, q2, q3, q4, q5, q6⟩, h8, h9⟩ := mm_sames (kk_21 y1 y2)
  exact ⟨r, p0, p1, p2, q0, q1, q2, q3, q4, q5, q6, h8, h9⟩
set_option maxHeartbeats 8000000 in
set_option maxRecDepth 100000 in
theorem kk_23 (y1 : Int32) (y2 : Int32) (y3 : Int32) : mm_same (fX8_by 700 y1 y2 y3 (mm_zs 680) (mm_zs 8) (mm_zs 7)) (fX9_by 700 y1 y2 y3 0 0 0 0 0 (mm_zs 7) (mm_zs 7)) = true := by
  by_cases h : 2 ≤ y1.toInt ∧ y1.toInt ≤ 7
  · rcases sb_six y1 h.1 h.2 with e | e | e | e | e | e
    · subst e
      exact sg_by 2 y2 y3 2 2 0 sg_l2 sg_f2 (List.replicate 7 (-1)) [1, 0, 0, 0, 0, 0, 0] [1, 0, 0, 0, 0, 0, 0] 0 sg_u2 (sg_ati 0 678 sg_u2 (by decide +kernel)) (by decide +kernel) (by decide) (by decide) (by decide) rfl rfl sg_h2 rfl sg_e2 sg_a2 (by decide) (by decide)
    · subst e
      exact sg_by 3 y2 y3 4 6 2 sg_l3 sg_f3 (List.replicate 7 (-1)) [2, 1, 0, 0, 0, 0, 0] [2, 1, 0, 0, 0, 0, 0] 2 sg_u3 (sg_ati 2 672 sg_u3 (by decide +kernel)) (by decide +kernel) (by decide) (by decide) (by decide) rfl rfl sg_h3 rfl sg_e3 sg_a3 (by decide) (by decide)
    · subst e
      exact sg_by 4 y2 y3 8 16 8 sg_l4 sg_f4 (List.replicate 7 (-1)) [3, 2, 1, 0, 0, 0, 0] [3, 2, 1, 0, 0, 0, 0] 8 sg_u4 (sg_ati 8 656 sg_u4 (by decide +kernel)) (by decide +kernel) (by decide) (by decide) (by decide) rfl rfl sg_h4 rfl sg_e4 sg_a4 (by decide) (by decide)
    · subst e
      exact sg_by 5 y2 y3 16 50 24 sg_l5 sg_f5 (List.replicate 7 (-1)) [4, 3, 2, 1, 0, 0, 0] [4, 3, 2, 1, 0, 0, 0] 24 sg_u5 (sg_ati 24 606 sg_u5 (by decide +kernel)) (by decide +kernel) (by decide) (by decide) (by decide) rfl rfl sg_h5 rfl sg_e5 sg_a5 (by decide) (by decide)
    · subst e
      exact sg_by 6 y2 y3 32 144 74 sg_l6 sg_f6 (List.replicate 7 (-1)) [5, 4, 3, 2, 1, 0, 0] [5, 4, 3, 2, 1, 0, 0] 74 sg_u6 (sg_ati 74 462 sg_u6 (by decide +kernel)) (by decide +kernel) (by decide) (by decide) (by decide) rfl rfl sg_h6 rfl sg_e6 sg_a6 (by decide) (by decide)
    · subst e
      exact sg_by 7 y2 y3 64 462 218 sg_l7 sg_f7 (List.replicate 7 (-1)) [6, 5, 4, 3, 2, 1, 0] [6, 5, 4, 3, 2, 1, 0] 218 sg_u7 (sg_ati 218 0 sg_u7 (by decide +kernel)) (by decide +kernel) (by decide) (by decide) (by decide) rfl rfl sg_h7 rfl sg_e7 sg_a7 (by decide) (by decide)
  · unfold fX8_by fX9_by
    rw [sb_n8f y1 (by omega), sb_n9f y1 (by omega)]
    rfl
set_option maxHeartbeats 8000000 in
set_option maxRecDepth 100000 in
theorem pp_23 (y1 : Int32) (y2 : Int32) (y3 : Int32) : ∃ (r : Int32) (p_strip_list : List Int32) (p_strip_found : List Int32) (p_strip_at : List Int32) (q_soughtBy : Int32) (q_sought : Int32) (q_soughtAt : Int32) (q_foundMany : Int32) (q_foundOrder : Int32) (q_order1 : List Int32) (q_placeIn : List Int32), fX8_by 700 y1 y2 y3 (mm_zs 680) (mm_zs 8) (mm_zs 7) = some (r, p_strip_list, p_strip_found, p_strip_at) ∧ fX9_by 700 y1 y2 y3 0 0 0 0 0 (mm_zs 7) (mm_zs 7) = some (r, q_soughtBy, q_sought, q_soughtAt, q_foundMany, q_foundOrder, q_order1, q_placeIn) := by
  obtain ⟨r, ⟨p0, p1, p2⟩, ⟨q0, q1, q2, q3, q4, q5, q6⟩, h8, h9⟩ := mm_sames (kk_23 y1 y2 y3)
  exact ⟨r, p0, p1, p2, q0, q1, q2, q3, q4, q5, q6, h8, h9⟩
set_option maxHeartbeats 8000000 in
set_option maxRecDepth 100000 in
theorem kk_24 (y1 : Int32) (y2 : Int32) : mm_same (fX8_with 700 y1 y2 (mm_zs 680) (mm_zs 8) (mm_zs 7)) (fX9_with 700 y1 y2 0 0 0 0 0 (mm_zs 7) (mm_zs 7)) = true := by
  by_cases h : 2 ≤ y1.toInt ∧ y1.toInt ≤ 7
  · rcases sb_six y1 h.1 h.2 with e | e | e | e | e | e
    · subst e
      exact sg_with 2 y2 2 2 0 sg_l2 sg_f2 (List.replicate 7 (-1)) [1, 0, 0, 0, 0, 0, 0] [1, 0, 0, 0, 0, 0, 0] 0 sg_u2 (sg_ati 0 678 sg_u2 (by decide +kernel)) (by decide +kernel) (by decide) (by decide) (by decide) rfl rfl sg_h2 rfl sg_e2 sg_a2 (by decide) (by decide)
    · subst e
      exact sg_with 3 y2 3 6 2 sg_l3 sg_f3 (List.replicate 7 (-1)) [2, 1, 0, 0, 0, 0, 0] [2, 1, 0, 0, 0, 0, 0] 2 sg_u3 (sg_ati 2 672 sg_u3 (by decide +kernel)) (by decide +kernel) (by decide) (by decide) (by decide) rfl rfl sg_h3 rfl sg_e3 sg_a3 (by decide) (by decide)
    · subst e
      exact sg_with 4 y2 4 16 8 sg_l4 sg_f4 (List.replicate 7 (-1)) [3, 2, 1, 0, 0, 0, 0] [3, 2, 1, 0, 0, 0, 0] 8 sg_u4 (sg_ati 8 656 sg_u4 (by decide +kernel)) (by decide +kernel) (by decide) (by decide) (by decide) rfl rfl sg_h4 rfl sg_e4 sg_a4 (by decide) (by decide)
    · subst e
      exact sg_with 5 y2 5 50 24 sg_l5 sg_f5 (List.replicate 7 (-1)) [4, 3, 2, 1, 0, 0, 0] [4, 3, 2, 1, 0, 0, 0] 24 sg_u5 (sg_ati 24 606 sg_u5 (by decide +kernel)) (by decide +kernel) (by decide) (by decide) (by decide) rfl rfl sg_h5 rfl sg_e5 sg_a5 (by decide) (by decide)
    · subst e
      exact sg_with 6 y2 6 144 74 sg_l6 sg_f6 (List.replicate 7 (-1)) [5, 4, 3, 2, 1, 0, 0] [5, 4, 3, 2, 1, 0, 0] 74 sg_u6 (sg_ati 74 462 sg_u6 (by decide +kernel)) (by decide +kernel) (by decide) (by decide) (by decide) rfl rfl sg_h6 rfl sg_e6 sg_a6 (by decide) (by decide)
    · subst e
      exact sg_with 7 y2 7 462 218 sg_l7 sg_f7 (List.replicate 7 (-1)) [6, 5, 4, 3, 2, 1, 0] [6, 5, 4, 3, 2, 1, 0] 218 sg_u7 (sg_ati 218 0 sg_u7 (by decide +kernel)) (by decide +kernel) (by decide) (by decide) (by decide) rfl rfl sg_h7 rfl sg_e7 sg_a7 (by decide) (by decide)
  · unfold fX8_with fX9_with
    rw [sb_n8f y1 (by omega), sb_n9f y1 (by omega)]
    rfl
set_option maxHeartbeats 8000000 in
set_option maxRecDepth 100000 in
theorem pp_24 (y1 : Int32) (y2 : Int32) : ∃ (r : Int32) (p_strip_list : List Int32) (p_strip_found : List Int32) (p_strip_at : List Int32) (q_soughtBy : Int32) (q_sought : Int32) (q_soughtAt : Int32) (q_foundMany : Int32) (q_foundOrder : Int32) (q_order1 : List Int32) (q_placeIn : List Int32), fX8_with 700 y1 y2 (mm_zs 680) (mm_zs 8) (mm_zs 7) = some (r, p_strip_list, p_strip_found, p_strip_at) ∧ fX9_with 700 y1 y2 0 0 0 0 0 (mm_zs 7) (mm_zs 7) = some (r, q_soughtBy, q_sought, q_soughtAt, q_foundMany, q_foundOrder, q_order1, q_placeIn) := by
  obtain ⟨r, ⟨p0, p1, p2⟩, ⟨q0, q1, q2, q3, q4, q5, q6⟩, h8, h9⟩ := mm_sames (kk_24 y1 y2)
  exact ⟨r, p0, p1, p2, q0, q1, q2, q3, q4, q5, q6, h8, h9⟩
