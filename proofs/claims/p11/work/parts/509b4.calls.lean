section
/-! The geometry kept: sheet, fold, flat, image, back -/
set_option maxHeartbeats 4000000 in
set_option maxRecDepth 20000 in
theorem rs_sheet_ge {x1 : Int32} {v_now_rows : Int32} {v_now_cols : Int32} {v_now_high : Int32} {v_now_wide : Int32} {v_now_folds : Int32} {v_now_wrong : Int32} {v_now_more : Int32} {v_now_rowOf : List Int32} {v_now_colOf : List Int32} {v_now_below : List Int32} {v_now_face : List Int32} {v_now_worn : List Int32} {v_now_last : List Int32} {v_now_bend : List Int32} {v_now_tall : List Int32} {v_hasImage : Bool} {v_kept_rows : Int32} {v_kept_cols : Int32} {v_kept_high : Int32} {v_kept_wide : Int32} {v_kept_folds : Int32} {v_kept_rowOf : List Int32} {v_kept_colOf : List Int32} {v_kept_below : List Int32} {v_kept_face : List Int32} {m_rowsOf : Int32} {m_columnsOf : Int32} {m_folded : Int32} {m_wronged : Int32} {m_shapeRows : List Int32} {m_shapeColumns : List Int32} {m_row : List Int32} {m_column : List Int32} {m_below : List Int32} {m_face : List Int32} {m_worn : List Int32} {m_lastBend : List Int32} {m_isKept : Bool} {m_imageRows : Int32} {m_imageColumns : Int32} {m_imageFolded : Int32} (g8_0 : gi_sh v_now_rows v_now_cols v_now_high v_now_wide v_now_rowOf v_now_colOf v_now_below v_now_face v_now_worn v_now_last v_now_bend v_now_tall) (g9_0 : gm_sh m_rowsOf m_columnsOf m_isKept m_imageRows m_imageColumns m_shapeRows m_shapeColumns m_row m_column m_below m_face m_worn m_lastBend) (hr_0 : rl_ge v_now_rows v_now_cols v_now_high v_now_wide v_now_folds v_now_rowOf v_now_colOf v_now_below v_now_face v_hasImage v_kept_rows v_kept_cols v_kept_high v_kept_wide v_kept_folds v_kept_rowOf v_kept_colOf v_kept_below v_kept_face m_rowsOf m_columnsOf m_folded m_isKept m_imageRows m_imageColumns m_imageFolded m_shapeRows m_shapeColumns m_row m_column m_below m_face) : ∃ (r8 : Int32) (p_now_rows : Int32) (p_now_cols : Int32) (p_now_high : Int32) (p_now_wide : Int32) (p_now_folds : Int32) (p_now_wrong : Int32) (p_now_more : Int32) (p_now_rowOf : List Int32) (p_now_colOf : List Int32) (p_now_below : List Int32) (p_now_face : List Int32) (p_now_worn : List Int32) (p_now_last : List Int32) (r9 : Int32) (q_rowsOf : Int32) (q_columnsOf : Int32) (q_folded : Int32) (q_wronged : Int32) (q_shapeRows : List Int32) (q_shapeColumns : List Int32) (q_row : List Int32) (q_column : List Int32) (q_below : List Int32) (q_face : List Int32) (q_worn : List Int32) (q_lastBend : List Int32), fX8_sheet 700 x1 v_now_rows v_now_cols v_now_high v_now_wide v_now_folds v_now_wrong v_now_more v_now_rowOf v_now_colOf v_now_below v_now_face v_now_worn v_now_last = some (r8, p_now_rows, p_now_cols, p_now_high, p_now_wide, p_now_folds, p_now_wrong, p_now_more, p_now_rowOf, p_now_colOf, p_now_below, p_now_face, p_now_worn, p_now_last) ∧ fX9_sheet 700 x1 m_rowsOf m_columnsOf m_folded m_wronged m_shapeRows m_shapeColumns m_row m_column m_below m_face m_worn m_lastBend = some (r9, q_rowsOf, q_columnsOf, q_folded, q_wronged, q_shapeRows, q_shapeColumns, q_row, q_column, q_below, q_face, q_worn, q_lastBend) ∧ gi_sh p_now_rows p_now_cols p_now_high p_now_wide p_now_rowOf p_now_colOf p_now_below p_now_face p_now_worn p_now_last v_now_bend v_now_tall ∧ gm_sh q_rowsOf q_columnsOf m_isKept m_imageRows m_imageColumns q_shapeRows q_shapeColumns q_row q_column q_below q_face q_worn q_lastBend ∧ rl_ge p_now_rows p_now_cols p_now_high p_now_wide p_now_folds p_now_rowOf p_now_colOf p_now_below p_now_face v_hasImage v_kept_rows v_kept_cols v_kept_high v_kept_wide v_kept_folds v_kept_rowOf v_kept_colOf v_kept_below v_kept_face q_rowsOf q_columnsOf q_folded m_isKept m_imageRows m_imageColumns m_imageFolded q_shapeRows q_shapeColumns q_row q_column q_below q_face := by
  obtain ⟨⟨r8, p_now_rows, p_now_cols, p_now_high, p_now_wide, p_now_folds, p_now_wrong, p_now_more, p_now_rowOf, p_now_colOf, p_now_below, p_now_face, p_now_worn, p_now_last⟩, e8, -⟩ := st8_sheet (x1 := x1) (v_now_folds := v_now_folds) (v_now_wrong := v_now_wrong) (v_now_more := v_now_more) g8_0
  obtain ⟨⟨r9, q_rowsOf, q_columnsOf, q_folded, q_wronged, q_shapeRows, q_shapeColumns, q_row, q_column, q_below, q_face, q_worn, q_lastBend⟩, e9, -⟩ := st9_sheet (x1 := x1) (v_folded := m_folded) (v_wronged := m_wronged) g9_0
  have k8 := wp_get (st8_sheet g8_0) e8
  have k9 := wp_get (st9_sheet g9_0) e9
  obtain ⟨a0, a1, a2, a3, a4, a5, a6, a7, a8, a9, a10, a11, a12, a13, a14, a15, a16, a17⟩ := id g8_0
  obtain ⟨z0, z1, z2, z3, z4, z5, z6, z7, z8, z9, z10, z11, z12, z13⟩ := id g9_0
  have n0 : (0 : Int32).toInt = 0 := by decide
  have n5 : (5 : Int32).toInt = 5 := by decide
  have y0 : (0 : Int32).toInt.toNat = 0 := by decide
  have y5 : (5 : Int32).toInt.toNat = 5 := by decide
  obtain ⟨b1, b2, b3, b4, b5, b6⟩ := hr_0
  have R : rl_ge p_now_rows p_now_cols p_now_high p_now_wide p_now_folds p_now_rowOf p_now_colOf p_now_below p_now_face v_hasImage v_kept_rows v_kept_cols v_kept_high v_kept_wide v_kept_folds v_kept_rowOf v_kept_colOf v_kept_below v_kept_face q_rowsOf q_columnsOf q_folded m_isKept m_imageRows m_imageColumns m_imageFolded q_shapeRows q_shapeColumns q_row q_column q_below q_face := by
    rcases st_8 a8 a9 a10 a11 a12 a13 e8 with ⟨o8, h8⟩ | ⟨o8, h8⟩
    · rcases st_9 z6 z7 z8 z9 z10 z11 e9 with ⟨o9, h9⟩ | ⟨o9, h9⟩
      · obtain ⟨c1, c2, c3, c4, c5, c6, c7, c8, c9, c10, c11, c12, c13, c14⟩ := h8
        obtain ⟨d1, d2, d3, d4, d5, d6, d7, d8, d9, d10, d11, d12, d13⟩ := h9
        subst c2 c3 c4 c5 c6 c9 c10 c11 c12 d2 d3 d4 d6 d7 d8 d9 d10 d11
        exact ⟨b1, b2, b3, b4, b5, b6⟩
      · exact absurd o9 o8
    · rcases st_9 z6 z7 z8 z9 z10 z11 e9 with ⟨o9, h9⟩ | ⟨o9, h9⟩
      · exact absurd o8 o9
      · obtain ⟨c1, c2, c3, c4, c5, c6, c7, c8, c9, c10⟩ := h8
        obtain ⟨d1, d2, d3, d4, d5, d6, d7, d8, d9, d10, d11⟩ := h9
        rw [c2, c3, c4, c5, c6, d2, d3, d4, d6, d7]
        refine ⟨rfl, rfl, rfl, b4, ⟨?_, ?_, fl_x c9 d9⟩, fun hk => ?_⟩
        · rw [ge_is _ _ _ _ (by omega), y0, if_pos rfl]
        · rw [ge_is _ _ _ _ (by omega), y0, if_pos rfl]
        · obtain ⟨f1, f2, f3, f4⟩ := b6 hk
          subst f1 f2
          have hk2 : ¬ (m_isKept = false) := by rw [b4, hk]; decide
          obtain ⟨u0, u1, u2, u3, -⟩ := z13 hk2
          refine ⟨rfl, rfl, f3, lg_t f4 (i_fl u0 u1 u2 u3).2.2 ?_ ?_ (fun j j0 j1 => d8 j (by omega) (by omega))⟩
          · rw [ge_is _ _ _ _ (by omega), y0, if_neg (by decide)]
          · rw [ge_is _ _ _ _ (by omega), y0, if_neg (by decide)]
  exact ⟨_, _, _, _, _, _, _, _, _, _, _, _, _, _, _, _, _, _, _, _, _, _, _, _, _, _, _, e8, e9, k8, k9, R⟩
set_option maxHeartbeats 4000000 in
set_option maxRecDepth 20000 in
theorem rs_fold_ge {x1 : Int32} {x2 : Int32} {v_now_rows : Int32} {v_now_cols : Int32} {v_now_high : Int32} {v_now_wide : Int32} {v_now_folds : Int32} {v_now_wrong : Int32} {v_now_more : Int32} {v_now_rowOf : List Int32} {v_now_colOf : List Int32} {v_now_below : List Int32} {v_now_face : List Int32} {v_now_worn : List Int32} {v_now_last : List Int32} {v_now_bend : List Int32} {v_now_tall : List Int32} {v_wearing_stepCount : Int32} {v_wearing_stacked : Int32} {v_wearing_steps : List Int32} {v_wearing_stack : List Int32} {v_changes_value : Int32} {v_wearing_size : Int32} {v_wearing_draftCount : Int32} {v_wearing_tape : List Int32} {v_wearing_draft : List Int32} {v_hasImage : Bool} {v_kept_rows : Int32} {v_kept_cols : Int32} {v_kept_high : Int32} {v_kept_wide : Int32} {v_kept_folds : Int32} {v_kept_rowOf : List Int32} {v_kept_colOf : List Int32} {v_kept_below : List Int32} {v_kept_face : List Int32} {m_rowsOf : Int32} {m_columnsOf : Int32} {m_folded : Int32} {m_wronged : Int32} {m_textMany : Int32} {m_base : Int32} {m_at : Int32} {m_ends : Int32} {m_fault : Int32} {m_opened : Int32} {m_bentMany : Int32} {m_bentWrong : Int32} {m_moreWorn : Int32} {m_limit : List Int32} {m_shapeRows : List Int32} {m_shapeColumns : List Int32} {m_row : List Int32} {m_column : List Int32} {m_below : List Int32} {m_face : List Int32} {m_worn : List Int32} {m_lastBend : List Int32} {m_tape : List Int32} {m_text : List Int32} {m_names : List Int32} {m_bends : List Int32} {m_high : List Int32} {m_to : List Int32} {m_pileSize : List Int32} {m_keptMany : Int32} {m_done : Int32} {m_changeWas : List Int32} {m_changeIs : List Int32} {m_isKept : Bool} {m_imageRows : Int32} {m_imageColumns : Int32} {m_tapeMany : Int32} {m_imageFolded : Int32} (g8_0 : gi_sh v_now_rows v_now_cols v_now_high v_now_wide v_now_rowOf v_now_colOf v_now_below v_now_face v_now_worn v_now_last v_now_bend v_now_tall) (g8_1 : gi_la v_wearing_size v_wearing_stepCount v_wearing_draftCount v_wearing_tape v_wearing_steps v_wearing_draft v_wearing_stack) (g9_0 : gm_ch m_keptMany m_done m_limit m_changeWas m_changeIs) (g9_1 : gm_sh m_rowsOf m_columnsOf m_isKept m_imageRows m_imageColumns m_shapeRows m_shapeColumns m_row m_column m_below m_face m_worn m_lastBend) (g9_2 : gm_tx m_tapeMany m_textMany m_tape m_text m_names m_bends m_high m_to m_pileSize) (hr_0 : rl_ge v_now_rows v_now_cols v_now_high v_now_wide v_now_folds v_now_rowOf v_now_colOf v_now_below v_now_face v_hasImage v_kept_rows v_kept_cols v_kept_high v_kept_wide v_kept_folds v_kept_rowOf v_kept_colOf v_kept_below v_kept_face m_rowsOf m_columnsOf m_folded m_isKept m_imageRows m_imageColumns m_imageFolded m_shapeRows m_shapeColumns m_row m_column m_below m_face) : ∃ (r8 : Int32) (p_now_high : Int32) (p_now_wide : Int32) (p_now_folds : Int32) (p_now_wrong : Int32) (p_now_more : Int32) (p_now_rowOf : List Int32) (p_now_colOf : List Int32) (p_now_below : List Int32) (p_now_face : List Int32) (p_now_worn : List Int32) (p_now_last : List Int32) (p_now_bend : List Int32) (p_now_tall : List Int32) (p_wearing_stacked : Int32) (p_wearing_stack : List Int32) (r9 : Int32) (q_folded : Int32) (q_wronged : Int32) (q_base : Int32) (q_at : Int32) (q_ends : Int32) (q_fault : Int32) (q_opened : Int32) (q_bentMany : Int32) (q_bentWrong : Int32) (q_moreWorn : Int32) (q_shapeRows : List Int32) (q_shapeColumns : List Int32) (q_row : List Int32) (q_column : List Int32) (q_below : List Int32) (q_face : List Int32) (q_worn : List Int32) (q_lastBend : List Int32) (q_names : List Int32) (q_bends : List Int32) (q_high : List Int32) (q_to : List Int32) (q_pileSize : List Int32), fX8_fold 700 x1 x2 v_now_rows v_now_cols v_now_high v_now_wide v_now_folds v_now_wrong v_now_more v_now_rowOf v_now_colOf v_now_below v_now_face v_now_worn v_now_last v_now_bend v_now_tall v_wearing_stepCount v_wearing_stacked v_wearing_steps v_wearing_stack v_changes_value = some (r8, p_now_high, p_now_wide, p_now_folds, p_now_wrong, p_now_more, p_now_rowOf, p_now_colOf, p_now_below, p_now_face, p_now_worn, p_now_last, p_now_bend, p_now_tall, p_wearing_stacked, p_wearing_stack) ∧ fX9_fold 700 x1 x2 m_rowsOf m_columnsOf m_folded m_wronged m_textMany m_base m_at m_ends m_fault m_opened m_bentMany m_bentWrong m_moreWorn m_limit m_shapeRows m_shapeColumns m_row m_column m_below m_face m_worn m_lastBend m_tape m_text m_names m_bends m_high m_to m_pileSize = some (r9, q_folded, q_wronged, q_base, q_at, q_ends, q_fault, q_opened, q_bentMany, q_bentWrong, q_moreWorn, q_shapeRows, q_shapeColumns, q_row, q_column, q_below, q_face, q_worn, q_lastBend, q_names, q_bends, q_high, q_to, q_pileSize) ∧ gi_sh v_now_rows v_now_cols p_now_high p_now_wide p_now_rowOf p_now_colOf p_now_below p_now_face p_now_worn p_now_last p_now_bend p_now_tall ∧ gi_la v_wearing_size v_wearing_stepCount v_wearing_draftCount v_wearing_tape v_wearing_steps v_wearing_draft p_wearing_stack ∧ gm_sh m_rowsOf m_columnsOf m_isKept m_imageRows m_imageColumns q_shapeRows q_shapeColumns q_row q_column q_below q_face q_worn q_lastBend ∧ gm_tx m_tapeMany m_textMany m_tape m_text q_names q_bends q_high q_to q_pileSize ∧ rl_ge v_now_rows v_now_cols p_now_high p_now_wide p_now_folds p_now_rowOf p_now_colOf p_now_below p_now_face v_hasImage v_kept_rows v_kept_cols v_kept_high v_kept_wide v_kept_folds v_kept_rowOf v_kept_colOf v_kept_below v_kept_face m_rowsOf m_columnsOf q_folded m_isKept m_imageRows m_imageColumns m_imageFolded q_shapeRows q_shapeColumns q_row q_column q_below q_face := by
  obtain ⟨⟨r8, p_now_high, p_now_wide, p_now_folds, p_now_wrong, p_now_more, p_now_rowOf, p_now_colOf, p_now_below, p_now_face, p_now_worn, p_now_last, p_now_bend, p_now_tall, p_wearing_stacked, p_wearing_stack⟩, e8, -⟩ := st8_fold (x1 := x1) (x2 := x2) (v_now_folds := v_now_folds) (v_now_wrong := v_now_wrong) (v_now_more := v_now_more) (v_wearing_stacked := v_wearing_stacked) (v_changes_value := v_changes_value) g8_0 g8_1
  obtain ⟨⟨r9, q_folded, q_wronged, q_base, q_at, q_ends, q_fault, q_opened, q_bentMany, q_bentWrong, q_moreWorn, q_shapeRows, q_shapeColumns, q_row, q_column, q_below, q_face, q_worn, q_lastBend, q_names, q_bends, q_high, q_to, q_pileSize⟩, e9, -⟩ := st9_fold (x1 := x1) (x2 := x2) (v_folded := m_folded) (v_wronged := m_wronged) (v_base := m_base) (v_at := m_at) (v_ends := m_ends) (v_fault := m_fault) (v_opened := m_opened) (v_bentMany := m_bentMany) (v_bentWrong := m_bentWrong) (v_moreWorn := m_moreWorn) g9_0 g9_1 g9_2
  have k8 := wp_get (st8_fold g8_0 g8_1) e8
  have k9 := wp_get (st9_fold g9_0 g9_1 g9_2) e9
  obtain ⟨a0, a1, a2, a3, a4, a5, a6, a7, a8, a9, a10, a11, a12, a13, a14, a15, a16, a17⟩ := id g8_0
  obtain ⟨z0, z1, z2, z3, z4, z5, z6, z7, z8, z9, z10, z11, z12, z13⟩ := id g9_1
  obtain ⟨t0, t1, t2, t3, t4, t5, t6, t7, t8, t9, t10⟩ := id g9_2
  have n0 : (0 : Int32).toInt = 0 := by decide
  have n5 : (5 : Int32).toInt = 5 := by decide
  have y0 : (0 : Int32).toInt.toNat = 0 := by decide
  have y5 : (5 : Int32).toInt.toNat = 5 := by decide
  obtain ⟨b1, b2, b3, b4, b5, b6⟩ := hr_0
  subst b1 b2
  have hf := i_fl z0 z1 z2 z3
  obtain ⟨l1, l2, l3⟩ := id b5
  have g1 : mm_ig m_shapeRows (0 : Int32) = v_now_high := by rw [ge_ig, y0]; exact l1
  have g2 : mm_ig m_shapeColumns (0 : Int32) = v_now_wide := by rw [ge_ig, y0]; exact l2
  have R : rl_ge m_rowsOf m_columnsOf p_now_high p_now_wide p_now_folds p_now_rowOf p_now_colOf p_now_below p_now_face v_hasImage v_kept_rows v_kept_cols v_kept_high v_kept_wide v_kept_folds v_kept_rowOf v_kept_colOf v_kept_below v_kept_face m_rowsOf m_columnsOf q_folded m_isKept m_imageRows m_imageColumns m_imageFolded q_shapeRows q_shapeColumns q_row q_column q_below q_face := by
    rcases fo_8 e8 with ⟨o8, h8⟩ | ⟨o8, h8⟩
    · rcases fo_9 z4 z5 g1 g2 ⟨a4, a5⟩ ⟨a6, a7⟩ e9 with ⟨o9, h9⟩ | ⟨o9, h9⟩
      · obtain ⟨c1, c2, c3, c4, c5, c6, c7⟩ := h8
        obtain ⟨d1, d2, d3, d4, d5, d6, d7⟩ := h9
        subst c1 c2 c3 c4 c5 c6 c7 d1 d2 d3 d4 d5 d6 d7
        exact ⟨rfl, rfl, b3, b4, b5, b6⟩
      · exact absurd o9 o8
    · rcases fo_9 z4 z5 g1 g2 ⟨a4, a5⟩ ⟨a6, a7⟩ e9 with ⟨o9, h9⟩ | ⟨o9, h9⟩
      · exact absurd o8 o9
      · obtain ⟨c1, c2⟩ := h8
        obtain ⟨d1, d2⟩ := h9
        have q := tr_e (m := (m_rowsOf.toInt * m_columnsOf.toInt).toNat) (lv := (0 : Int32)) (by omega) (by omega) (by omega) (by omega) o8.1.1 o8.1.2 a8 a9 a10 a11 a15 z6 z7 z8 z9 t8 t9 t10 z4 z5 ⟨a4, a5⟩ ⟨a6, a7⟩ (fun k hk => zn_n a16 (by omega) (by omega) (by omega)) (fun k hk => zn_n a17 (by omega) (by omega) (by omega)) g1 g2 (by rw [y0]; exact l3) c2 d2
        rw [ge_ig, ge_ig, y0, Nat.mul_zero] at q
        obtain ⟨q1, q2, q3, q4, q5, -⟩ := q
        refine ⟨rfl, rfl, by rw [c1, d1, b3], b4, ⟨q1, q2, q3⟩, fun hk => ?_⟩
        obtain ⟨f1, f2, f3, f4⟩ := b6 hk
        subst f1 f2
        have hk2 : ¬ (m_isKept = false) := by rw [b4, hk]; decide
        obtain ⟨u0, u1, u2, u3, -⟩ := z13 hk2
        exact ⟨rfl, rfl, f3, lg_t f4 (i_fl u0 u1 u2 u3).2.2 (q5 5 (by omega) (by omega)).1 (q5 5 (by omega) (by omega)).2 (fun j j0 j1 => q4 j (by omega) (by omega))⟩
  exact ⟨_, _, _, _, _, _, _, _, _, _, _, _, _, _, _, _, _, _, _, _, _, _, _, _, _, _, _, _, _, _, _, _, _, _, _, _, _, _, _, _, e8, e9, k8.1, k8.2, k9.1, k9.2, R⟩
set_option maxHeartbeats 4000000 in
set_option maxRecDepth 20000 in
theorem rs_flat_ge {v_now_rows : Int32} {v_now_cols : Int32} {v_now_high : Int32} {v_now_wide : Int32} {v_now_rowOf : List Int32} {v_now_colOf : List Int32} {v_now_below : List Int32} {v_now_face : List Int32} {v_now_worn : List Int32} {v_now_last : List Int32} {v_now_bend : List Int32} {v_now_tall : List Int32} {v_now_folds : Int32} {v_hasImage : Bool} {v_kept_rows : Int32} {v_kept_cols : Int32} {v_kept_high : Int32} {v_kept_wide : Int32} {v_kept_folds : Int32} {v_kept_rowOf : List Int32} {v_kept_colOf : List Int32} {v_kept_below : List Int32} {v_kept_face : List Int32} {m_rowsOf : Int32} {m_columnsOf : Int32} {m_shapeRows : List Int32} {m_shapeColumns : List Int32} {m_row : List Int32} {m_column : List Int32} {m_below : List Int32} {m_face : List Int32} {m_isKept : Bool} {m_imageRows : Int32} {m_imageColumns : Int32} {m_worn : List Int32} {m_lastBend : List Int32} {m_folded : Int32} {m_imageFolded : Int32} (g8_0 : gi_sh v_now_rows v_now_cols v_now_high v_now_wide v_now_rowOf v_now_colOf v_now_below v_now_face v_now_worn v_now_last v_now_bend v_now_tall) (g9_0 : gm_sh m_rowsOf m_columnsOf m_isKept m_imageRows m_imageColumns m_shapeRows m_shapeColumns m_row m_column m_below m_face m_worn m_lastBend) (hr_0 : rl_ge v_now_rows v_now_cols v_now_high v_now_wide v_now_folds v_now_rowOf v_now_colOf v_now_below v_now_face v_hasImage v_kept_rows v_kept_cols v_kept_high v_kept_wide v_kept_folds v_kept_rowOf v_kept_colOf v_kept_below v_kept_face m_rowsOf m_columnsOf m_folded m_isKept m_imageRows m_imageColumns m_imageFolded m_shapeRows m_shapeColumns m_row m_column m_below m_face) : ∃ (r : Int32) (p_now_high : Int32) (p_now_wide : Int32) (p_now_rowOf : List Int32) (p_now_colOf : List Int32) (p_now_below : List Int32) (p_now_face : List Int32) (q_shapeRows : List Int32) (q_shapeColumns : List Int32) (q_row : List Int32) (q_column : List Int32) (q_below : List Int32) (q_face : List Int32), fX8_flat 700 v_now_rows v_now_cols v_now_high v_now_wide v_now_rowOf v_now_colOf v_now_below v_now_face = some (r, p_now_high, p_now_wide, p_now_rowOf, p_now_colOf, p_now_below, p_now_face) ∧ fX9_flat 700 m_rowsOf m_columnsOf m_shapeRows m_shapeColumns m_row m_column m_below m_face = some (r, q_shapeRows, q_shapeColumns, q_row, q_column, q_below, q_face) ∧ gi_sh v_now_rows v_now_cols p_now_high p_now_wide p_now_rowOf p_now_colOf p_now_below p_now_face v_now_worn v_now_last v_now_bend v_now_tall ∧ gm_sh m_rowsOf m_columnsOf m_isKept m_imageRows m_imageColumns q_shapeRows q_shapeColumns q_row q_column q_below q_face m_worn m_lastBend ∧ rl_ge v_now_rows v_now_cols p_now_high p_now_wide v_now_folds p_now_rowOf p_now_colOf p_now_below p_now_face v_hasImage v_kept_rows v_kept_cols v_kept_high v_kept_wide v_kept_folds v_kept_rowOf v_kept_colOf v_kept_below v_kept_face m_rowsOf m_columnsOf m_folded m_isKept m_imageRows m_imageColumns m_imageFolded q_shapeRows q_shapeColumns q_row q_column q_below q_face := by
  obtain ⟨⟨r8, p_now_high, p_now_wide, p_now_rowOf, p_now_colOf, p_now_below, p_now_face⟩, e8, -⟩ := st8_flat   g8_0
  obtain ⟨⟨r9, q_shapeRows, q_shapeColumns, q_row, q_column, q_below, q_face⟩, e9, -⟩ := st9_flat   g9_0
  have k8 := wp_get (st8_flat g8_0) e8
  have k9 := wp_get (st9_flat g9_0) e9
  obtain ⟨a0, a1, a2, a3, a4, a5, a6, a7, a8, a9, a10, a11, a12, a13, a14, a15, a16, a17⟩ := id g8_0
  obtain ⟨z0, z1, z2, z3, z4, z5, z6, z7, z8, z9, z10, z11, z12, z13⟩ := id g9_0
  have n0 : (0 : Int32).toInt = 0 := by decide
  have n5 : (5 : Int32).toInt = 5 := by decide
  have y0 : (0 : Int32).toInt.toNat = 0 := by decide
  have y5 : (5 : Int32).toInt.toNat = 5 := by decide
  obtain ⟨b1, b2, b3, b4, b5, b6⟩ := hr_0
  subst b1 b2
  have hf := i_fl z0 z1 z2 z3
  obtain ⟨l1, l2, l3⟩ := id b5
  have RR : r9 = r8 ∧ rl_ge m_rowsOf m_columnsOf p_now_high p_now_wide v_now_folds p_now_rowOf p_now_colOf p_now_below p_now_face v_hasImage v_kept_rows v_kept_cols v_kept_high v_kept_wide v_kept_folds v_kept_rowOf v_kept_colOf v_kept_below v_kept_face m_rowsOf m_columnsOf m_folded m_isKept m_imageRows m_imageColumns m_imageFolded q_shapeRows q_shapeColumns q_row q_column q_below q_face := by
    have f8 := e8
    have f9 := e9
    unfold fX8_flat at f8
    unfold fX9_flat at f9
    obtain ⟨u, eu, f8⟩ := mm_bd1s f8
    obtain ⟨w3, w4, w5, w6, w7, w8, el, f8⟩ := mm_bd6s f8
    have f9 := ck_x (ck_x f9)
    rw [nm_eq] at f9
    obtain ⟨x3, x4, x5, x6, x7, x8, er, f9⟩ := mm_bd6s f9
    have hu : v_now_high * v_now_wide = u := sm_i eu
    obtain ⟨c1, c2, c3⟩ := lo_e (m := (m_rowsOf.toInt * m_columnsOf.toInt).toNat) (by omega) (by omega) a0 a1 a2 a3 a8 a9 a10 a11 el
    obtain ⟨d1, d2, -, d4, d5⟩ := li_e (m := (m_rowsOf.toInt * m_columnsOf.toInt).toNat) (by omega) (by omega) z2 z3 (by omega) (by omega) z6 z7 z8 z9 er
    rw [y0, Nat.mul_zero] at d4 d5
    apply mm_sub7 f8
    apply mm_sub7 f9
    rw [c1, c2, d1, d2]
    refine ⟨?_, rfl, rfl, b3, b4, ⟨?_, ?_, fl_x c3 d5⟩, fun hk => ?_⟩
    · rw [← hu, ge_ig, ge_ig, y0, l1, l2]
    · rw [ge_is _ _ _ _ (by omega), y0, if_pos rfl]
    · rw [ge_is _ _ _ _ (by omega), y0, if_pos rfl]
    · obtain ⟨f1, f2, f3, f4⟩ := b6 hk
      subst f1 f2
      have hk2 : ¬ (m_isKept = false) := by rw [b4, hk]; decide
      obtain ⟨u0, u1, u2, u3, -⟩ := z13 hk2
      refine ⟨rfl, rfl, f3, lg_t f4 (i_fl u0 u1 u2 u3).2.2 ?_ ?_ (fun j j0 j1 => d4 j (by omega) (by omega))⟩
      · rw [ge_is _ _ _ _ (by omega), y0, if_neg (by decide)]
      · rw [ge_is _ _ _ _ (by omega), y0, if_neg (by decide)]
  obtain ⟨er, R⟩ := RR
  subst er
  exact ⟨_, _, _, _, _, _, _, _, _, _, _, _, _, e8, e9, k8, k9, R⟩
set_option maxHeartbeats 4000000 in
set_option maxRecDepth 20000 in
theorem rs_image_ge {v_hasImage : Bool} {v_now_rows : Int32} {v_now_cols : Int32} {v_now_high : Int32} {v_now_wide : Int32} {v_now_folds : Int32} {v_now_wrong : Int32} {v_now_more : Int32} {v_now_rowOf : List Int32} {v_now_colOf : List Int32} {v_now_below : List Int32} {v_now_face : List Int32} {v_now_worn : List Int32} {v_now_last : List Int32} {v_kept_rows : Int32} {v_kept_cols : Int32} {v_kept_high : Int32} {v_kept_wide : Int32} {v_kept_folds : Int32} {v_kept_wrong : Int32} {v_kept_more : Int32} {v_kept_rowOf : List Int32} {v_kept_colOf : List Int32} {v_kept_below : List Int32} {v_kept_face : List Int32} {v_kept_worn : List Int32} {v_kept_last : List Int32} {v_now_bend : List Int32} {v_now_tall : List Int32} {v_kept_bend : List Int32} {v_kept_tall : List Int32} {m_rowsOf : Int32} {m_columnsOf : Int32} {m_folded : Int32} {m_wronged : Int32} {m_isKept : Bool} {m_imageRows : Int32} {m_imageColumns : Int32} {m_imageFolded : Int32} {m_imageWronged : Int32} {m_shapeRows : List Int32} {m_shapeColumns : List Int32} {m_row : List Int32} {m_column : List Int32} {m_below : List Int32} {m_face : List Int32} {m_worn : List Int32} {m_lastBend : List Int32} (g8_0 : gi_sh v_now_rows v_now_cols v_now_high v_now_wide v_now_rowOf v_now_colOf v_now_below v_now_face v_now_worn v_now_last v_now_bend v_now_tall) (g8_1 : gi_sh v_kept_rows v_kept_cols v_kept_high v_kept_wide v_kept_rowOf v_kept_colOf v_kept_below v_kept_face v_kept_worn v_kept_last v_kept_bend v_kept_tall) (g9_0 : gm_sh m_rowsOf m_columnsOf m_isKept m_imageRows m_imageColumns m_shapeRows m_shapeColumns m_row m_column m_below m_face m_worn m_lastBend) (hr_0 : rl_ge v_now_rows v_now_cols v_now_high v_now_wide v_now_folds v_now_rowOf v_now_colOf v_now_below v_now_face v_hasImage v_kept_rows v_kept_cols v_kept_high v_kept_wide v_kept_folds v_kept_rowOf v_kept_colOf v_kept_below v_kept_face m_rowsOf m_columnsOf m_folded m_isKept m_imageRows m_imageColumns m_imageFolded m_shapeRows m_shapeColumns m_row m_column m_below m_face) : ∃ (r : Int32) (p_hasImage : Bool) (p_kept_rows : Int32) (p_kept_cols : Int32) (p_kept_high : Int32) (p_kept_wide : Int32) (p_kept_folds : Int32) (p_kept_wrong : Int32) (p_kept_more : Int32) (p_kept_rowOf : List Int32) (p_kept_colOf : List Int32) (p_kept_below : List Int32) (p_kept_face : List Int32) (p_kept_worn : List Int32) (p_kept_last : List Int32) (q_isKept : Bool) (q_imageRows : Int32) (q_imageColumns : Int32) (q_imageFolded : Int32) (q_imageWronged : Int32) (q_shapeRows : List Int32) (q_shapeColumns : List Int32) (q_row : List Int32) (q_column : List Int32) (q_below : List Int32) (q_face : List Int32) (q_worn : List Int32) (q_lastBend : List Int32), fX8_image 700 v_hasImage v_now_rows v_now_cols v_now_high v_now_wide v_now_folds v_now_wrong v_now_more v_now_rowOf v_now_colOf v_now_below v_now_face v_now_worn v_now_last v_kept_rows v_kept_cols v_kept_high v_kept_wide v_kept_folds v_kept_wrong v_kept_more v_kept_rowOf v_kept_colOf v_kept_below v_kept_face v_kept_worn v_kept_last = some (r, p_hasImage, p_kept_rows, p_kept_cols, p_kept_high, p_kept_wide, p_kept_folds, p_kept_wrong, p_kept_more, p_kept_rowOf, p_kept_colOf, p_kept_below, p_kept_face, p_kept_worn, p_kept_last) ∧ fX9_image 700 m_rowsOf m_columnsOf m_folded m_wronged m_isKept m_imageRows m_imageColumns m_imageFolded m_imageWronged m_shapeRows m_shapeColumns m_row m_column m_below m_face m_worn m_lastBend = some (r, q_isKept, q_imageRows, q_imageColumns, q_imageFolded, q_imageWronged, q_shapeRows, q_shapeColumns, q_row, q_column, q_below, q_face, q_worn, q_lastBend) ∧ gi_sh p_kept_rows p_kept_cols p_kept_high p_kept_wide p_kept_rowOf p_kept_colOf p_kept_below p_kept_face p_kept_worn p_kept_last v_kept_bend v_kept_tall ∧ gm_sh m_rowsOf m_columnsOf q_isKept q_imageRows q_imageColumns q_shapeRows q_shapeColumns q_row q_column q_below q_face q_worn q_lastBend ∧ rl_ge v_now_rows v_now_cols v_now_high v_now_wide v_now_folds v_now_rowOf v_now_colOf v_now_below v_now_face p_hasImage p_kept_rows p_kept_cols p_kept_high p_kept_wide p_kept_folds p_kept_rowOf p_kept_colOf p_kept_below p_kept_face m_rowsOf m_columnsOf m_folded q_isKept q_imageRows q_imageColumns q_imageFolded q_shapeRows q_shapeColumns q_row q_column q_below q_face := by
  obtain ⟨⟨r8, p_hasImage, p_kept_rows, p_kept_cols, p_kept_high, p_kept_wide, p_kept_folds, p_kept_wrong, p_kept_more, p_kept_rowOf, p_kept_colOf, p_kept_below, p_kept_face, p_kept_worn, p_kept_last⟩, e8, -⟩ := st8_image  (v_hasImage := v_hasImage) (v_now_folds := v_now_folds) (v_now_wrong := v_now_wrong) (v_now_more := v_now_more) (v_kept_folds := v_kept_folds) (v_kept_wrong := v_kept_wrong) (v_kept_more := v_kept_more) g8_0 g8_1
  obtain ⟨⟨r9, q_isKept, q_imageRows, q_imageColumns, q_imageFolded, q_imageWronged, q_shapeRows, q_shapeColumns, q_row, q_column, q_below, q_face, q_worn, q_lastBend⟩, e9, -⟩ := st9_image  (v_folded := m_folded) (v_wronged := m_wronged) (v_imageFolded := m_imageFolded) (v_imageWronged := m_imageWronged) g9_0
  have k8 := wp_get (st8_image g8_0 g8_1) e8
  have k9 := wp_get (st9_image g9_0) e9
  obtain ⟨a0, a1, a2, a3, a4, a5, a6, a7, a8, a9, a10, a11, a12, a13, a14, a15, a16, a17⟩ := id g8_0
  obtain ⟨c0, c1, c2, c3, c4, c5, c6, c7, c8, c9, c10, c11, c12, c13, c14, c15, c16, c17⟩ := id g8_1
  obtain ⟨z0, z1, z2, z3, z4, z5, z6, z7, z8, z9, z10, z11, z12, z13⟩ := id g9_0
  have n0 : (0 : Int32).toInt = 0 := by decide
  have n5 : (5 : Int32).toInt = 5 := by decide
  have y0 : (0 : Int32).toInt.toNat = 0 := by decide
  have y5 : (5 : Int32).toInt.toNat = 5 := by decide
  obtain ⟨b1, b2, b3, b4, b5, b6⟩ := hr_0
  subst b1 b2
  have hf := i_fl z0 z1 z2 z3
  obtain ⟨l1, l2, l3⟩ := id b5
  have RR : r9 = r8 ∧ rl_ge m_rowsOf m_columnsOf v_now_high v_now_wide v_now_folds v_now_rowOf v_now_colOf v_now_below v_now_face p_hasImage p_kept_rows p_kept_cols p_kept_high p_kept_wide p_kept_folds p_kept_rowOf p_kept_colOf p_kept_below p_kept_face m_rowsOf m_columnsOf m_folded q_isKept q_imageRows q_imageColumns q_imageFolded q_shapeRows q_shapeColumns q_row q_column q_below q_face := by
    have f8 := e8
    have f9 := e9
    unfold fX8_image at f8
    unfold fX9_image at f9
    rw [cp_e c8 c9 c10 c11 c12 c13 a8 a9 a10 a11 a12 a13] at f8
    obtain ⟨x1, x2, x3, x4, x5, x6, x7, x8, er, f9⟩ := mm_bd8s f9
    obtain ⟨⟨d1, d2⟩, d3, -, d5, -⟩ := co_e (by omega) (by omega) (by omega) (by omega) (by omega) z6 z7 z8 z9 z10 z11 er
    rw [y0, y5] at d5
    rw [y5] at d3
    have f8' : some (v_now_folds, true, m_rowsOf, m_columnsOf, v_now_high, v_now_wide, v_now_folds, v_now_wrong, v_now_more, v_now_rowOf, v_now_colOf, v_now_below, v_now_face, v_now_worn, v_now_last) = some (r8, p_hasImage, p_kept_rows, p_kept_cols, p_kept_high, p_kept_wide, p_kept_folds, p_kept_wrong, p_kept_more, p_kept_rowOf, p_kept_colOf, p_kept_below, p_kept_face, p_kept_worn, p_kept_last) := f8
    apply mm_sub15 f8'
    apply mm_sub14 f9
    rw [d1, d2]
    refine ⟨b3, rfl, rfl, b3, rfl, lg_t b5 hf.2.2 ?_ ?_ (fun j j0 j1 => d3 j (by omega) (by omega)), fun _ => ⟨rfl, rfl, b3, ?_, ?_, fun k hk => ?_⟩⟩
    · rw [ge_is _ _ _ _ (by omega), y5, if_neg (by decide)]
    · rw [ge_is _ _ _ _ (by omega), y5, if_neg (by decide)]
    · rw [ge_is _ _ _ _ (by omega), y5, if_pos rfl, ge_ig, y0]
      exact l1
    · rw [ge_is _ _ _ _ (by omega), y5, if_pos rfl, ge_ig, y0]
      exact l2
    · obtain ⟨u1, u2, u3, u4⟩ := d5 k (by omega)
      obtain ⟨v1, v2, v3, v4⟩ := l3 k hk
      exact ⟨by rw [u1]; exact v1, by rw [u2]; exact v2, by rw [u3]; exact v3, by rw [u4]; exact v4⟩
  obtain ⟨er, R⟩ := RR
  subst er
  exact ⟨_, _, _, _, _, _, _, _, _, _, _, _, _, _, _, _, _, _, _, _, _, _, _, _, _, _, _, _, e8, e9, k8, k9, R⟩
set_option maxHeartbeats 4000000 in
set_option maxRecDepth 20000 in
theorem rs_back_ge {v_hasImage : Bool} {v_now_rows : Int32} {v_now_cols : Int32} {v_now_high : Int32} {v_now_wide : Int32} {v_now_folds : Int32} {v_now_wrong : Int32} {v_now_more : Int32} {v_now_rowOf : List Int32} {v_now_colOf : List Int32} {v_now_below : List Int32} {v_now_face : List Int32} {v_now_worn : List Int32} {v_now_last : List Int32} {v_kept_rows : Int32} {v_kept_cols : Int32} {v_kept_high : Int32} {v_kept_wide : Int32} {v_kept_folds : Int32} {v_kept_wrong : Int32} {v_kept_more : Int32} {v_kept_rowOf : List Int32} {v_kept_colOf : List Int32} {v_kept_below : List Int32} {v_kept_face : List Int32} {v_kept_worn : List Int32} {v_kept_last : List Int32} {v_now_bend : List Int32} {v_now_tall : List Int32} {v_kept_bend : List Int32} {v_kept_tall : List Int32} {m_rowsOf : Int32} {m_columnsOf : Int32} {m_folded : Int32} {m_wronged : Int32} {m_isKept : Bool} {m_imageRows : Int32} {m_imageColumns : Int32} {m_imageFolded : Int32} {m_imageWronged : Int32} {m_shapeRows : List Int32} {m_shapeColumns : List Int32} {m_row : List Int32} {m_column : List Int32} {m_below : List Int32} {m_face : List Int32} {m_worn : List Int32} {m_lastBend : List Int32} (g8_0 : gi_sh v_now_rows v_now_cols v_now_high v_now_wide v_now_rowOf v_now_colOf v_now_below v_now_face v_now_worn v_now_last v_now_bend v_now_tall) (g8_1 : gi_sh v_kept_rows v_kept_cols v_kept_high v_kept_wide v_kept_rowOf v_kept_colOf v_kept_below v_kept_face v_kept_worn v_kept_last v_kept_bend v_kept_tall) (g9_0 : gm_sh m_rowsOf m_columnsOf m_isKept m_imageRows m_imageColumns m_shapeRows m_shapeColumns m_row m_column m_below m_face m_worn m_lastBend) (hr_0 : rl_ge v_now_rows v_now_cols v_now_high v_now_wide v_now_folds v_now_rowOf v_now_colOf v_now_below v_now_face v_hasImage v_kept_rows v_kept_cols v_kept_high v_kept_wide v_kept_folds v_kept_rowOf v_kept_colOf v_kept_below v_kept_face m_rowsOf m_columnsOf m_folded m_isKept m_imageRows m_imageColumns m_imageFolded m_shapeRows m_shapeColumns m_row m_column m_below m_face) : ∃ (r : Int32) (p_now_rows : Int32) (p_now_cols : Int32) (p_now_high : Int32) (p_now_wide : Int32) (p_now_folds : Int32) (p_now_wrong : Int32) (p_now_more : Int32) (p_now_rowOf : List Int32) (p_now_colOf : List Int32) (p_now_below : List Int32) (p_now_face : List Int32) (p_now_worn : List Int32) (p_now_last : List Int32) (q_rowsOf : Int32) (q_columnsOf : Int32) (q_folded : Int32) (q_wronged : Int32) (q_shapeRows : List Int32) (q_shapeColumns : List Int32) (q_row : List Int32) (q_column : List Int32) (q_below : List Int32) (q_face : List Int32) (q_worn : List Int32) (q_lastBend : List Int32), fX8_back 700 v_hasImage v_now_rows v_now_cols v_now_high v_now_wide v_now_folds v_now_wrong v_now_more v_now_rowOf v_now_colOf v_now_below v_now_face v_now_worn v_now_last v_kept_rows v_kept_cols v_kept_high v_kept_wide v_kept_folds v_kept_wrong v_kept_more v_kept_rowOf v_kept_colOf v_kept_below v_kept_face v_kept_worn v_kept_last = some (r, p_now_rows, p_now_cols, p_now_high, p_now_wide, p_now_folds, p_now_wrong, p_now_more, p_now_rowOf, p_now_colOf, p_now_below, p_now_face, p_now_worn, p_now_last) ∧ fX9_back 700 m_rowsOf m_columnsOf m_folded m_wronged m_isKept m_imageRows m_imageColumns m_imageFolded m_imageWronged m_shapeRows m_shapeColumns m_row m_column m_below m_face m_worn m_lastBend = some (r, q_rowsOf, q_columnsOf, q_folded, q_wronged, q_shapeRows, q_shapeColumns, q_row, q_column, q_below, q_face, q_worn, q_lastBend) ∧ gi_sh p_now_rows p_now_cols p_now_high p_now_wide p_now_rowOf p_now_colOf p_now_below p_now_face p_now_worn p_now_last v_now_bend v_now_tall ∧ gm_sh q_rowsOf q_columnsOf m_isKept m_imageRows m_imageColumns q_shapeRows q_shapeColumns q_row q_column q_below q_face q_worn q_lastBend ∧ rl_ge p_now_rows p_now_cols p_now_high p_now_wide p_now_folds p_now_rowOf p_now_colOf p_now_below p_now_face v_hasImage v_kept_rows v_kept_cols v_kept_high v_kept_wide v_kept_folds v_kept_rowOf v_kept_colOf v_kept_below v_kept_face q_rowsOf q_columnsOf q_folded m_isKept m_imageRows m_imageColumns m_imageFolded q_shapeRows q_shapeColumns q_row q_column q_below q_face := by
  obtain ⟨⟨r8, p_now_rows, p_now_cols, p_now_high, p_now_wide, p_now_folds, p_now_wrong, p_now_more, p_now_rowOf, p_now_colOf, p_now_below, p_now_face, p_now_worn, p_now_last⟩, e8, -⟩ := st8_back  (v_hasImage := v_hasImage) (v_now_folds := v_now_folds) (v_now_wrong := v_now_wrong) (v_now_more := v_now_more) (v_kept_folds := v_kept_folds) (v_kept_wrong := v_kept_wrong) (v_kept_more := v_kept_more) g8_0 g8_1
  obtain ⟨⟨r9, q_rowsOf, q_columnsOf, q_folded, q_wronged, q_shapeRows, q_shapeColumns, q_row, q_column, q_below, q_face, q_worn, q_lastBend⟩, e9, -⟩ := st9_back  (v_folded := m_folded) (v_wronged := m_wronged) (v_imageFolded := m_imageFolded) (v_imageWronged := m_imageWronged) g9_0
  have k8 := wp_get (st8_back g8_0 g8_1) e8
  have k9 := wp_get (st9_back g9_0) e9
  obtain ⟨a0, a1, a2, a3, a4, a5, a6, a7, a8, a9, a10, a11, a12, a13, a14, a15, a16, a17⟩ := id g8_0
  obtain ⟨c0, c1, c2, c3, c4, c5, c6, c7, c8, c9, c10, c11, c12, c13, c14, c15, c16, c17⟩ := id g8_1
  obtain ⟨z0, z1, z2, z3, z4, z5, z6, z7, z8, z9, z10, z11, z12, z13⟩ := id g9_0
  have n0 : (0 : Int32).toInt = 0 := by decide
  have n5 : (5 : Int32).toInt = 5 := by decide
  have y0 : (0 : Int32).toInt.toNat = 0 := by decide
  have y5 : (5 : Int32).toInt.toNat = 5 := by decide
  obtain ⟨b1, b2, b3, b4, b5, b6⟩ := hr_0
  have RR : r9 = r8 ∧ rl_ge p_now_rows p_now_cols p_now_high p_now_wide p_now_folds p_now_rowOf p_now_colOf p_now_below p_now_face v_hasImage v_kept_rows v_kept_cols v_kept_high v_kept_wide v_kept_folds v_kept_rowOf v_kept_colOf v_kept_below v_kept_face q_rowsOf q_columnsOf q_folded m_isKept m_imageRows m_imageColumns m_imageFolded q_shapeRows q_shapeColumns q_row q_column q_below q_face := by
    have f8 := e8
    have f9 := e9
    unfold fX8_back at f8
    unfold fX9_back at f9
    by_cases h : v_hasImage = false
    · rw [if_pos h] at f8
      rw [if_pos (by rw [b4]; exact h)] at f9
      apply mm_sub14 f8
      apply mm_sub13 f9
      exact ⟨rfl, b1, b2, b3, b4, b5, b6⟩
    · have hk : v_hasImage = true := by
        cases hv : v_hasImage
        · exact absurd hv h
        · rfl
      have hk2 : ¬ (m_isKept = false) := by rw [b4, hk]; decide
      obtain ⟨j1, j2, j3, j4⟩ := b6 hk
      obtain ⟨u0, u1, u2, u3, -⟩ := z13 hk2
      have m32 := (i_fl u0 u1 u2 u3).2.2
      obtain ⟨l1, l2, l3⟩ := id j4
      rw [if_neg h, cp_e a8 a9 a10 a11 a12 a13 c8 c9 c10 c11 c12 c13] at f8
      rw [if_neg hk2] at f9
      obtain ⟨x1, x2, x3, x4, x5, x6, x7, x8, er, f9⟩ := mm_bd8s f9
      obtain ⟨⟨d1, d2⟩, d3, -, d5, -⟩ := co_e (by omega) (by omega) (by omega) (by omega) (by omega) z6 z7 z8 z9 z10 z11 er
      rw [y0, y5] at d5
      rw [y0] at d3
      have f8' : some (v_kept_folds, v_kept_rows, v_kept_cols, v_kept_high, v_kept_wide, v_kept_folds, v_kept_wrong, v_kept_more, v_kept_rowOf, v_kept_colOf, v_kept_below, v_kept_face, v_kept_worn, v_kept_last) = some (r8, p_now_rows, p_now_cols, p_now_high, p_now_wide, p_now_folds, p_now_wrong, p_now_more, p_now_rowOf, p_now_colOf, p_now_below, p_now_face, p_now_worn, p_now_last) := f8
      apply mm_sub14 f8'
      apply mm_sub13 f9
      rw [d1, d2]
      refine ⟨j3, j1, j2, j3, b4, ⟨?_, ?_, fun k hk3 => ?_⟩, fun _ => ⟨j1, j2, j3, lg_t j4 (by rw [← j1, ← j2]; exact m32) ?_ ?_ (fun j j0 j1 => d3 j (by omega) (by omega))⟩⟩
      · rw [ge_is _ _ _ _ (by omega), y0, if_pos rfl, ge_ig, y5]
        exact l1
      · rw [ge_is _ _ _ _ (by omega), y0, if_pos rfl, ge_ig, y5]
        exact l2
      · rw [← j1, ← j2] at hk3
        obtain ⟨u1, u2, u3, u4⟩ := d5 k (by omega)
        rw [j1, j2] at hk3
        obtain ⟨v1, v2, v3, v4⟩ := l3 k hk3
        exact ⟨by rw [u1]; exact v1, by rw [u2]; exact v2, by rw [u3]; exact v3, by rw [u4]; exact v4⟩
      · rw [ge_is _ _ _ _ (by omega), y0, if_neg (by decide)]
      · rw [ge_is _ _ _ _ (by omega), y0, if_neg (by decide)]
  obtain ⟨er, R⟩ := RR
  subst er
  exact ⟨_, _, _, _, _, _, _, _, _, _, _, _, _, _, _, _, _, _, _, _, _, _, _, _, _, _, e8, e9, k8, k9, R⟩
end
section
/-! Geometry: where, shape -/
theorem hf_e (x1 rows cols : Int32) : fX5_hasField 700 x1 rows cols = some (decide (0 ≤ x1.toInt ∧ x1.toInt < (rows * cols).toInt)) := by
  have n0 : (0 : Int32).toInt = 0 := by decide
  unfold fX5_hasField fX5_fields
  by_cases c : x1 < 0
  · have d := i_lt c
    rw [if_pos c, decide_eq_false (by omega)]
  · have d := i_nlt c
    rw [if_neg c, bs_1]
    by_cases c2 : rows * cols ≤ x1
    · have d2 := i_le c2
      rw [if_pos c2, decide_eq_false (by omega)]
    · have d2 := i_nle c2
      rw [if_neg c2, decide_eq_true (by omega)]
theorem ff_e {x1 ro co : Int32} (h : 1 ≤ (ro * co).toInt) : fX9_isField 700 x1 ro co = some (decide (0 ≤ x1.toInt ∧ x1.toInt < (ro * co).toInt)) := by
  have m0 : (0 : Int64).toInt = 0 := by decide
  have n1 : (1 : Int32).toInt = 1 := by decide
  have hb : (ro * co).toInt < 2147483648 := Int32.toInt_lt _
  unfold fX9_isField fX9_fields
  rw [bs_1]
  generalize hz : (ro * co) - (1 : Int32) = z
  have ez := i_subE hz (by omega) (by omega)
  rw [wn_x, bs_1, i_64, i_64, m0]
  exact congrArg some (decide_eq_decide.mpr (by omega))
/-- what where answers of a field -/
def wv_w (x2 r c b f : Int32) : Int32 := if x2 = 0 then r else if x2 = 1 then c else if x2 = 2 then b else if x2 = 3 then f else -1
theorem pw_e {x1 x2 rows cols r : Int32} {R C B F : List Int32} (e : fX5_placeOf 700 x1 x2 rows cols R C B F = some r) : r = if 0 ≤ x1.toInt ∧ x1.toInt < (rows * cols).toInt then wv_w x2 (R.getD x1.toInt.toNat 0) (C.getD x1.toInt.toNat 0) (B.getD x1.toInt.toNat 0) (F.getD x1.toInt.toNat 0) else -1 := by
  unfold fX5_placeOf at e
  rw [hf_e, bs_1] at e
  by_cases c : 0 ≤ x1.toInt ∧ x1.toInt < (rows * cols).toInt
  · rw [decide_eq_true c, if_neg (by decide)] at e
    rw [if_pos c]
    unfold wv_w
    by_cases c0 : x2 = 0
    · rw [if_pos c0] at e ⊢
      exact (sm_i (ck_x e)).symm
    · rw [if_neg c0] at e ⊢
      by_cases c1 : x2 = 1
      · rw [if_pos c1] at e ⊢
        exact (sm_i (ck_x e)).symm
      · rw [if_neg c1] at e ⊢
        by_cases c2 : x2 = 2
        · rw [if_pos c2] at e ⊢
          exact (sm_i (ck_x e)).symm
        · rw [if_neg c2] at e ⊢
          by_cases c3 : x2 = 3
          · rw [if_pos c3] at e ⊢
            exact (sm_i (ck_x e)).symm
          · rw [if_neg c3] at e ⊢
            exact (sm_i e).symm
  · rw [decide_eq_false c, if_pos rfl] at e
    rw [if_neg c]
    exact (sm_i e).symm
theorem wo_e {lv x1 x2 r : Int32} {row col bel fac : List Int32} (h : 0 ≤ x2.toInt ∧ x2.toInt ≤ 3) (e : fX9_whereOf 700 lv x1 x2 row col bel fac = some r) : r = wv_w x2 (row.getD (((32 : Int32) * lv) + x1).toInt.toNat 0) (col.getD (((32 : Int32) * lv) + x1).toInt.toNat 0) (bel.getD (((32 : Int32) * lv) + x1).toInt.toNat 0) (fac.getD (((32 : Int32) * lv) + x1).toInt.toNat 0) := by
  have n0 : (0 : Int32).toInt = 0 := by decide
  have n1 : (1 : Int32).toInt = 1 := by decide
  have n2 : (2 : Int32).toInt = 2 := by decide
  have n3 : (3 : Int32).toInt = 3 := by decide
  unfold fX9_whereOf at e
  rw [nm_eq] at e
  unfold wv_w
  by_cases c0 : x2 = 0
  · rw [if_pos c0] at e ⊢
    exact (sm_i (ck_x e)).symm
  · rw [if_neg c0] at e ⊢
    have d0 := i_ne c0
    by_cases c1 : x2 = 1
    · rw [if_pos c1] at e ⊢
      exact (sm_i (ck_x e)).symm
    · rw [if_neg c1] at e ⊢
      have d1 := i_ne c1
      by_cases c2 : x2 = 2
      · rw [if_pos c2] at e ⊢
        exact (sm_i (ck_x e)).symm
      · rw [if_neg c2] at e ⊢
        have d2 := i_ne c2
        have c3 : x2 = 3 := Int32.toInt_inj.mp (by omega)
        rw [if_pos c3]
        exact (sm_i (ck_x e)).symm
theorem wv_o {x2 r c b f : Int32} (h : ¬ (0 ≤ x2.toInt ∧ x2.toInt ≤ 3)) : wv_w x2 r c b f = -1 := by
  unfold wv_w
  rw [if_neg (fun k => h (by rw [k]; decide)), if_neg (fun k => h (by rw [k]; decide)), if_neg (fun k => h (by rw [k]; decide)), if_neg (fun k => h (by rw [k]; decide))]
theorem hp_4 {rows cols ro co x : Int32} {sR sC B bel : List Int32} {m : Nat} (hm : (rows * cols).toInt = m) (hm9 : (ro * co).toInt = m) (m32 : m ≤ 32) (H : ∀ k : Nat, k < m → bel.getD k 0 = B.getD k 0) : ∀ (n n' : Nat) (x1 x2 r8 : Int32) (r9 : Int32), fX5_highestPile_4 700 n x1 x2 rows cols B = some r8 → fX9_shape_4 700 n' x x1 x2 ro co sR sC bel = some r9 → 0 ≤ x2.toInt → r9 = if x = 0 then mm_ig sR (0 : Int32) else if x = 1 then mm_ig sC (0 : Int32) else if x = 2 then r8 else -1 := by
  have n1 : (1 : Int32).toInt = 1 := by decide
  intro n
  induction n with
  | zero =>
    intro n' x1 x2 r8 r9 e
    exact absurd e (by intro h; cases h)
  | succ n ih =>
    intro n' x1 x2 r8 r9 e8 e9 p0
    cases n' with
    | zero => exact absurd e9 (by intro h; cases h)
    | succ n' =>
      rw [uf_X5_highestPile_4] at e8
      rw [uf_X9_shape_4] at e9
      obtain ⟨f8, ef8, e8⟩ := mm_bd1s e8
      obtain ⟨f9, ef9, e9⟩ := mm_bd1s e9
      have h8 : rows * cols = f8 := sm_i ef8
      have h9 : ro * co = f9 := sm_i ef9
      subst h8
      subst h9
      by_cases c : rows * cols ≤ x2
      · have d := i_le c
        have c9 : ro * co ≤ x2 := Int32.le_iff_toInt_le.mpr (by omega)
        rw [if_pos c] at e8
        rw [if_pos c9] at e9
        have e8 := sm_i e8
        subst e8
        by_cases c0 : x = 0
        · rw [if_pos c0] at e9 ⊢
          exact (sm_i (ck_x e9)).symm
        · rw [if_neg c0] at e9 ⊢
          by_cases c1 : x = 1
          · rw [if_pos c1] at e9 ⊢
            exact (sm_i (ck_x e9)).symm
          · rw [if_neg c1] at e9 ⊢
            by_cases c2 : x = 2
            · rw [if_pos c2] at e9 ⊢
              exact (sm_i e9).symm
            · rw [if_neg c2] at e9 ⊢
              exact (sm_i e9).symm
      · have d := i_nle c
        have c9 : ¬ ro * co ≤ x2 := fun k => absurd (i_le k) (by omega)
        rw [if_neg c] at e8
        rw [if_neg c9] at e9
        have e8 := ck_x e8
        rw [nm_eq, nm_eq] at e8
        have e9 := ck_x e9
        have hb : mm_ig bel x2 = mm_ig B x2 := H x2.toInt.toNat (by omega)
        rw [hb] at e9
        have e9' : fX9_shape_36 700 (fX9_shape_4 700 n') x x2 (mm_max x1 (mm_ig B x2 + (1 : Int32))) ro co sR sC bel = some r9 := by
          unfold mm_max
          by_cases g : (mm_ig B x2 + (1 : Int32)) ≤ x1
          · rw [if_pos g] at e9
            rw [if_neg (Int32.not_lt.mpr g)]
            exact e9
          · rw [if_neg g] at e9
            rw [if_pos (Int32.not_le.mp g)]
            exact ck_x e9
        rw [uf_X9_shape_36, nm_eq] at e9'
        generalize hy : x2 + (1 : Int32) = y at e8 e9'
        have ey := i_addE hy (by omega) (by omega)
        exact ih n' _ y r8 r9 e8 e9' (by omega)
theorem rs_where_ge {x1 : Int32} {x2 : Int32} {v_now_rows : Int32} {v_now_cols : Int32} {v_now_rowOf : List Int32} {v_now_colOf : List Int32} {v_now_below : List Int32} {v_now_face : List Int32} {v_now_high : Int32} {v_now_wide : Int32} {v_now_worn : List Int32} {v_now_last : List Int32} {v_now_bend : List Int32} {v_now_tall : List Int32} {v_now_folds : Int32} {v_hasImage : Bool} {v_kept_rows : Int32} {v_kept_cols : Int32} {v_kept_high : Int32} {v_kept_wide : Int32} {v_kept_folds : Int32} {v_kept_rowOf : List Int32} {v_kept_colOf : List Int32} {v_kept_below : List Int32} {v_kept_face : List Int32} {m_rowsOf : Int32} {m_columnsOf : Int32} {m_row : List Int32} {m_column : List Int32} {m_below : List Int32} {m_face : List Int32} {m_isKept : Bool} {m_imageRows : Int32} {m_imageColumns : Int32} {m_shapeRows : List Int32} {m_shapeColumns : List Int32} {m_worn : List Int32} {m_lastBend : List Int32} {m_folded : Int32} {m_imageFolded : Int32} (g8_0 : gi_sh v_now_rows v_now_cols v_now_high v_now_wide v_now_rowOf v_now_colOf v_now_below v_now_face v_now_worn v_now_last v_now_bend v_now_tall) (g9_0 : gm_sh m_rowsOf m_columnsOf m_isKept m_imageRows m_imageColumns m_shapeRows m_shapeColumns m_row m_column m_below m_face m_worn m_lastBend) (hr_0 : rl_ge v_now_rows v_now_cols v_now_high v_now_wide v_now_folds v_now_rowOf v_now_colOf v_now_below v_now_face v_hasImage v_kept_rows v_kept_cols v_kept_high v_kept_wide v_kept_folds v_kept_rowOf v_kept_colOf v_kept_below v_kept_face m_rowsOf m_columnsOf m_folded m_isKept m_imageRows m_imageColumns m_imageFolded m_shapeRows m_shapeColumns m_row m_column m_below m_face) : ∃ (r : Int32), fX8_where 700 x1 x2 v_now_rows v_now_cols v_now_rowOf v_now_colOf v_now_below v_now_face = some r ∧ fX9_where 700 x1 x2 m_rowsOf m_columnsOf m_row m_column m_below m_face = some r ∧ rl_ge v_now_rows v_now_cols v_now_high v_now_wide v_now_folds v_now_rowOf v_now_colOf v_now_below v_now_face v_hasImage v_kept_rows v_kept_cols v_kept_high v_kept_wide v_kept_folds v_kept_rowOf v_kept_colOf v_kept_below v_kept_face m_rowsOf m_columnsOf m_folded m_isKept m_imageRows m_imageColumns m_imageFolded m_shapeRows m_shapeColumns m_row m_column m_below m_face := by
  obtain ⟨r8, e8, -⟩ := st8_where (x1 := x1) (x2 := x2)  g8_0
  obtain ⟨r9, e9, -⟩ := st9_where (x1 := x1) (x2 := x2)  g9_0
  obtain ⟨a0, a1, a2, a3, a4, a5, a6, a7, a8, a9, a10, a11, a12, a13, a14, a15, a16, a17⟩ := id g8_0
  obtain ⟨z0, z1, z2, z3, z4, z5, z6, z7, z8, z9, z10, z11, z12, z13⟩ := id g9_0
  have n0 : (0 : Int32).toInt = 0 := by decide
  have n5 : (5 : Int32).toInt = 5 := by decide
  have y0 : (0 : Int32).toInt.toNat = 0 := by decide
  have y5 : (5 : Int32).toInt.toNat = 5 := by decide
  obtain ⟨b1, b2, b3, b4, b5, b6⟩ := id hr_0
  have hf := i_fl z0 z1 z2 z3
  obtain ⟨l1, l2, l3⟩ := id b5
  have m0 : (0 : Int64).toInt = 0 := by decide
  have m3 : (3 : Int64).toInt = 3 := by decide
  have er : r9 = r8 := by
    have f8 := e8
    have f9 := e9
    unfold fX8_where at f8
    obtain ⟨u, eu, f8⟩ := mm_bd1s f8
    have hu := sm_i f8
    subst hu
    have q8 := pw_e eu
    unfold fX9_where at f9
    rw [ff_e (by omega), bs_1, b1, b2] at f9
    rw [q8]
    by_cases c : 0 ≤ x1.toInt ∧ x1.toInt < (v_now_rows * v_now_cols).toInt
    · rw [decide_eq_true c, if_neg (by decide), wn_x, bs_1, i_64, m0, m3] at f9
      rw [if_pos c]
      by_cases d : 0 ≤ x2.toInt ∧ x2.toInt ≤ 3
      · rw [decide_eq_true d, if_neg (by decide)] at f9
        obtain ⟨v, ev, f9⟩ := mm_bd1s f9
        have hv := sm_i f9
        subst hv
        have q9 := wo_e d ev
        rw [b1, b2] at hf
        rw [ix_e (by omega) (by omega) c.1 (by omega), y0] at q9
        obtain ⟨v1, v2, v3, v4⟩ := l3 x1.toInt.toNat (by omega)
        rw [v1, v2, v3, v4] at q9
        exact q9
      · rw [decide_eq_false d, if_pos rfl] at f9
        rw [wv_o d]
        exact (sm_i f9).symm
    · rw [decide_eq_false c, if_pos rfl] at f9
      rw [if_neg c]
      exact (sm_i f9).symm
  subst er
  exact ⟨_, e8, e9, hr_0⟩
theorem rs_shape_ge {x1 : Int32} {v_now_rows : Int32} {v_now_cols : Int32} {v_now_high : Int32} {v_now_wide : Int32} {v_now_below : List Int32} {v_now_rowOf : List Int32} {v_now_colOf : List Int32} {v_now_face : List Int32} {v_now_worn : List Int32} {v_now_last : List Int32} {v_now_bend : List Int32} {v_now_tall : List Int32} {v_now_folds : Int32} {v_hasImage : Bool} {v_kept_rows : Int32} {v_kept_cols : Int32} {v_kept_high : Int32} {v_kept_wide : Int32} {v_kept_folds : Int32} {v_kept_rowOf : List Int32} {v_kept_colOf : List Int32} {v_kept_below : List Int32} {v_kept_face : List Int32} {m_rowsOf : Int32} {m_columnsOf : Int32} {m_shapeRows : List Int32} {m_shapeColumns : List Int32} {m_below : List Int32} {m_isKept : Bool} {m_imageRows : Int32} {m_imageColumns : Int32} {m_row : List Int32} {m_column : List Int32} {m_face : List Int32} {m_worn : List Int32} {m_lastBend : List Int32} {m_folded : Int32} {m_imageFolded : Int32} (g8_0 : gi_sh v_now_rows v_now_cols v_now_high v_now_wide v_now_rowOf v_now_colOf v_now_below v_now_face v_now_worn v_now_last v_now_bend v_now_tall) (g9_0 : gm_sh m_rowsOf m_columnsOf m_isKept m_imageRows m_imageColumns m_shapeRows m_shapeColumns m_row m_column m_below m_face m_worn m_lastBend) (hr_0 : rl_ge v_now_rows v_now_cols v_now_high v_now_wide v_now_folds v_now_rowOf v_now_colOf v_now_below v_now_face v_hasImage v_kept_rows v_kept_cols v_kept_high v_kept_wide v_kept_folds v_kept_rowOf v_kept_colOf v_kept_below v_kept_face m_rowsOf m_columnsOf m_folded m_isKept m_imageRows m_imageColumns m_imageFolded m_shapeRows m_shapeColumns m_row m_column m_below m_face) : ∃ (r : Int32), fX8_shape 700 x1 v_now_rows v_now_cols v_now_high v_now_wide v_now_below = some r ∧ fX9_shape 700 x1 m_rowsOf m_columnsOf m_shapeRows m_shapeColumns m_below = some r ∧ rl_ge v_now_rows v_now_cols v_now_high v_now_wide v_now_folds v_now_rowOf v_now_colOf v_now_below v_now_face v_hasImage v_kept_rows v_kept_cols v_kept_high v_kept_wide v_kept_folds v_kept_rowOf v_kept_colOf v_kept_below v_kept_face m_rowsOf m_columnsOf m_folded m_isKept m_imageRows m_imageColumns m_imageFolded m_shapeRows m_shapeColumns m_row m_column m_below m_face := by
  obtain ⟨r8, e8, -⟩ := st8_shape (x1 := x1)  g8_0
  obtain ⟨r9, e9, -⟩ := st9_shape (x1 := x1)  g9_0
  obtain ⟨a0, a1, a2, a3, a4, a5, a6, a7, a8, a9, a10, a11, a12, a13, a14, a15, a16, a17⟩ := id g8_0
  obtain ⟨z0, z1, z2, z3, z4, z5, z6, z7, z8, z9, z10, z11, z12, z13⟩ := id g9_0
  have n0 : (0 : Int32).toInt = 0 := by decide
  have n5 : (5 : Int32).toInt = 5 := by decide
  have y0 : (0 : Int32).toInt.toNat = 0 := by decide
  have y5 : (5 : Int32).toInt.toNat = 5 := by decide
  obtain ⟨b1, b2, b3, b4, b5, b6⟩ := id hr_0
  have hf := i_fl z0 z1 z2 z3
  have hf8 := i_fl a0 a1 a2 a3
  obtain ⟨l1, l2, l3⟩ := id b5
  have er : r9 = r8 := by
    have f8 := e8
    have f9 := e9
    rw [b1, b2] at hf
    obtain ⟨h, eh⟩ : ∃ h : Int32, fX5_highestPile 700 v_now_rows v_now_cols v_now_below = some h := by
      obtain ⟨q, eq, -⟩ := st8_shape (x1 := (2 : Int32)) g8_0
      unfold fX8_shape at eq
      rw [if_neg (by decide), if_neg (by decide), if_pos rfl] at eq
      obtain ⟨v, ev, -⟩ := mm_bd1s eq
      exact ⟨v, ev⟩
    unfold fX5_highestPile at eh
    unfold fX9_shape at f9
    have q := hp_4 (m := (v_now_rows.toInt * v_now_cols.toInt).toNat) (by omega) (by rw [b1, b2]; omega) (by omega) (fun k hk => (by have v := (l3 k hk).2.2.1; rw [Nat.mul_zero, Nat.zero_add] at v; exact v)) 700 700 (0 : Int32) (0 : Int32) h r9 eh f9 (by omega)
    unfold fX8_shape at f8
    rw [ge_ig, ge_ig, y0, l1, l2] at q
    rw [q]
    by_cases c0 : x1 = 0
    · rw [if_pos c0] at f8 ⊢
      exact sm_i f8
    · rw [if_neg c0] at f8 ⊢
      by_cases c1 : x1 = 1
      · rw [if_pos c1] at f8 ⊢
        exact sm_i f8
      · rw [if_neg c1] at f8 ⊢
        by_cases c2 : x1 = 2
        · rw [if_pos c2] at f8 ⊢
          unfold fX5_highestPile at f8
          rw [eh, bs_1] at f8
          exact sm_i f8
        · rw [if_neg c2] at f8 ⊢
          exact sm_i f8
  subst er
  exact ⟨_, e8, e9, hr_0⟩
end
section
/-! Geometry: a plan tried -/
def ln_w (sR sC row col bel fac hi to PS : List Int32) : Prop := sR.length = 6 ∧ sC.length = 6 ∧ row.length = 192 ∧ col.length = 192 ∧ bel.length = 192 ∧ fac.length = 192 ∧ hi.length = 32 ∧ to.length = 32 ∧ PS.length = 64
/-- a fold on a sheet and on a level: the geometry behind it -/
theorem bt_e {lv x1 x2 x3 rows cols hg wd fo wr mo : Int32} {R C B F W A be T : List Int32} {sc sk : Int32} {stp st : List Int32} {r h' w' fo' wr' mo' : Int32} {R' C' B' F' W' A' be' T' : List Int32} {sk' : Int32} {st' : List Int32} {tm ba at_ en fa op bm bw mw : Int32} {lim sR sC row col bel fac wo la tape text nam ben hi to PS : List Int32} {ba' at' en' fa' op' bm' bw' mw' : Int32} {sR' sC' row' col' bel' fac' wo' la' nam' ben' hi' to' PS' : List Int32} (L0 : 0 ≤ lv.toInt) (L5 : lv.toInt ≤ 5) (g : gi_sh rows cols hg wd R C B F W A be T) (s0 : 0 ≤ sc.toInt) (s1 : sc.toInt ≤ 121) (s2 : stp.length = 121) (s3 : st.length = 121) (o : ok_w x1 x2 hg wd) (ln : ln_w sR sC row col bel fac hi to PS) (rl : lg_w lv.toInt.toNat rows cols hg wd R C B F sR sC row col bel fac) (e8 : fX5_bendAndTurn 700 x1 x2 x3 rows cols hg wd fo wr mo R C B F W A be T sc sk stp st = some (r, h', w', fo', wr', mo', R', C', B', F', W', A', be', T', sk', st')) (e9 : fX9_foldsOn 700 lv x1 x2 rows cols tm ba at_ en fa op bm bw mw lim sR sC row col bel fac wo la tape text nam ben hi to PS = some (ba', at', en', fa', op', bm', bw', mw', sR', sC', row', col', bel', fac', wo', la', nam', ben', hi', to', PS')) : gi_sh rows cols h' w' R' C' B' F' W' A' be' T' ∧ st'.length = 121 ∧ ln_w sR' sC' row' col' bel' fac' hi' to' PS' ∧ lg_w lv.toInt.toNat rows cols h' w' R' C' B' F' sR' sC' row' col' bel' fac' := by
  have n4 : (4 : Int32).toInt = 4 := by decide
  obtain ⟨a0, a1, a2, a3, a4, a5, a6, a7, a8, a9, a10, a11, a12, a13, a14, a15, a16, a17⟩ := id g
  obtain ⟨z1, z2, z3, z4, z5, z6, z7, z8, z9⟩ := ln
  obtain ⟨l1, l2, l3⟩ := rl
  have hf := i_fl a0 a1 a2 a3
  have o3 : x2.toInt < 4 → x1.toInt < wd.toInt := fun h => by
    have q := o.2.2
    rw [if_neg (fun k => absurd (i_le k) (by omega))] at q
    exact q
  have o4 : 4 ≤ x2.toInt → x1.toInt < hg.toInt := fun h => by
    have q := o.2.2
    rw [if_pos (Int32.le_iff_toInt_le.mpr (by omega))] at q
    exact q
  have q := wp_get (sf_X5_bendAndTurn (Nat.le_refl 700) a0 a1 a2 a3 a4 a5 a6 a7 a8 a9 a10 a11 a12 a13 a14 a15 a16 a17 s0 s1 s2 s3 o.2.1 o3 o4) e8
  obtain ⟨q0, q1, q2, q3, q4, q5, q6, q7, q8, q9, q10, q11, q12, q13, q14⟩ := q
  unfold fX5_bendAndTurn at e8
  obtain ⟨b0, b1, em, e8⟩ := mm_bd2s e8
  obtain ⟨-, -, et⟩ := ba_12 700 _ _ _ _ _ _ _ e8
  obtain ⟨u1, u2, u3, -, -, ⟨v1, v2, v3, v4, v5, v6, v7, v8, v9⟩⟩ := tr_e (m := (rows.toInt * cols.toInt).toNat) (by omega) (by omega) L0 L5 o.1.1 o.1.2 a8 a9 a10 a11 a15 z3 z4 z5 z6 z7 z8 z9 z1 z2 ⟨a4, a5⟩ ⟨a6, a7⟩ (fun k hk => zn_n a16 (by omega) (by omega) (by omega)) (fun k hk => zn_n a17 (by omega) (by omega) (by omega)) l1 l2 l3 et (fs_9 e9).1
  exact ⟨⟨a0, a1, a2, a3, q0, q1, q2, q3, q4, q5, q6, q7, q8, q9, q10, q11, q12, q13⟩, q14, ⟨v8, v9, v1, v2, v3, v4, v5, v6, v7⟩, u1, u2, u3⟩
theorem tf_11 {x1 x3 size rows cols : Int32} {lines ways : List Int32} {p2_rows p2_cols p2_high p2_wide p2_folds p2_wrong p2_more : Int32} {p2_R p2_C p2_B p2_F p2_W p2_A : List Int32} {sc : Int32} {stp : List Int32} {tm : Int32} {lim tape text : List Int32} (s0 : 0 ≤ sc.toInt) (s1 : sc.toInt ≤ 121) (s2 : stp.length = 121) (w12 : ways.length = 12) (sz : size.toInt ≤ 12) (hw : zn ways 0 size.toInt 0 8) : ∀ (n n' : Nat) (x5 hg wd fo wr mo : Int32) (R C B F W A be T : List Int32) (sk : Int32) (st : List Int32) (ba at_ en fa op bm bw mw aw ao z : Int32) (sR sC row col bel fac wo la nam ben hi to PS : List Int32) (r8 rows' cols' h' w' fo' wr' mo' : Int32) (R' C' B' F' W' A' be' T' : List Int32) (sk' : Int32) (st' : List Int32) (r9 ba' at' en' fa' op' bm' bw' mw' aw' ao' z' : Int32) (sR' sC' row' col' bel' fac' wo' la' nam' ben' hi' to' PS' : List Int32), fX3_tryFirst_11 700 n x1 x3 x5 size rows cols hg wd fo wr mo R C B F W A be T lines ways p2_rows p2_cols p2_high p2_wide p2_folds p2_wrong p2_more p2_R p2_C p2_B p2_F p2_W p2_A sc sk stp st = some (r8, rows', cols', h', w', fo', wr', mo', R', C', B', F', W', A', be', T', sk', st') → fX9_goesPlan_17 700 n' x1 (-1 : Int32) x5 rows cols tm ba at_ en fa op bm bw mw size aw ao z lim sR sC row col bel fac wo la tape text nam ben hi to PS lines ways = some (r9, ba', at', en', fa', op', bm', bw', mw', aw', ao', z', sR', sC', row', col', bel', fac', wo', la', nam', ben', hi', to', PS') → 0 ≤ x5.toInt → x5.toInt ≤ x1.toInt → x5.toInt ≤ size.toInt → gi_sh rows cols hg wd R C B F W A be T → st.length = 121 → ln_w sR sC row col bel fac hi to PS → lg_w 1 rows cols hg wd R C B F sR sC row col bel fac → r9 = r8 ∧ rows' = rows ∧ cols' = cols ∧ gi_sh rows cols h' w' R' C' B' F' W' A' be' T' ∧ lg_w 1 rows cols h' w' R' C' B' F' sR' sC' row' col' bel' fac' := by
  have n1 : (1 : Int32).toInt = 1 := by decide
  have y1 : (1 : Int32).toInt.toNat = 1 := by decide
  intro n
  induction n with
  | zero =>
    intro n' x5 hg wd fo wr mo R C B F W A be T sk st ba at_ en fa op bm bw mw aw ao z sR sC row col bel fac wo la nam ben hi to PS r8 rows' cols' h' w' fo' wr' mo' R' C' B' F' W' A' be' T' sk' st' r9 ba' at' en' fa' op' bm' bw' mw' aw' ao' z' sR' sC' row' col' bel' fac' wo' la' nam' ben' hi' to' PS' e8
    exact absurd e8 (by intro h; cases h)
  | succ n ih =>
    intro n' x5 hg wd fo wr mo R C B F W A be T sk st ba at_ en fa op bm bw mw aw ao z sR sC row col bel fac wo la nam ben hi to PS r8 rows' cols' h' w' fo' wr' mo' R' C' B' F' W' A' be' T' sk' st' r9 ba' at' en' fa' op' bm' bw' mw' aw' ao' z' sR' sC' row' col' bel' fac' wo' la' nam' ben' hi' to' PS' e8 e9 p0 p1 p2 G l ln rl
    cases n' with
    | zero => exact absurd e9 (by intro h; cases h)
    | succ n' =>
      rw [uf_X3_tryFirst_11] at e8
      rw [uf_X9_goesPlan_17] at e9
      by_cases c1 : x1 ≤ x5
      · have d1 := i_le c1
        rw [if_pos c1, uf_X3_tryFirst_84] at e8
        apply mm_sub18 e8
        by_cases c2 : size ≤ x5
        · have d2 := i_le c2
          rw [if_pos c2] at e9
          apply mm_sub25 e9
          exact ⟨Int32.toInt_inj.mp (by rw [i_min]; omega), rfl, rfl, G, rl⟩
        · have d2 := i_nle c2
          rw [if_neg c2, if_pos c1] at e9
          apply mm_sub25 e9
          exact ⟨Int32.toInt_inj.mp (by rw [i_min]; omega), rfl, rfl, G, rl⟩
      · have d1 := i_nle c1
        rw [if_neg c1] at e8
        by_cases c2 : size ≤ x5
        · have d2 := i_le c2
          rw [if_pos c2, uf_X3_tryFirst_84] at e8
          rw [if_pos c2] at e9
          apply mm_sub18 e8
          apply mm_sub25 e9
          exact ⟨Int32.toInt_inj.mp (by rw [i_min]; omega), rfl, rfl, G, rl⟩
        · have d2 := i_nle c2
          rw [if_neg c2] at e8
          rw [if_neg c2, if_neg c1] at e9
          have e8 := ck_x (ck_x e8)
          have e9 := ck_x (ck_x e9)
          obtain ⟨a0, a1, a2, a3, a4, a5, a6, a7, a8, a9, a10, a11, a12, a13, a14, a15, a16, a17⟩ := id G
          obtain ⟨z1, z2, z3, z4, z5, z6, z7, z8, z9⟩ := id ln
          obtain ⟨l1, l2, l3⟩ := id rl
          rw [hl_e, bs_1] at e8
          rw [il_e z1 z2 (by omega) (by omega) (show mm_ig sR (1 : Int32) = hg by rw [ge_ig, y1]; exact l1) (show mm_ig sC (1 : Int32) = wd by rw [ge_ig, y1]; exact l2) ⟨a4, a5⟩ ⟨a6, a7⟩, bs_1] at e9
          by_cases d : 1 ≤ (mm_ig lines x5).toInt ∧ (mm_ig lines x5).toInt < (if (4 : Int32) ≤ mm_ig ways x5 then hg else wd).toInt
          · rw [decide_eq_true d, if_neg (by decide)] at e8 e9
            have e8 := ck_x (ck_x e8)
            obtain ⟨b0, b1, b2, b3, b4, b5, b6, b7, b8, b9, b10, b11, b12, b13, b14, b15, eb, e8⟩ := mm_bd16s e8
            rw [nm_eq] at e8
            have e9 := ck_x e9
            rw [nm_eq, if_pos (by decide), uf_X9_goesPlan_103] at e9
            have e9 := ck_x e9
            obtain ⟨f0, f1, f2, f3, f4, f5, f6, f7, f8, f9, f10, f11, f12, f13, f14, f15, f16, f17, f18, f19, f20, ef, e9⟩ := mm_bd21s e9
            rw [nm_eq, nm_eq, nm_eq] at e9
            have hz := zn_get hw p0 p0 (by omega) (by omega)
            obtain ⟨q1, q2, q3, q4⟩ := bt_e (lv := (1 : Int32)) (by omega) (by omega) G s0 s1 s2 l ⟨⟨hz.1, by omega⟩, d⟩ ln (by rw [y1]; exact rl) eb ef
            rw [y1] at q4
            generalize hy : x5 + (1 : Int32) = y at e8 e9
            have ey := i_addE hy (by omega) (by omega)
            exact ih n' y _ _ _ _ _ _ _ _ _ _ _ _ _ _ _ _ _ _ _ _ _ _ _ _ _ _ _ _ _ _ _ _ _ _ _ _ _ _ _ _ _ _ _ _ _ _ _ _ _ _ _ _ _ _ _ _ _ _ _ _ _ _ _ _ _ _ _ _ _ _ _ _ _ _ _ _ _ _ _ _ _ _ e8 e9 (by omega) (by omega) (by omega) q1 q2 q3 q4
          · rw [decide_eq_false d, if_pos rfl] at e8 e9
            apply mm_sub18 e8
            apply mm_sub25 e9
            exact ⟨rfl, rfl, rfl, G, rl⟩
end
section
/-! Geometry: a plan tried, from its start -/
theorem tp_e {x1 x3 size : Int32} {t_rows t_cols t_high t_wide t_folds t_wrong t_more : Int32} {t_R t_C t_B t_F t_W t_A t_be t_T lines ways : List Int32} {rows cols hg wd fo wr mo : Int32} {R C B F W A nbe nT : List Int32} {sc sk : Int32} {stp st : List Int32} {r8 rows' cols' h' w' fo' wr' mo' : Int32} {R' C' B' F' W' A' be' T' : List Int32} {sk' : Int32} {st' : List Int32} {tm ba at_ en fa op bm bw mw aw ao z : Int32} {lim sR sC row col bel fac wo la tape text nam ben hi to PS : List Int32} {r9 ba' at' en' fa' op' bm' bw' mw' aw' ao' z' : Int32} {sR' sC' row' col' bel' fac' wo' la' nam' ben' hi' to' PS' : List Int32} (x0 : 0 ≤ x1.toInt) (s0 : 0 ≤ sc.toInt) (s1 : sc.toInt ≤ 121) (s2 : stp.length = 121) (s3 : st.length = 121) (w12 : ways.length = 12) (sz0 : 0 ≤ size.toInt) (sz : size.toInt ≤ 12) (hw : zn ways 0 size.toInt 0 8) (gt : gi_sh t_rows t_cols t_high t_wide t_R t_C t_B t_F t_W t_A t_be t_T) (gn : gi_sh rows cols hg wd R C B F W A nbe nT) (ln : ln_w sR sC row col bel fac hi to PS) (lw : wo.length = 384) (la_ : la.length = 384) (e8 : fX3_tryFirst 700 x1 x3 size t_rows t_cols t_high t_wide t_folds t_wrong t_more t_R t_C t_B t_F t_W t_A t_be t_T lines ways rows cols hg wd fo wr mo R C B F W A sc sk stp st = some (r8, rows', cols', h', w', fo', wr', mo', R', C', B', F', W', A', be', T', sk', st')) (e9 : fX9_goesPlan 700 x1 (-1 : Int32) rows cols tm ba at_ en fa op bm bw mw size aw ao z lim sR sC row col bel fac wo la tape text nam ben hi to PS lines ways = some (r9, ba', at', en', fa', op', bm', bw', mw', aw', ao', z', sR', sC', row', col', bel', fac', wo', la', nam', ben', hi', to', PS')) : r9 = r8 ∧ rows' = rows ∧ cols' = cols ∧ gi_sh rows cols h' w' R' C' B' F' W' A' be' T' ∧ lg_w 1 rows cols h' w' R' C' B' F' sR' sC' row' col' bel' fac' := by
  have n0 : (0 : Int32).toInt = 0 := by decide
  have n1 : (1 : Int32).toInt = 1 := by decide
  have y1 : (1 : Int32).toInt.toNat = 1 := by decide
  obtain ⟨t0, t1, t2, t3, t4, t5, t6, t7, t8, t9, t10, t11, t12, t13, t14, t15, t16, t17⟩ := gt
  obtain ⟨a0, a1, a2, a3, a4, a5, a6, a7, a8, a9, a10, a11, a12, a13, a14, a15, a16, a17⟩ := id gn
  obtain ⟨z1, z2, z3, z4, z5, z6, z7, z8, z9⟩ := id ln
  have hf := i_fl a0 a1 a2 a3
  rw [uf_X3_tryFirst] at e8
  obtain ⟨w1, w2, w3, w4, w5, w6, w7, w8, w9, w10, w11, w12', w13, eb, e8⟩ := mm_bd13s e8
  have q := wp_get (sf_X5_beginTrial (Nat.le_refl 700) t0 t1 t2 t3 t4 t5 t6 t7 t8 t9 t10 t11 t12 t13 a0 a1 a2 a3 a4 a5 a6 a7 a8 a9 a10 a11 a12 a13 a16 a17) eb
  obtain ⟨q0, q1, q2, q3, q4, q5, q6, q7, q8, q9, q10, q11, q12, q13, q14, q15, -, -⟩ := q
  unfold fX5_beginTrial at eb
  rw [cp_e t8 t9 t10 t11 t12 t13 a8 a9 a10 a11 a12 a13] at eb
  have eb2 : mm_bd3 (fX5_forgetLed 700 fo wr mo) (fun (u15 : Int32) (u16 : Int32) (u17 : Int32) => mm_bd6 (fX5_layOut 700 rows cols hg wd R C B F) (fun (u19 : Int32) (u20 : Int32) (u21 : List Int32) (u22 : List Int32) (u23 : List Int32) (u24 : List Int32) => some (rows, cols, u19, u20, u15, u16, u17, u21, u22, u23, u24, W, A))) = some (w1, w2, w3, w4, w5, w6, w7, w8, w9, w10, w11, w12', w13) := eb
  obtain ⟨u15, u16, u17, -, eb3⟩ := mm_bd3s eb2
  obtain ⟨u19, u20, u21, u22, u23, u24, el, eb4⟩ := mm_bd6s eb3
  obtain ⟨c1, c2, c3⟩ := lo_e (m := (rows.toInt * cols.toInt).toNat) (by omega) (by omega) a0 a1 a2 a3 a8 a9 a10 a11 el
  rw [uf_X9_goesPlan] at e9
  obtain ⟨x1', x2', x3', x4', x5', x6', x7', x8', es, e9⟩ := mm_bd8s e9
  obtain ⟨⟨d1, d2, d3, d4, d5, d6, d7, d8⟩, -, d10, -, -⟩ := sa_r (m := (rows.toInt * cols.toInt).toNat) (by omega) (by omega) a2 a3 (by omega) (by omega) z3 z4 z5 z6 lw la_ es
  rw [y1] at d10
  have eb5 := sm_i eb4
  injection eb5 with f1 eb5
  injection eb5 with f2 eb5
  injection eb5 with f3 eb5
  injection eb5 with f4 eb5
  injection eb5 with f5 eb5
  injection eb5 with f6 eb5
  injection eb5 with f7 eb5
  injection eb5 with f8 eb5
  injection eb5 with f9 eb5
  injection eb5 with f10 eb5
  injection eb5 with f11 eb5
  subst f1 f2 f3 f4 f8 f9 f10 f11
  refine tf_11 s0 s1 s2 w12 sz hw 700 700 (0 : Int32) _ _ _ _ _ _ _ _ _ _ _ _ _ _ _ _ _ _ _ _ _ _ _ _ _ _ _ _ _ _ _ _ _ _ _ _ _ _ _ _ _ _ _ _ _ _ _ _ _ _ _ _ _ _ _ _ _ _ _ _ _ _ _ _ _ _ _ _ _ _ _ _ _ _ _ _ _ _ _ _ _ _ e8 e9 (by omega) (by omega) (by omega) ⟨q0, q1, q2, q3, q4, q5, q6, q7, q8, q9, q10, q11, q12, q13, t14, t15, q14, q15⟩ s3 ?_ ⟨?_, ?_, ?_⟩
  · rw [d1, d2]
    exact ⟨by rw [is_len]; exact z1, by rw [is_len]; exact z2, d3, d4, d5, d6, z7, z8, z9⟩
  · rw [d1, c1, ge_is _ _ _ _ (by omega), y1, if_pos rfl]
  · rw [d2, c2, ge_is _ _ _ _ (by omega), y1, if_pos rfl]
  · exact fl_x c3 d10
/-! The plan's ways -/
theorem zx_w {ws : List Int32} {s v y : Int32} (h : zn ws 0 s.toInt 0 8) (s0 : 0 ≤ s.toInt) (hy : s + (1 : Int32) = y) (ey : y.toInt = s.toInt + 1) (v0 : 0 ≤ v.toInt) (v7 : v.toInt ≤ 7) : zn (mm_is ws s v) 0 y.toInt 0 8 := zn_ext h s0 rfl v0 (by omega) ey
theorem p9_69 {x1 x2 x3 : Int32} {sh mn : List Int32} {it : List Int64} : ∀ (n : Nat) (x4 x5 s : Int32) (ls ws : List Int32) (r s' : Int32) (ls' ws' : List Int32), fX9_plans_69 700 n x1 x2 x3 x4 x5 s ls ws sh mn it = some (r, s', ls', ws') → 0 ≤ s.toInt → s.toInt ≤ 12 → zn ws 0 s.toInt 0 8 → zn ws' 0 s'.toInt 0 8 := by
  have n1 : (1 : Int32).toInt = 1 := by decide
  have n12 : (12 : Int32).toInt = 12 := by decide
  have m0 : (0 : Int64).toInt = 0 := by decide
  have m7 : (7 : Int64).toInt = 7 := by decide
  intro n
  induction n with
  | zero =>
    intro x4 x5 s ls ws r s' ls' ws' e
    exact absurd e (by intro h; cases h)
  | succ n ih =>
    intro x4 x5 s ls ws r s' ls' ws' e p0 p1 H
    rw [uf_X9_plans_69] at e
    by_cases c1 : x5 = 0
    · rw [if_pos c1] at e
      apply mm_sub4 e
      exact H
    · rw [if_neg c1] at e
      by_cases c2 : x3 ≤ x4
      · rw [if_pos c2] at e
        apply mm_sub4 e
        exact H
      · rw [if_neg c2] at e
        have e := ck_x e
        have K0 : ∀ x6 : Int32, fX9_plans_171 700 (fX9_plans_69 700 n) x1 x2 x3 x4 x6 s ls ws sh mn it = some (r, s', ls', ws') → zn ws' 0 s'.toInt 0 8 := by
          intro x6 e
          unfold fX9_plans_171 fX9_plans_172 at e
          rw [if_pos rfl] at e
          unfold fX9_plans_228 at e
          exact ih _ _ _ _ _ _ _ _ _ e p0 p1 H
        have K1 : fX9_plans_110 700 (fX9_plans_69 700 n) x1 x2 x3 x4 s ls ws sh mn it = some (r, s', ls', ws') → zn ws' 0 s'.toInt 0 8 := by
          intro e
          unfold fX9_plans_110 fX9_plans_111 at e
          rw [nm_eq, if_pos rfl] at e
          exact K0 _ e
        by_cases c3 : (((mm_ig mn x1) - (2 : Int32)) - ((2 : Int32) * x4)) < x2
        · rw [if_pos c3] at e
          exact K1 e
        · rw [if_neg c3] at e
          by_cases c4 : (12 : Int32) ≤ s
          · rw [if_pos c4] at e
            exact K1 e
          · have d4 := i_nle c4
            rw [if_neg c4] at e
            unfold fX9_plans_111 at e
            rw [nm_eq, if_neg (by decide)] at e
            have e := ck_x e
            obtain ⟨b1, e1, e⟩ := mm_bd1s e
            by_cases g1 : b1 = false
            · rw [if_pos g1] at e
              exact K0 _ e
            · rw [if_neg g1] at e
              have e := ck_x e
              rw [wn_x, bs_1, m0, m7] at e
              by_cases g2 : 0 ≤ (mm_lg it (((((60 : Int32) * x1) + x2) + ((2 : Int32) * x4)) + (1 : Int32))).toInt ∧ (mm_lg it (((((60 : Int32) * x1) + x2) + ((2 : Int32) * x4)) + (1 : Int32))).toInt ≤ 7
              · rw [decide_eq_true g2, if_neg (by decide)] at e
                unfold fX9_plans_172 at e
                rw [if_neg (by decide)] at e
                have e := ck_x e
                rw [nm_eq] at e
                have e := ck_x e
                rw [nm_eq] at e
                have e := ck_x e
                rw [nm_eq] at e
                have e := ck_x e
                rw [nm_eq, nm_eq, nm_eq] at e
                unfold fX9_plans_228 at e
                generalize hy : s + (1 : Int32) = y at e
                have ey := i_addE hy (by omega) (by omega)
                have hv : ((mm_lg it (((((60 : Int32) * x1) + x2) + ((2 : Int32) * x4)) + (1 : Int32))).toInt32).toInt = (mm_lg it (((((60 : Int32) * x1) + x2) + ((2 : Int32) * x4)) + (1 : Int32))).toInt := by
                  rw [Int64.toInt_toInt32]
                  exact Int.bmod_eq_of_le (by omega) (by omega)
                exact ih _ _ _ _ _ _ _ _ _ e (by omega) (by omega) (zx_w H p0 hy (by omega) (by omega) (by omega))
              · rw [decide_eq_false g2, if_pos rfl] at e
                exact K0 _ e
theorem p9_s {x1 x2 x3 s r s' : Int32} {ls ws ls' ws' sh mn : List Int32} {it : List Int64} (p0 : 0 ≤ s.toInt) (p1 : s.toInt ≤ 12) (H : zn ws 0 s.toInt 0 8) (e : fX9_plans 700 x1 x2 x3 s ls ws sh mn it = some (r, s', ls', ws')) : zn ws' 0 s'.toInt 0 8 := by
  have K : ∀ k : Int32, fX9_plans_67 700 x1 x2 x3 (0 : Int32) k s ls ws sh mn it = some (r, s', ls', ws') → zn ws' 0 s'.toInt 0 8 := fun k e => by
    unfold fX9_plans_67 at e
    exact p9_69 _ _ _ _ _ _ _ _ _ _ e p0 p1 H
  have K2 : fX9_plans_44 700 x1 x2 x3 s ls ws sh mn it = some (r, s', ls', ws') → zn ws' 0 s'.toInt 0 8 := fun e => by
    unfold fX9_plans_44 at e
    have e := ck_x e
    by_cases c : mm_ig sh x1 = (50 : Int32)
    · rw [if_pos c] at e
      by_cases d : x2 < 0
      · rw [if_pos d] at e
        unfold fX9_plans_66 at e
        exact K _ e
      · rw [if_neg d] at e
        exact K _ e
    · rw [if_neg c] at e
      unfold fX9_plans_66 at e
      exact K _ e
  unfold fX9_plans at e
  obtain ⟨b1, -, e⟩ := mm_bd1s e
  by_cases g1 : b1 = false
  · rw [if_pos g1] at e
    apply mm_sub4 e
    exact H
  · rw [if_neg g1] at e
    obtain ⟨b2, -, e⟩ := mm_bd1s e
    by_cases g2 : b2 = false
    · rw [if_pos g2] at e
      apply mm_sub4 e
      exact H
    · rw [if_neg g2] at e
      have e := ck_x e
      by_cases g3 : mm_ig sh x1 < 0
      · rw [if_pos g3] at e
        exact K2 e
      · rw [if_neg g3] at e
        have e := ck_x e
        by_cases g4 : mm_ig sh x1 = (50 : Int32)
        · rw [if_pos g4] at e
          exact K2 e
        · rw [if_neg g4] at e
          apply mm_sub4 e
          exact H
theorem p9_p {x1 x2 s r s' : Int32} {ls ws ls' ws' : List Int32} (p0 : 0 ≤ s.toInt) (p1 : s.toInt ≤ 12) (H : zn ws 0 s.toInt 0 8) (e : fX9_plan 700 x1 x2 s ls ws = some (r, s', ls', ws')) : zn ws' 0 s'.toInt 0 8 := by
  have n0 : (0 : Int32).toInt = 0 := by decide
  have n1 : (1 : Int32).toInt = 1 := by decide
  have n12 : (12 : Int32).toInt = 12 := by decide
  have m0 : (0 : Int64).toInt = 0 := by decide
  have m7 : (7 : Int64).toInt = 7 := by decide
  unfold fX9_plan at e
  by_cases c : x1 = 0
  · rw [if_pos c] at e
    apply mm_sub4 e
    exact zn_nil (by omega)
  · rw [if_neg c] at e
    obtain ⟨b1, -, e⟩ := mm_bd1s e
    by_cases g1 : b1 = false
    · rw [if_pos g1] at e
      apply mm_sub4 e
      exact H
    · rw [if_neg g1, wn_x, bs_1, i_64, m0, m7] at e
      by_cases g2 : 0 ≤ x2.toInt ∧ x2.toInt ≤ 7
      · rw [decide_eq_true g2, if_neg (by decide)] at e
        by_cases g3 : s = (12 : Int32)
        · rw [if_pos g3] at e
          apply mm_sub4 e
          exact H
        · have d3 := i_ne g3
          rw [if_neg g3] at e
          have e := ck_x e
          rw [nm_eq] at e
          have e := ck_x e
          rw [nm_eq, nm_eq] at e
          generalize hy : s + (1 : Int32) = y at e
          have ey := i_addE hy (by omega) (by omega)
          apply mm_sub4 e
          exact zx_w H p0 hy (by omega) g2.1 g2.2
      · rw [decide_eq_false g2, if_pos rfl] at e
        apply mm_sub4 e
        exact H
end
section
/-! Geometry: behind a plan's first folds; tops -/
theorem bh_e {x1 lim8 size : Int32} {t_rows t_cols t_high t_wide t_folds t_wrong t_more : Int32} {t_R t_C t_B t_F t_W t_A t_be t_T lines ways : List Int32} {rows cols hg wd fo wr mo : Int32} {R C B F W A nbe nT : List Int32} {sc sk : Int32} {stp st : List Int32} {b8 : Bool} {rows' cols' h' w' fo' wr' mo' : Int32} {R' C' B' F' W' A' be' T' : List Int32} {sk' : Int32} {st' : List Int32} {tm ba at_ en fa op bm bw mw aw ao z : Int32} {lim sR sC row col bel fac wo la tape text nam ben hi to PS : List Int32} {b9 : Bool} {ba' at' en' fa' op' bm' bw' mw' aw' ao' z' : Int32} {sR' sC' row' col' bel' fac' wo' la' nam' ben' hi' to' PS' : List Int32} (s0 : 0 ≤ sc.toInt) (s1 : sc.toInt ≤ 121) (s2 : stp.length = 121) (s3 : st.length = 121) (w12 : ways.length = 12) (sz0 : 0 ≤ size.toInt) (sz : size.toInt ≤ 12) (hw : zn ways 0 size.toInt 0 8) (gt : gi_sh t_rows t_cols t_high t_wide t_R t_C t_B t_F t_W t_A t_be t_T) (gn : gi_sh rows cols hg wd R C B F W A nbe nT) (ln : ln_w sR sC row col bel fac hi to PS) (lw : wo.length = 384) (la_ : la.length = 384) (e8 : fX8_behind 700 x1 rows cols hg wd fo wr mo R C B F W A sc sk stp st size t_rows t_cols t_high t_wide t_folds t_wrong t_more t_R t_C t_B t_F t_W t_A t_be t_T lines ways lim8 = some (b8, sk', st', rows', cols', h', w', fo', wr', mo', R', C', B', F', W', A', be', T')) (e9 : fX9_isBehind 700 x1 rows cols tm ba at_ en fa op bm bw mw size aw ao z lim sR sC row col bel fac wo la tape text nam ben hi to PS lines ways = some (b9, ba', at', en', fa', op', bm', bw', mw', aw', ao', z', sR', sC', row', col', bel', fac', wo', la', nam', ben', hi', to', PS')) : b9 = b8 ∧ (b8 = true → rows' = rows ∧ cols' = cols ∧ gi_sh rows cols h' w' R' C' B' F' W' A' be' T' ∧ lg_w 1 rows cols h' w' R' C' B' F' sR' sC' row' col' bel' fac') := by
  have n0 : (0 : Int32).toInt = 0 := by decide
  rw [uf_X8_behind] at e8
  rw [uf_X9_isBehind] at e9
  by_cases c : x1 < 0
  · rw [if_pos c] at e8 e9
    apply mm_sub18 e8
    apply mm_sub25 e9
    exact ⟨rfl, fun h => absurd h (by decide)⟩
  · have d := i_nlt c
    rw [if_neg c] at e8 e9
    obtain ⟨u0, u1, u2, u3, u4, u5, u6, u7, u8, u9, u10, u11, u12, u13, u14, u15, u16, u17, et, e8⟩ := mm_bd18s e8
    obtain ⟨v0, v1, v2, v3, v4, v5, v6, v7, v8, v9, v10, v11, v12, v13, v14, v15, v16, v17, v18, v19, v20, v21, v22, v23, v24, eg, e9⟩ := mm_bd25s e9
    obtain ⟨q1, q2, q3, q4, q5⟩ := tp_e (by omega) s0 s1 s2 s3 w12 sz0 sz hw gt gn ln lw la_ et eg
    subst q1
    by_cases g : v0 = x1
    · rw [if_pos g] at e8 e9
      apply mm_sub18 e8
      apply mm_sub25 e9
      exact ⟨rfl, fun _ => ⟨q2, q3, q4, q5⟩⟩
    · rw [if_neg g] at e8 e9
      apply mm_sub18 e8
      apply mm_sub25 e9
      exact ⟨rfl, fun h => absurd h (by decide)⟩
theorem hs_5 {lv x1 x2 rows cols : Int32} {R C row col : List Int32} {m : Nat} (hm : (rows * cols).toInt = m) (m32 : m ≤ 32) (L0 : 0 ≤ lv.toInt) (L5 : lv.toInt ≤ 5) (H : ∀ k : Nat, k < m → row.getD (32 * lv.toInt.toNat + k) 0 = R.getD k 0 ∧ col.getD (32 * lv.toInt.toNat + k) 0 = C.getD k 0) : ∀ (n n' : Nat) (x3 x4 r8 r9 : Int32), fX5_heightAt_5 700 n x1 x2 x3 x4 rows cols R C = some r8 → fX9_sizeAt_6 700 n' lv x1 x2 x3 x4 rows cols row col = some r9 → 0 ≤ x4.toInt → r9 = r8 := by
  have n1 : (1 : Int32).toInt = 1 := by decide
  intro n
  induction n with
  | zero =>
    intro n' x3 x4 r8 r9 e
    exact absurd e (by intro h; cases h)
  | succ n ih =>
    intro n' x3 x4 r8 r9 e8 e9 p0
    cases n' with
    | zero => exact absurd e9 (by intro h; cases h)
    | succ n' =>
      rw [uf_X5_heightAt_5] at e8
      rw [uf_X9_sizeAt_6] at e9
      obtain ⟨f8, ef8, e8⟩ := mm_bd1s e8
      obtain ⟨f9, ef9, e9⟩ := mm_bd1s e9
      have h8 : rows * cols = f8 := sm_i ef8
      have h9 : rows * cols = f9 := sm_i ef9
      subst h8
      subst h9
      by_cases c : rows * cols ≤ x4
      · rw [if_pos c] at e8 e9
        exact (sm_i e9).symm.trans (sm_i e8)
      · have d := i_nle c
        rw [if_neg c] at e8 e9
        have e8 := ck_x e8
        have e9 := ck_x e9
        obtain ⟨q1, q2⟩ := H x4.toInt.toNat (by omega)
        have io := ix_e L0 L5 p0 (show x4.toInt ≤ 64 by omega)
        have hr : mm_ig row (((32 : Int32) * lv) + x4) = mm_ig R x4 := by rw [ge_ig, io]; exact q1
        have hc : mm_ig col (((32 : Int32) * lv) + x4) = mm_ig C x4 := by rw [ge_ig, io]; exact q2
        rw [hr] at e9
        generalize hy : x4 + (1 : Int32) = y at e8 e9
        have z0 : x3 + (0 : Int32) = x3 := Int32.add_zero _
        have ey := i_addE hy (by omega) (by omega)
        by_cases g1 : mm_ig R x4 = x1
        · rw [if_pos g1] at e8 e9
          have e8 := ck_x e8
          have e9 := ck_x e9
          rw [hc] at e9
          by_cases g2 : mm_ig C x4 = x2
          · rw [if_pos g2] at e8 e9
            rw [nm_eq, uf_X5_heightAt_39, nm_eq, hy] at e8
            rw [uf_X9_sizeAt_54, nm_eq, nm_eq, hy] at e9
            exact ih n' _ y r8 r9 e8 e9 (by omega)
          · rw [if_neg g2] at e8 e9
            rw [uf_X5_heightAt_39, nm_eq, hy] at e8
            rw [uf_X9_sizeAt_53, uf_X9_sizeAt_54, nm_eq, nm_eq, hy, z0] at e9
            exact ih n' _ y r8 r9 e8 e9 (by omega)
        · rw [if_neg g1] at e8 e9
          rw [uf_X5_heightAt_39, nm_eq, hy] at e8
          rw [uf_X9_sizeAt_53, uf_X9_sizeAt_54, nm_eq, nm_eq, hy, z0] at e9
          exact ih n' _ y r8 r9 e8 e9 (by omega)
theorem fa_3 {lv x1 x2 x3 rows cols : Int32} {R C B row col bel : List Int32} {m : Nat} (hm : (rows * cols).toInt = m) (m32 : m ≤ 32) (L0 : 0 ≤ lv.toInt) (L5 : lv.toInt ≤ 5) (H : ∀ k : Nat, k < m → row.getD (32 * lv.toInt.toNat + k) 0 = R.getD k 0 ∧ col.getD (32 * lv.toInt.toNat + k) 0 = C.getD k 0 ∧ bel.getD (32 * lv.toInt.toNat + k) 0 = B.getD k 0) : ∀ (n n' : Nat) (x4 r8 r9 : Int32), fX5_fieldAt_3 700 n x1 x2 x3 x4 rows cols R C B = some r8 → fX9_fieldAt_3 700 n' lv x1 x2 x3 x4 rows cols row col bel = some r9 → 0 ≤ x4.toInt → r9 = r8 := by
  have n1 : (1 : Int32).toInt = 1 := by decide
  intro n
  induction n with
  | zero =>
    intro n' x4 r8 r9 e
    exact absurd e (by intro h; cases h)
  | succ n ih =>
    intro n' x4 r8 r9 e8 e9 p0
    cases n' with
    | zero => exact absurd e9 (by intro h; cases h)
    | succ n' =>
      rw [uf_X5_fieldAt_3] at e8
      rw [uf_X9_fieldAt_3] at e9
      obtain ⟨f8, ef8, e8⟩ := mm_bd1s e8
      obtain ⟨f9, ef9, e9⟩ := mm_bd1s e9
      have h8 : rows * cols = f8 := sm_i ef8
      have h9 : rows * cols = f9 := sm_i ef9
      subst h8
      subst h9
      by_cases c : rows * cols ≤ x4
      · rw [if_pos c] at e8 e9
        exact (sm_i e9).symm.trans (sm_i e8)
      · have d := i_nle c
        rw [if_neg c] at e8 e9
        rw [nm_eq] at e9
        have e8 := ck_x e8
        have e9 := ck_x e9
        obtain ⟨q1, q2, q3⟩ := H x4.toInt.toNat (by omega)
        have io := ix_e L0 L5 p0 (show x4.toInt ≤ 64 by omega)
        have hr : mm_ig row (((32 : Int32) * lv) + x4) = mm_ig R x4 := by rw [ge_ig, io]; exact q1
        have hc : mm_ig col (((32 : Int32) * lv) + x4) = mm_ig C x4 := by rw [ge_ig, io]; exact q2
        have hb : mm_ig bel (((32 : Int32) * lv) + x4) = mm_ig B x4 := by rw [ge_ig, io]; exact q3
        have K : fX5_fieldAt_48 700 (fX5_fieldAt_3 700 n) x1 x2 x3 x4 rows cols R C B = some r8 → fX9_fieldAt_58 700 (fX9_fieldAt_3 700 n') lv x1 x2 x3 x4 rows cols row col bel = some r9 → r9 = r8 := by
          intro e8 e9
          rw [uf_X5_fieldAt_48, nm_eq] at e8
          rw [uf_X9_fieldAt_58, nm_eq] at e9
          generalize hy : x4 + (1 : Int32) = y at e8 e9
          have ey := i_addE hy (by omega) (by omega)
          exact ih n' y r8 r9 e8 e9 (by omega)
        rw [hr] at e9
        by_cases g1 : mm_ig R x4 = x1
        · rw [if_pos g1] at e8 e9
          have e8 := ck_x e8
          have e9 := ck_x e9
          rw [hc] at e9
          by_cases g2 : mm_ig C x4 = x2
          · rw [if_pos g2] at e8 e9
            have e8 := ck_x e8
            have e9 := ck_x e9
            rw [hb] at e9
            by_cases g3 : mm_ig B x4 = x3
            · rw [if_pos g3] at e8 e9
              exact (sm_i e9).symm.trans (sm_i e8)
            · rw [if_neg g3] at e8 e9
              exact K e8 e9
          · rw [if_neg g2] at e8 e9
            exact K e8 e9
        · rw [if_neg g1] at e8 e9
          exact K e8 e9
/-- what tops need of a level -/
def lh_w (m o : Nat) (R C B row col bel : List Int32) : Prop := ∀ k : Nat, k < m → row.getD (o + k) 0 = R.getD k 0 ∧ col.getD (o + k) 0 = C.getD k 0 ∧ bel.getD (o + k) 0 = B.getD k 0
theorem ta_a {lv x1 x2 rows cols r8 r9 : Int32} {R C B row col bel : List Int32} {m : Nat} (hm : (rows * cols).toInt = m) (m32 : m ≤ 32) (L0 : 0 ≤ lv.toInt) (L5 : lv.toInt ≤ 5) (H : lh_w m (32 * lv.toInt.toNat) R C B row col bel) (e8 : fX5_topAt 700 x1 x2 rows cols R C B = some r8) (e9 : fX9_topOf 700 lv x1 x2 rows cols row col bel = some r9) : r9 = r8 := by
  have n0 : (0 : Int32).toInt = 0 := by decide
  unfold fX5_topAt at e8
  unfold fX9_topOf at e9
  obtain ⟨h8, eh8, e8⟩ := mm_bd1s e8
  obtain ⟨h9, eh9, e9⟩ := mm_bd1s e9
  unfold fX5_heightAt at eh8
  unfold fX9_sizeAt at eh9
  have q := hs_5 hm m32 L0 L5 (fun k hk => ⟨(H k hk).1, (H k hk).2.1⟩) 700 700 _ _ _ _ eh8 eh9 (by omega)
  subst q
  obtain ⟨u8, eu8, e8⟩ := mm_bd1s e8
  obtain ⟨u9, eu9, e9⟩ := mm_bd1s e9
  unfold fX5_fieldAt at eu8
  unfold fX9_fieldAt at eu9
  have q := fa_3 hm m32 L0 L5 H 700 700 _ _ _ eu8 eu9 (by omega)
  rw [← sm_i e8, ← sm_i e9, q]
theorem it_a {lv x rows cols : Int32} {b8 b9 : Bool} {R C B row col bel : List Int32} {m : Nat} (hm : (rows * cols).toInt = m) (m32 : m ≤ 32) (L0 : 0 ≤ lv.toInt) (L5 : lv.toInt ≤ 5) (H : lh_w m (32 * lv.toInt.toNat) R C B row col bel) (x0 : 0 ≤ x.toInt) (x1 : x.toInt < m) (e8 : fX5_isTop 700 x rows cols R C B = some b8) (e9 : fX9_isOnTop 700 lv x rows cols row col bel = some b9) : b9 = b8 := by
  unfold fX5_isTop at e8
  unfold fX9_isOnTop at e9
  have e8 := ck_x (ck_x e8)
  have e9 := ck_x (ck_x e9)
  obtain ⟨q1, q2, q3⟩ := H x.toInt.toNat (by omega)
  have io := ix_e L0 L5 x0 (show x.toInt ≤ 64 by omega)
  have hr : mm_ig row (((32 : Int32) * lv) + x) = mm_ig R x := by rw [ge_ig, io]; exact q1
  have hc : mm_ig col (((32 : Int32) * lv) + x) = mm_ig C x := by rw [ge_ig, io]; exact q2
  rw [hr, hc] at e9
  obtain ⟨u8, eu8, e8⟩ := mm_bd1s e8
  obtain ⟨u9, eu9, e9⟩ := mm_bd1s e9
  have q := ta_a hm m32 L0 L5 H eu8 eu9
  subst q
  by_cases g : u9 = x
  · rw [if_pos g] at e8 e9
    exact (sm_i e9).symm.trans (sm_i e8)
  · rw [if_neg g] at e8 e9
    exact (sm_i e9).symm.trans (sm_i e8)
theorem sq_8 : ∀ p q : Fin 8, (p.val * p.val + q.val * q.val = 1) ↔ (p.val + q.val = 1) := by decide
theorem sq_e {a c : Int} (a0 : -7 ≤ a) (a1 : a ≤ 7) (c0 : -7 ≤ c) (c1 : c ≤ 7) : (a * a + c * c = 1) ↔ (a.natAbs + c.natAbs = 1) := by
  have q : (a.natAbs * a.natAbs + c.natAbs * c.natAbs = 1) ↔ (a.natAbs + c.natAbs = 1) := sq_8 ⟨a.natAbs, by omega⟩ ⟨c.natAbs, by omega⟩
  have h1 : ((a.natAbs * a.natAbs : Nat) : Int) = a * a := Int.natAbs_mul_self
  have h2 : ((c.natAbs * c.natAbs : Nat) : Int) = c * c := Int.natAbs_mul_self
  rw [← h1, ← h2, ← q]
  generalize a.natAbs * a.natAbs = u
  generalize c.natAbs * c.natAbs = v
  omega
theorem ab_e {x : Int32} (h0 : -100 ≤ x.toInt) (h1 : x.toInt ≤ 100) : (mm_abs x).toInt = x.toInt.natAbs := by
  have n0 : (0 : Int32).toInt = 0 := by decide
  unfold mm_abs
  by_cases c : (0 : Int32) ≤ x
  · have d := i_le c
    rw [if_pos c]
    omega
  · have d := i_nle c
    rw [if_neg c]
    generalize hz : (0 : Int32) - x = z
    have ez := i_subE hz (by omega) (by omega)
    omega
end
section
/-! Piles: each field lies within its own -/
def cn_w (p : Nat → Bool) : Nat → Nat → Nat
  | _, 0 => 0
  | j, n + 1 => (if p j = true then 1 else 0) + cn_w p (j + 1) n
theorem cn_s (p : Nat → Bool) (j n : Nat) : cn_w p j (n + 1) = (if p j = true then 1 else 0) + cn_w p (j + 1) n := rfl
theorem cn_l (p : Nat → Bool) : ∀ n j : Nat, cn_w p j n ≤ n := by
  intro n
  induction n with
  | zero =>
    intro j
    exact Nat.le_refl 0
  | succ n ih =>
    intro j
    have q := ih (j + 1)
    rw [cn_s]
    by_cases h : p j = true
    · rw [if_pos h]
      omega
    · rw [if_neg h]
      omega
theorem kc_n (p : Nat → Bool) : ∀ n j : Nat, n ≤ 1000 → (kc_w p j n).toInt = (cn_w p j n : Nat) := by
  have n1 : (1 : Int32).toInt = 1 := by decide
  have n0 : (0 : Int32).toInt = 0 := by decide
  intro n
  induction n with
  | zero =>
    intro j _
    exact n0
  | succ n ih =>
    intro j hn
    have q := ih (j + 1) (by omega)
    have l := cn_l p n (j + 1)
    rw [cn_s]
    show ((if p j = true then (1 : Int32) else (0 : Int32)) + kc_w p (j + 1) n).toInt = _
    generalize kc_w p (j + 1) n = z at q ⊢
    by_cases h : p j = true
    · rw [if_pos h, if_pos h]
      have e := i_addE (rfl : (1 : Int32) + z = _) (by omega) (by omega)
      rw [e]
      omega
    · rw [if_neg h, if_neg h]
      have e := i_addE (rfl : (0 : Int32) + z = _) (by omega) (by omega)
      rw [e]
      omega
theorem cn_1 {p : Nat → Bool} : ∀ (n j k : Nat), j ≤ k → k < j + n → p k = true → 1 ≤ cn_w p j n := by
  intro n
  induction n with
  | zero =>
    intro j k h0 h1
    exact absurd h1 (by omega)
  | succ n ih =>
    intro j k h0 h1 h
    rw [cn_s]
    by_cases g : j = k
    · rw [g, if_pos h]
      omega
    · have q := ih (j + 1) k (by omega) (by omega) h
      omega
theorem cn_2 {p q r : Nat → Bool} : ∀ (n j : Nat), (∀ k : Nat, j ≤ k → k < j + n → p k = true → r k = true) → (∀ k : Nat, j ≤ k → k < j + n → q k = true → r k = true) → (∀ k : Nat, j ≤ k → k < j + n → p k = true → q k = true → False) → cn_w p j n + cn_w q j n ≤ cn_w r j n := by
  intro n
  induction n with
  | zero =>
    intro j _ _ _
    exact Nat.le_refl 0
  | succ n ih =>
    intro j h1 h2 h3
    have e := ih (j + 1) (fun k k0 k1 => h1 k (by omega) (by omega)) (fun k k0 k1 => h2 k (by omega) (by omega)) (fun k k0 k1 => h3 k (by omega) (by omega))
    rw [cn_s, cn_s, cn_s]
    by_cases g1 : p j = true
    · have g2 : ¬ q j = true := fun g2 => h3 j (by omega) (by omega) g1 g2
      rw [if_pos g1, if_neg g2, if_pos (h1 j (by omega) (by omega) g1)]
      omega
    · by_cases g2 : q j = true
      · rw [if_neg g1, if_pos g2, if_pos (h2 j (by omega) (by omega) g2)]
        omega
      · rw [if_neg g1, if_neg g2]
        omega
theorem cn_c {p q : Nat → Bool} : ∀ (n j : Nat), (∀ k : Nat, j ≤ k → k < j + n → p k = q k) → cn_w p j n = cn_w q j n := by
  intro n
  induction n with
  | zero =>
    intro j _
    rfl
  | succ n ih =>
    intro j h
    rw [cn_s, cn_s, ih (j + 1) (fun k k0 k1 => h k (by omega) (by omega)), h j (by omega) (by omega)]
theorem cn_0 {p : Nat → Bool} : ∀ (n j : Nat), (∀ k : Nat, j ≤ k → k < j + n → p k = false) → cn_w p j n = 0 := by
  intro n
  induction n with
  | zero =>
    intro j _
    rfl
  | succ n ih =>
    intro j h
    rw [cn_s, ih (j + 1) (fun k k0 k1 => h k (by omega) (by omega)), h j (by omega) (by omega), if_neg (by decide)]
/-- as many fields lie at a place as at that of field k -/
def cp_w (m : Nat) (R C : List Int32) (r c : Int32) : Nat := cn_w (fun j => decide (R.getD j 0 = r ∧ C.getD j 0 = c)) 0 m
def bw_w (m : Nat) (R C B : List Int32) : Prop := ∀ k : Nat, k < m → 0 ≤ (B.getD k 0).toInt ∧ (B.getD k 0).toInt < (cp_w m R C (R.getD k 0) (C.getD k 0) : Nat)
theorem bw_0 {m : Nat} {R C B : List Int32} (h : ∀ k : Nat, k < m → B.getD k 0 = 0) : bw_w m R C B := fun k hk => by
  have q : 1 ≤ cp_w m R C (R.getD k 0) (C.getD k 0) := cn_1 m 0 k (Nat.zero_le k) (by omega) (decide_eq_true ⟨rfl, rfl⟩)
  rw [h k hk, show (0 : Int32).toInt = 0 by decide]
  omega
theorem bw_f {m : Nat} {c : Int} {R C B F : List Int32} (h : fl_w m c 0 R C B F) : bw_w m R C B := bw_0 (fun k hk => by
  have q := (h k hk).2.2.1
  rw [Nat.zero_add] at q
  exact q)
/-- along and across, and back -/
theorem al_ac {w r c r' c' : Int32} : (al_w w r c = al_w w r' c' ∧ ac_w w r c = ac_w w r' c') ↔ (r = r' ∧ c = c') := by
  unfold al_w ac_w
  by_cases h : (4 : Int32) ≤ w
  · rw [if_pos h, if_pos h, if_pos h, if_pos h]
  · rw [if_neg h, if_neg h, if_neg h, if_neg h]
    exact ⟨fun z => ⟨z.2, z.1⟩, fun z => ⟨z.2, z.1⟩⟩
def sn_w (w high wide : Int32) : Int32 := if (4 : Int32) ≤ w then high else wide
theorem al_r {w high wide r c : Int32} (r0 : 0 ≤ r.toInt) (r1 : r.toInt < high.toInt) (c0 : 0 ≤ c.toInt) (c1 : c.toInt < wide.toInt) : 0 ≤ (al_w w r c).toInt ∧ (al_w w r c).toInt < (sn_w w high wide).toInt := by
  unfold al_w sn_w
  by_cases h : (4 : Int32) ≤ w
  · rw [if_pos h, if_pos h]
    exact ⟨r0, r1⟩
  · rw [if_neg h, if_neg h]
    exact ⟨c0, c1⟩
/-- how tall a place was: as many fields as lay there -/
theorem ta_c {w high wide a : Int32} {R C T1 : List Int32} {m k : Nat} (m32 : m ≤ 32) (hh : high.toInt ≤ 4) (hw : wide.toInt ≤ 8) (rr : ∀ k : Nat, k < m → 0 ≤ (R.getD k 0).toInt ∧ (R.getD k 0).toInt < high.toInt) (rc : ∀ k : Nat, k < m → 0 ≤ (C.getD k 0).toInt ∧ (C.getD k 0).toInt < wide.toInt) (t1 : ∀ j : Nat, j < 32 → T1.getD j 0 = kc_w (fun k => decide ((it_w (R.getD k 0) (C.getD k 0)).toInt.toNat = j)) 0 m) (hk : k < m) : (ta_w T1 high wide w a (ac_w w (R.getD k 0) (C.getD k 0))).toInt = (cn_w (fun j => decide (al_w w (R.getD j 0) (C.getD j 0) = a ∧ ac_w w (R.getD j 0) (C.getD j 0) = ac_w w (R.getD k 0) (C.getD k 0))) 0 m : Nat) := by
  have n0 : (0 : Int32).toInt = 0 := by decide
  obtain ⟨k0, k1⟩ := rr k hk
  obtain ⟨k2, k3⟩ := rc k hk
  have Z : (a.toInt < 0 ∨ (sn_w w high wide).toInt ≤ a.toInt) → ((0 : Int32).toInt : Int) = (cn_w (fun j => decide (al_w w (R.getD j 0) (C.getD j 0) = a ∧ ac_w w (R.getD j 0) (C.getD j 0) = ac_w w (R.getD k 0) (C.getD k 0))) 0 m : Nat) := fun h => by
    rw [cn_0 m 0 (fun j j0 j1 => decide_eq_false (fun g => by
      obtain ⟨u0, u1⟩ := rr j (by omega)
      obtain ⟨u2, u3⟩ := rc j (by omega)
      have q := al_r (w := w) u0 u1 u2 u3
      rw [g.1] at q
      omega))]
    rfl
  unfold ta_w
  by_cases h1 : a < 0
  · rw [if_pos h1]
    exact Z (Or.inl (by have := i_lt h1; omega))
  · have d1 := i_nlt h1
    rw [if_neg h1]
    by_cases h2 : a < (if (4 : Int32) ≤ w then high else wide)
    · have d2 := i_lt h2
      rw [if_pos h2]
      have e : (if (4 : Int32) ≤ w then mm_ig T1 ((a * (8 : Int32)) + ac_w w (R.getD k 0) (C.getD k 0)) else mm_ig T1 ((ac_w w (R.getD k 0) (C.getD k 0) * (8 : Int32)) + a)) = kc_w (fun j => decide (al_w w (R.getD j 0) (C.getD j 0) = a ∧ ac_w w (R.getD j 0) (C.getD j 0) = ac_w w (R.getD k 0) (C.getD k 0))) 0 m := by
        unfold al_w ac_w
        by_cases h : (4 : Int32) ≤ w
        · rw [if_pos h] at d2
          rw [if_pos h, if_pos h]
          have e1 := it_i (r := a) (c := C.getD k 0) (by omega) (by omega) k2 (by omega)
          show T1.getD (it_w a (C.getD k 0)).toInt.toNat 0 = _
          rw [t1 _ (by omega)]
          refine kc_c m 0 (fun j j0 j1 => ?_)
          obtain ⟨u0, u1⟩ := rr j (by omega)
          obtain ⟨u2, u3⟩ := rc j (by omega)
          have e2 := it_i u0 (by omega) u2 (by omega)
          rw [if_pos h, if_pos h]
          refine decide_eq_decide.mpr ⟨fun g => ⟨Int32.toInt_inj.mp (by omega), Int32.toInt_inj.mp (by omega)⟩, fun g => ?_⟩
          rw [g.1, g.2]
        · rw [if_neg h] at d2
          rw [if_neg h, if_neg h]
          have e1 := it_i (r := R.getD k 0) (c := a) k0 (by omega) (by omega) (by omega)
          show T1.getD (it_w (R.getD k 0) a).toInt.toNat 0 = _
          rw [t1 _ (by omega)]
          refine kc_c m 0 (fun j j0 j1 => ?_)
          obtain ⟨u0, u1⟩ := rr j (by omega)
          obtain ⟨u2, u3⟩ := rc j (by omega)
          have e2 := it_i u0 (by omega) u2 (by omega)
          rw [if_neg h, if_neg h]
          refine decide_eq_decide.mpr ⟨fun g => ⟨Int32.toInt_inj.mp (by omega), Int32.toInt_inj.mp (by omega)⟩, fun g => ?_⟩
          rw [g.1, g.2]
      rw [e]
      exact kc_n _ m 0 (by omega)
    · have d2 := i_nlt h2
      rw [if_neg h2]
      exact Z (Or.inr d2)
/-- which side comes -/
theorem cm_e {x a : Int32} {b : Bool} : cm_w x a b = true ↔ ((a.toInt < x.toInt) ↔ b = true) := by
  unfold cm_w
  rw [decide_eq_true_iff]
  by_cases h : x ≤ a
  · have d := i_le h
    rw [if_pos h]
    cases b
    · exact ⟨fun _ => ⟨fun z => absurd z (by omega), fun z => absurd z (by decide)⟩, fun _ => by decide⟩
    · exact ⟨fun z => absurd z (by decide), fun z => absurd (z.mpr rfl) (by omega)⟩
  · have d := i_nle h
    rw [if_neg h]
    cases b
    · exact ⟨fun z => absurd z (by decide), fun z => absurd (z.mp d) (by decide)⟩
    · exact ⟨fun _ => ⟨fun _ => rfl, fun _ => d⟩, fun _ => by decide⟩
set_option maxHeartbeats 4000000 in
set_option maxRecDepth 20000 in
theorem bw_t {w x high wide st : Int32} {R C B F R' C' B' F' T1 : List Int32} {m : Nat} (m32 : m ≤ 32) (hh : high.toInt ≤ 4) (hw : wide.toInt ≤ 8) (x0 : 1 ≤ x.toInt) (x1 : x.toInt < (sn_w w high wide).toInt) (rr : ∀ k : Nat, k < m → 0 ≤ (R.getD k 0).toInt ∧ (R.getD k 0).toInt < high.toInt) (rc : ∀ k : Nat, k < m → 0 ≤ (C.getD k 0).toInt ∧ (C.getD k 0).toInt < wide.toInt) (t1 : ∀ j : Nat, j < 32 → T1.getD j 0 = kc_w (fun k => decide ((it_w (R.getD k 0) (C.getD k 0)).toInt.toNat = j)) 0 m) (mv : ∀ k : Nat, k < m → mv_w T1 high wide w x st (R.getD k 0) (C.getD k 0) (B.getD k 0) (F.getD k 0) (R'.getD k 0) (C'.getD k 0) (B'.getD k 0) (F'.getD k 0)) (H : bw_w m R C B) : bw_w m R' C' B' := by
  have n1 : (1 : Int32).toInt = 1 := by decide
  have n2 : (2 : Int32).toInt = 2 := by decide
  have sn8 : (sn_w w high wide).toInt ≤ 8 := by
    unfold sn_w
    by_cases h : (4 : Int32) ≤ w
    · rw [if_pos h]
      omega
    · rw [if_neg h]
      omega
  -- the mirrored place
  have MI : ∀ a : Int32, 0 ≤ a.toInt → a.toInt ≤ 8 → ((((2 : Int32) * x) - (1 : Int32)) - a).toInt = 2 * x.toInt - 1 - a.toInt := by
    intro a a0 a1
    generalize hy : (2 : Int32) * x = y
    have ey := i_mulLE (c := 2) (by decide) hy (by omega) (by omega)
    generalize hz : y - (1 : Int32) = z
    have ez := i_subE hz (by omega) (by omega)
    have eu := i_subE (rfl : z - a = _) (by omega) (by omega)
    rw [eu]
    omega
  intro k hk
  obtain ⟨mb, -, mr, mc⟩ := mv k hk
  obtain ⟨r0, r1⟩ := rr k hk
  obtain ⟨c0, c1⟩ := rc k hk
  obtain ⟨b0, b1⟩ := H k hk
  obtain ⟨g0, g1⟩ := al_r (w := w) r0 r1 c0 c1
  -- the new pile
  have S := cn_2 (p := fun j => decide (al_w w (R.getD j 0) (C.getD j 0) = al_w w (R.getD k 0) (C.getD k 0) ∧ ac_w w (R.getD j 0) (C.getD j 0) = ac_w w (R.getD k 0) (C.getD k 0))) (q := fun j => decide (al_w w (R.getD j 0) (C.getD j 0) = (((2 : Int32) * x) - (1 : Int32)) - al_w w (R.getD k 0) (C.getD k 0) ∧ ac_w w (R.getD j 0) (C.getD j 0) = ac_w w (R.getD k 0) (C.getD k 0))) (r := fun j => decide (R'.getD j 0 = R'.getD k 0 ∧ C'.getD j 0 = C'.getD k 0)) m 0 (fun j _ j1 hj => by
      have hj := of_decide_eq_true hj
      obtain ⟨-, -, jr, jc⟩ := mv j (by omega)
      have q := al_ac.mp hj
      refine decide_eq_true ⟨?_, ?_⟩
      · rw [jr, mr, q.1, q.2]
      · rw [jc, mc, q.1, q.2]) (fun j _ j1 hj => by
      have hj := of_decide_eq_true hj
      obtain ⟨-, -, jr, jc⟩ := mv j (by omega)
      obtain ⟨u0, u1⟩ := rr j (by omega)
      obtain ⟨u2, u3⟩ := rc j (by omega)
      obtain ⟨v0, v1⟩ := al_r (w := w) u0 u1 u2 u3
      have hn : np_w x st (al_w w (R.getD j 0) (C.getD j 0)) (cm_w x (al_w w (R.getD j 0) (C.getD j 0)) (csw w)) = np_w x st (al_w w (R.getD k 0) (C.getD k 0)) (cm_w x (al_w w (R.getD k 0) (C.getD k 0)) (csw w)) := by
        have hq := (congrArg Int32.toInt hj.1).trans (MI (al_w w (R.getD k 0) (C.getD k 0)) g0 (by omega))
        have fl : cm_w x (al_w w (R.getD j 0) (C.getD j 0)) (csw w) = !cm_w x (al_w w (R.getD k 0) (C.getD k 0)) (csw w) := by
          have e1 := @cm_e x (al_w w (R.getD j 0) (C.getD j 0)) (csw w)
          have e2 := @cm_e x (al_w w (R.getD k 0) (C.getD k 0)) (csw w)
          cases h1 : cm_w x (al_w w (R.getD j 0) (C.getD j 0)) (csw w) with
          | true =>
            have g1 := e1.mp h1
            cases h2 : cm_w x (al_w w (R.getD k 0) (C.getD k 0)) (csw w) with
            | true =>
              have g2 := e2.mp h2
              exfalso
              by_cases z : csw w = true
              · have z1 := g1.mpr z
                have z2 := g2.mpr z
                omega
              · have z1 : ¬ (al_w w (R.getD j 0) (C.getD j 0)).toInt < x.toInt := fun y => z (g1.mp y)
                have z2 : ¬ (al_w w (R.getD k 0) (C.getD k 0)).toInt < x.toInt := fun y => z (g2.mp y)
                omega
            | false => rfl
          | false =>
            cases h2 : cm_w x (al_w w (R.getD k 0) (C.getD k 0)) (csw w) with
            | true => rfl
            | false =>
              exfalso
              have f1 : ¬ ((al_w w (R.getD j 0) (C.getD j 0)).toInt < x.toInt ↔ csw w = true) := fun y => by
                have := e1.mpr y
                rw [h1] at this
                exact absurd this (by decide)
              have f2 : ¬ ((al_w w (R.getD k 0) (C.getD k 0)).toInt < x.toInt ↔ csw w = true) := fun y => by
                have := e2.mpr y
                rw [h2] at this
                exact absurd this (by decide)
              by_cases z : csw w = true
              · have z1 : ¬ (al_w w (R.getD j 0) (C.getD j 0)).toInt < x.toInt := fun y => f1 ⟨fun _ => z, fun _ => y⟩
                have z2 : ¬ (al_w w (R.getD k 0) (C.getD k 0)).toInt < x.toInt := fun y => f2 ⟨fun _ => z, fun _ => y⟩
                omega
              · by_cases y1 : (al_w w (R.getD j 0) (C.getD j 0)).toInt < x.toInt
                · by_cases y2 : (al_w w (R.getD k 0) (C.getD k 0)).toInt < x.toInt
                  · omega
                  · exact f2 ⟨fun y => absurd y y2, fun y => absurd y z⟩
                · exact f1 ⟨fun y => absurd y y1, fun y => absurd y z⟩
        rw [fl]
        unfold np_w
        cases cm_w x (al_w w (R.getD k 0) (C.getD k 0)) (csw w) with
        | true =>
          rw [if_neg (by decide), if_pos rfl, hj.1]
        | false =>
          rw [if_pos (by decide), if_neg (by decide)]
          have e : (((2 : Int32) * x) - (1 : Int32)) - al_w w (R.getD j 0) (C.getD j 0) = al_w w (R.getD k 0) (C.getD k 0) := Int32.toInt_inj.mp (by
            rw [MI (al_w w (R.getD j 0) (C.getD j 0)) v0 (by omega)]
            omega)
          rw [e]
      have hx : ac_w w (R.getD j 0) (C.getD j 0) = ac_w w (R.getD k 0) (C.getD k 0) := hj.2
      refine decide_eq_true ⟨?_, ?_⟩
      · rw [jr, mr, hn]
        by_cases h : (4 : Int32) ≤ w
        · rw [if_pos h, if_pos h]
        · rw [if_neg h, if_neg h]
          unfold ac_w at hx
          rw [if_neg h, if_neg h] at hx
          exact hx
      · rw [jc, mc, hn]
        by_cases h : (4 : Int32) ≤ w
        · rw [if_pos h, if_pos h]
          unfold ac_w at hx
          rw [if_pos h, if_pos h] at hx
          exact hx
        · rw [if_neg h, if_neg h]) (fun j _ j1 h1 h2 => by
      have h1 := of_decide_eq_true h1
      have h2 := of_decide_eq_true h2
      have hq := (congrArg Int32.toInt (h1.1.symm.trans h2.1)).trans (MI (al_w w (R.getD k 0) (C.getD k 0)) g0 (by omega))
      omega)
  have own := ta_c (w := w) (a := al_w w (R.getD k 0) (C.getD k 0)) m32 hh hw rr rc t1 hk
  have met := ta_c (w := w) (a := (((2 : Int32) * x) - (1 : Int32)) - al_w w (R.getD k 0) (C.getD k 0)) m32 hh hw rr rc t1 hk
  have hb : (B.getD k 0).toInt < (cn_w (fun j => decide (al_w w (R.getD j 0) (C.getD j 0) = al_w w (R.getD k 0) (C.getD k 0) ∧ ac_w w (R.getD j 0) (C.getD j 0) = ac_w w (R.getD k 0) (C.getD k 0))) 0 m : Nat) := by
    have e : cn_w (fun j => decide (al_w w (R.getD j 0) (C.getD j 0) = al_w w (R.getD k 0) (C.getD k 0) ∧ ac_w w (R.getD j 0) (C.getD j 0) = ac_w w (R.getD k 0) (C.getD k 0))) 0 m = cp_w m R C (R.getD k 0) (C.getD k 0) := cn_c m 0 (fun j _ _ => decide_eq_decide.mpr al_ac)
    rw [e]
    exact b1
  have l1 := cn_l (fun j => decide (al_w w (R.getD j 0) (C.getD j 0) = al_w w (R.getD k 0) (C.getD k 0) ∧ ac_w w (R.getD j 0) (C.getD j 0) = ac_w w (R.getD k 0) (C.getD k 0))) m 0
  have l2 := cn_l (fun j => decide (al_w w (R.getD j 0) (C.getD j 0) = (((2 : Int32) * x) - (1 : Int32)) - al_w w (R.getD k 0) (C.getD k 0) ∧ ac_w w (R.getD j 0) (C.getD j 0) = ac_w w (R.getD k 0) (C.getD k 0))) m 0
  show 0 ≤ (B'.getD k 0).toInt ∧ (B'.getD k 0).toInt < (cn_w (fun j => decide (R'.getD j 0 = R'.getD k 0 ∧ C'.getD j 0 = C'.getD k 0)) 0 m : Nat)
  generalize cn_w (fun j => decide (R'.getD j 0 = R'.getD k 0 ∧ C'.getD j 0 = C'.getD k 0)) 0 m = N3 at S ⊢
  generalize cn_w (fun j => decide (al_w w (R.getD j 0) (C.getD j 0) = al_w w (R.getD k 0) (C.getD k 0) ∧ ac_w w (R.getD j 0) (C.getD j 0) = ac_w w (R.getD k 0) (C.getD k 0))) 0 m = N1 at S own hb l1
  generalize cn_w (fun j => decide (al_w w (R.getD j 0) (C.getD j 0) = (((2 : Int32) * x) - (1 : Int32)) - al_w w (R.getD k 0) (C.getD k 0) ∧ ac_w w (R.getD j 0) (C.getD j 0) = ac_w w (R.getD k 0) (C.getD k 0))) 0 m = N2 at S met l2
  rw [mb]
  clear mb mr mc g0 g1
  generalize ta_w T1 high wide w (al_w w (R.getD k 0) (C.getD k 0)) (ac_w w (R.getD k 0) (C.getD k 0)) = ow at own ⊢
  generalize ta_w T1 high wide w ((((2 : Int32) * x) - (1 : Int32)) - al_w w (R.getD k 0) (C.getD k 0)) (ac_w w (R.getD k 0) (C.getD k 0)) = me at met ⊢
  generalize B.getD k 0 = b at b0 b1 hb ⊢
  unfold nb_w
  cases cm_w x (al_w w (R.getD k 0) (C.getD k 0)) (csw w) with
  | true =>
    rw [if_pos rfl]
    have e1 := i_subE (rfl : ow - (1 : Int32) = _) (by omega) (by omega)
    have e2 := i_subE (rfl : (ow - (1 : Int32)) - b = _) (by omega) (by omega)
    cases ovw w with
    | true =>
      rw [if_pos rfl]
      generalize (ow - (1 : Int32)) - b = z at e2 ⊢
      have e3 := i_addE (rfl : z + me = _) (by omega) (by omega)
      rw [e3]
      omega
    | false =>
      rw [if_neg (by decide), e2]
      omega
  | false =>
    rw [if_neg (by decide)]
    cases ovw w with
    | true =>
      rw [if_pos rfl]
      omega
    | false =>
      rw [if_neg (by decide)]
      have e3 := i_addE (rfl : b + me = _) (by omega) (by omega)
      rw [e3]
      omega
end
section
/-! Piles: the calls -/
def rl_bw (v_now_rows : Int32) (v_now_cols : Int32) (v_now_rowOf : List Int32) (v_now_colOf : List Int32) (v_now_below : List Int32) (v_hasImage : Bool) (v_kept_rows : Int32) (v_kept_cols : Int32) (v_kept_rowOf : List Int32) (v_kept_colOf : List Int32) (v_kept_below : List Int32) : Prop := bw_w (v_now_rows.toInt * v_now_cols.toInt).toNat v_now_rowOf v_now_colOf v_now_below ∧ (v_hasImage = true → bw_w (v_kept_rows.toInt * v_kept_cols.toInt).toNat v_kept_rowOf v_kept_colOf v_kept_below)
theorem nw_bw : rl_bw 2 4 z5_rowOf z5_colOf (mm_zs 32) false 2 4 z5_rowOf z5_colOf (mm_zs 32) := ⟨bw_0 (fun k hk => by
  have h8 : k < 8 := hk
  have e : ∀ j : Fin 8, (mm_zs 32).getD j.val (0 : Int32) = 0 := by decide +kernel
  exact e ⟨k, h8⟩), fun h => absurd h (by decide)⟩
set_option maxHeartbeats 4000000 in
set_option maxRecDepth 20000 in
theorem rs_sheet_bw {x1 : Int32} {v_now_rows : Int32} {v_now_cols : Int32} {v_now_high : Int32} {v_now_wide : Int32} {v_now_folds : Int32} {v_now_wrong : Int32} {v_now_more : Int32} {v_now_rowOf : List Int32} {v_now_colOf : List Int32} {v_now_below : List Int32} {v_now_face : List Int32} {v_now_worn : List Int32} {v_now_last : List Int32} {v_now_bend : List Int32} {v_now_tall : List Int32} {v_hasImage : Bool} {v_kept_rows : Int32} {v_kept_cols : Int32} {v_kept_high : Int32} {v_kept_wide : Int32} {v_kept_folds : Int32} {v_kept_rowOf : List Int32} {v_kept_colOf : List Int32} {v_kept_below : List Int32} {v_kept_face : List Int32} {m_rowsOf : Int32} {m_columnsOf : Int32} {m_folded : Int32} {m_wronged : Int32} {m_shapeRows : List Int32} {m_shapeColumns : List Int32} {m_row : List Int32} {m_column : List Int32} {m_below : List Int32} {m_face : List Int32} {m_worn : List Int32} {m_lastBend : List Int32} {m_isKept : Bool} {m_imageRows : Int32} {m_imageColumns : Int32} {m_imageFolded : Int32} (g8_0 : gi_sh v_now_rows v_now_cols v_now_high v_now_wide v_now_rowOf v_now_colOf v_now_below v_now_face v_now_worn v_now_last v_now_bend v_now_tall) (g9_0 : gm_sh m_rowsOf m_columnsOf m_isKept m_imageRows m_imageColumns m_shapeRows m_shapeColumns m_row m_column m_below m_face m_worn m_lastBend) (hr_0 : rl_ge v_now_rows v_now_cols v_now_high v_now_wide v_now_folds v_now_rowOf v_now_colOf v_now_below v_now_face v_hasImage v_kept_rows v_kept_cols v_kept_high v_kept_wide v_kept_folds v_kept_rowOf v_kept_colOf v_kept_below v_kept_face m_rowsOf m_columnsOf m_folded m_isKept m_imageRows m_imageColumns m_imageFolded m_shapeRows m_shapeColumns m_row m_column m_below m_face) (hr_1 : rl_bw v_now_rows v_now_cols v_now_rowOf v_now_colOf v_now_below v_hasImage v_kept_rows v_kept_cols v_kept_rowOf v_kept_colOf v_kept_below) : ∃ (r8 : Int32) (p_now_rows : Int32) (p_now_cols : Int32) (p_now_high : Int32) (p_now_wide : Int32) (p_now_folds : Int32) (p_now_wrong : Int32) (p_now_more : Int32) (p_now_rowOf : List Int32) (p_now_colOf : List Int32) (p_now_below : List Int32) (p_now_face : List Int32) (p_now_worn : List Int32) (p_now_last : List Int32) (r9 : Int32) (q_rowsOf : Int32) (q_columnsOf : Int32) (q_folded : Int32) (q_wronged : Int32) (q_shapeRows : List Int32) (q_shapeColumns : List Int32) (q_row : List Int32) (q_column : List Int32) (q_below : List Int32) (q_face : List Int32) (q_worn : List Int32) (q_lastBend : List Int32), fX8_sheet 700 x1 v_now_rows v_now_cols v_now_high v_now_wide v_now_folds v_now_wrong v_now_more v_now_rowOf v_now_colOf v_now_below v_now_face v_now_worn v_now_last = some (r8, p_now_rows, p_now_cols, p_now_high, p_now_wide, p_now_folds, p_now_wrong, p_now_more, p_now_rowOf, p_now_colOf, p_now_below, p_now_face, p_now_worn, p_now_last) ∧ fX9_sheet 700 x1 m_rowsOf m_columnsOf m_folded m_wronged m_shapeRows m_shapeColumns m_row m_column m_below m_face m_worn m_lastBend = some (r9, q_rowsOf, q_columnsOf, q_folded, q_wronged, q_shapeRows, q_shapeColumns, q_row, q_column, q_below, q_face, q_worn, q_lastBend) ∧ gi_sh p_now_rows p_now_cols p_now_high p_now_wide p_now_rowOf p_now_colOf p_now_below p_now_face p_now_worn p_now_last v_now_bend v_now_tall ∧ gm_sh q_rowsOf q_columnsOf m_isKept m_imageRows m_imageColumns q_shapeRows q_shapeColumns q_row q_column q_below q_face q_worn q_lastBend ∧ rl_ge p_now_rows p_now_cols p_now_high p_now_wide p_now_folds p_now_rowOf p_now_colOf p_now_below p_now_face v_hasImage v_kept_rows v_kept_cols v_kept_high v_kept_wide v_kept_folds v_kept_rowOf v_kept_colOf v_kept_below v_kept_face q_rowsOf q_columnsOf q_folded m_isKept m_imageRows m_imageColumns m_imageFolded q_shapeRows q_shapeColumns q_row q_column q_below q_face ∧ rl_bw p_now_rows p_now_cols p_now_rowOf p_now_colOf p_now_below v_hasImage v_kept_rows v_kept_cols v_kept_rowOf v_kept_colOf v_kept_below := by
  obtain ⟨⟨r8, p_now_rows, p_now_cols, p_now_high, p_now_wide, p_now_folds, p_now_wrong, p_now_more, p_now_rowOf, p_now_colOf, p_now_below, p_now_face, p_now_worn, p_now_last⟩, e8, -⟩ := st8_sheet (x1 := x1) (v_now_folds := v_now_folds) (v_now_wrong := v_now_wrong) (v_now_more := v_now_more) g8_0
  obtain ⟨⟨r9, q_rowsOf, q_columnsOf, q_folded, q_wronged, q_shapeRows, q_shapeColumns, q_row, q_column, q_below, q_face, q_worn, q_lastBend⟩, e9, -⟩ := st9_sheet (x1 := x1) (v_folded := m_folded) (v_wronged := m_wronged) g9_0
  have k8 := wp_get (st8_sheet g8_0) e8
  have k9 := wp_get (st9_sheet g9_0) e9
  obtain ⟨a0, a1, a2, a3, a4, a5, a6, a7, a8, a9, a10, a11, a12, a13, a14, a15, a16, a17⟩ := id g8_0
  obtain ⟨z0, z1, z2, z3, z4, z5, z6, z7, z8, z9, z10, z11, z12, z13⟩ := id g9_0
  have n0 : (0 : Int32).toInt = 0 := by decide
  have n5 : (5 : Int32).toInt = 5 := by decide
  have y0 : (0 : Int32).toInt.toNat = 0 := by decide
  have y5 : (5 : Int32).toInt.toNat = 5 := by decide
  obtain ⟨b1, b2, b3, b4, b5, b6⟩ := hr_0
  have R : rl_ge p_now_rows p_now_cols p_now_high p_now_wide p_now_folds p_now_rowOf p_now_colOf p_now_below p_now_face v_hasImage v_kept_rows v_kept_cols v_kept_high v_kept_wide v_kept_folds v_kept_rowOf v_kept_colOf v_kept_below v_kept_face q_rowsOf q_columnsOf q_folded m_isKept m_imageRows m_imageColumns m_imageFolded q_shapeRows q_shapeColumns q_row q_column q_below q_face := by
    rcases st_8 a8 a9 a10 a11 a12 a13 e8 with ⟨o8, h8⟩ | ⟨o8, h8⟩
    · rcases st_9 z6 z7 z8 z9 z10 z11 e9 with ⟨o9, h9⟩ | ⟨o9, h9⟩
      · obtain ⟨c1, c2, c3, c4, c5, c6, c7, c8, c9, c10, c11, c12, c13, c14⟩ := h8
        obtain ⟨d1, d2, d3, d4, d5, d6, d7, d8, d9, d10, d11, d12, d13⟩ := h9
        subst c2 c3 c4 c5 c6 c9 c10 c11 c12 d2 d3 d4 d6 d7 d8 d9 d10 d11
        exact ⟨b1, b2, b3, b4, b5, b6⟩
      · exact absurd o9 o8
    · rcases st_9 z6 z7 z8 z9 z10 z11 e9 with ⟨o9, h9⟩ | ⟨o9, h9⟩
      · exact absurd o8 o9
      · obtain ⟨c1, c2, c3, c4, c5, c6, c7, c8, c9, c10⟩ := h8
        obtain ⟨d1, d2, d3, d4, d5, d6, d7, d8, d9, d10, d11⟩ := h9
        rw [c2, c3, c4, c5, c6, d2, d3, d4, d6, d7]
        refine ⟨rfl, rfl, rfl, b4, ⟨?_, ?_, fl_x c9 d9⟩, fun hk => ?_⟩
        · rw [ge_is _ _ _ _ (by omega), y0, if_pos rfl]
        · rw [ge_is _ _ _ _ (by omega), y0, if_pos rfl]
        · obtain ⟨f1, f2, f3, f4⟩ := b6 hk
          subst f1 f2
          have hk2 : ¬ (m_isKept = false) := by rw [b4, hk]; decide
          obtain ⟨u0, u1, u2, u3, -⟩ := z13 hk2
          refine ⟨rfl, rfl, f3, lg_t f4 (i_fl u0 u1 u2 u3).2.2 ?_ ?_ (fun j j0 j1 => d8 j (by omega) (by omega))⟩
          · rw [ge_is _ _ _ _ (by omega), y0, if_neg (by decide)]
          · rw [ge_is _ _ _ _ (by omega), y0, if_neg (by decide)]
  obtain ⟨s1, s2⟩ := hr_1
  have X : rl_bw p_now_rows p_now_cols p_now_rowOf p_now_colOf p_now_below v_hasImage v_kept_rows v_kept_cols v_kept_rowOf v_kept_colOf v_kept_below := by
    rcases st_8 a8 a9 a10 a11 a12 a13 e8 with ⟨o8, h8⟩ | ⟨o8, h8⟩
    · obtain ⟨-, c2, c3, -, -, -, -, -, c9, c10, c11, -, -, -⟩ := h8
      rw [c2, c3, c9, c10, c11]
      exact ⟨s1, s2⟩
    · obtain ⟨-, c2, c3, -, -, -, -, -, c9, -⟩ := h8
      refine ⟨?_, s2⟩
      rw [c2, c3]
      exact bw_f c9
  exact ⟨_, _, _, _, _, _, _, _, _, _, _, _, _, _, _, _, _, _, _, _, _, _, _, _, _, _, _, e8, e9, k8, k9, R, X⟩
set_option maxHeartbeats 4000000 in
set_option maxRecDepth 20000 in
theorem rs_fold_bw {x1 : Int32} {x2 : Int32} {v_now_rows : Int32} {v_now_cols : Int32} {v_now_high : Int32} {v_now_wide : Int32} {v_now_folds : Int32} {v_now_wrong : Int32} {v_now_more : Int32} {v_now_rowOf : List Int32} {v_now_colOf : List Int32} {v_now_below : List Int32} {v_now_face : List Int32} {v_now_worn : List Int32} {v_now_last : List Int32} {v_now_bend : List Int32} {v_now_tall : List Int32} {v_wearing_stepCount : Int32} {v_wearing_stacked : Int32} {v_wearing_steps : List Int32} {v_wearing_stack : List Int32} {v_changes_value : Int32} {v_wearing_size : Int32} {v_wearing_draftCount : Int32} {v_wearing_tape : List Int32} {v_wearing_draft : List Int32} {v_hasImage : Bool} {v_kept_rows : Int32} {v_kept_cols : Int32} {v_kept_high : Int32} {v_kept_wide : Int32} {v_kept_folds : Int32} {v_kept_rowOf : List Int32} {v_kept_colOf : List Int32} {v_kept_below : List Int32} {v_kept_face : List Int32} {m_rowsOf : Int32} {m_columnsOf : Int32} {m_folded : Int32} {m_wronged : Int32} {m_textMany : Int32} {m_base : Int32} {m_at : Int32} {m_ends : Int32} {m_fault : Int32} {m_opened : Int32} {m_bentMany : Int32} {m_bentWrong : Int32} {m_moreWorn : Int32} {m_limit : List Int32} {m_shapeRows : List Int32} {m_shapeColumns : List Int32} {m_row : List Int32} {m_column : List Int32} {m_below : List Int32} {m_face : List Int32} {m_worn : List Int32} {m_lastBend : List Int32} {m_tape : List Int32} {m_text : List Int32} {m_names : List Int32} {m_bends : List Int32} {m_high : List Int32} {m_to : List Int32} {m_pileSize : List Int32} {m_keptMany : Int32} {m_done : Int32} {m_changeWas : List Int32} {m_changeIs : List Int32} {m_isKept : Bool} {m_imageRows : Int32} {m_imageColumns : Int32} {m_tapeMany : Int32} {m_imageFolded : Int32} (g8_0 : gi_sh v_now_rows v_now_cols v_now_high v_now_wide v_now_rowOf v_now_colOf v_now_below v_now_face v_now_worn v_now_last v_now_bend v_now_tall) (g8_1 : gi_la v_wearing_size v_wearing_stepCount v_wearing_draftCount v_wearing_tape v_wearing_steps v_wearing_draft v_wearing_stack) (g9_0 : gm_ch m_keptMany m_done m_limit m_changeWas m_changeIs) (g9_1 : gm_sh m_rowsOf m_columnsOf m_isKept m_imageRows m_imageColumns m_shapeRows m_shapeColumns m_row m_column m_below m_face m_worn m_lastBend) (g9_2 : gm_tx m_tapeMany m_textMany m_tape m_text m_names m_bends m_high m_to m_pileSize) (hr_0 : rl_ge v_now_rows v_now_cols v_now_high v_now_wide v_now_folds v_now_rowOf v_now_colOf v_now_below v_now_face v_hasImage v_kept_rows v_kept_cols v_kept_high v_kept_wide v_kept_folds v_kept_rowOf v_kept_colOf v_kept_below v_kept_face m_rowsOf m_columnsOf m_folded m_isKept m_imageRows m_imageColumns m_imageFolded m_shapeRows m_shapeColumns m_row m_column m_below m_face) (hr_1 : rl_bw v_now_rows v_now_cols v_now_rowOf v_now_colOf v_now_below v_hasImage v_kept_rows v_kept_cols v_kept_rowOf v_kept_colOf v_kept_below) : ∃ (r8 : Int32) (p_now_high : Int32) (p_now_wide : Int32) (p_now_folds : Int32) (p_now_wrong : Int32) (p_now_more : Int32) (p_now_rowOf : List Int32) (p_now_colOf : List Int32) (p_now_below : List Int32) (p_now_face : List Int32) (p_now_worn : List Int32) (p_now_last : List Int32) (p_now_bend : List Int32) (p_now_tall : List Int32) (p_wearing_stacked : Int32) (p_wearing_stack : List Int32) (r9 : Int32) (q_folded : Int32) (q_wronged : Int32) (q_base : Int32) (q_at : Int32) (q_ends : Int32) (q_fault : Int32) (q_opened : Int32) (q_bentMany : Int32) (q_bentWrong : Int32) (q_moreWorn : Int32) (q_shapeRows : List Int32) (q_shapeColumns : List Int32) (q_row : List Int32) (q_column : List Int32) (q_below : List Int32) (q_face : List Int32) (q_worn : List Int32) (q_lastBend : List Int32) (q_names : List Int32) (q_bends : List Int32) (q_high : List Int32) (q_to : List Int32) (q_pileSize : List Int32), fX8_fold 700 x1 x2 v_now_rows v_now_cols v_now_high v_now_wide v_now_folds v_now_wrong v_now_more v_now_rowOf v_now_colOf v_now_below v_now_face v_now_worn v_now_last v_now_bend v_now_tall v_wearing_stepCount v_wearing_stacked v_wearing_steps v_wearing_stack v_changes_value = some (r8, p_now_high, p_now_wide, p_now_folds, p_now_wrong, p_now_more, p_now_rowOf, p_now_colOf, p_now_below, p_now_face, p_now_worn, p_now_last, p_now_bend, p_now_tall, p_wearing_stacked, p_wearing_stack) ∧ fX9_fold 700 x1 x2 m_rowsOf m_columnsOf m_folded m_wronged m_textMany m_base m_at m_ends m_fault m_opened m_bentMany m_bentWrong m_moreWorn m_limit m_shapeRows m_shapeColumns m_row m_column m_below m_face m_worn m_lastBend m_tape m_text m_names m_bends m_high m_to m_pileSize = some (r9, q_folded, q_wronged, q_base, q_at, q_ends, q_fault, q_opened, q_bentMany, q_bentWrong, q_moreWorn, q_shapeRows, q_shapeColumns, q_row, q_column, q_below, q_face, q_worn, q_lastBend, q_names, q_bends, q_high, q_to, q_pileSize) ∧ gi_sh v_now_rows v_now_cols p_now_high p_now_wide p_now_rowOf p_now_colOf p_now_below p_now_face p_now_worn p_now_last p_now_bend p_now_tall ∧ gi_la v_wearing_size v_wearing_stepCount v_wearing_draftCount v_wearing_tape v_wearing_steps v_wearing_draft p_wearing_stack ∧ gm_sh m_rowsOf m_columnsOf m_isKept m_imageRows m_imageColumns q_shapeRows q_shapeColumns q_row q_column q_below q_face q_worn q_lastBend ∧ gm_tx m_tapeMany m_textMany m_tape m_text q_names q_bends q_high q_to q_pileSize ∧ rl_ge v_now_rows v_now_cols p_now_high p_now_wide p_now_folds p_now_rowOf p_now_colOf p_now_below p_now_face v_hasImage v_kept_rows v_kept_cols v_kept_high v_kept_wide v_kept_folds v_kept_rowOf v_kept_colOf v_kept_below v_kept_face m_rowsOf m_columnsOf q_folded m_isKept m_imageRows m_imageColumns m_imageFolded q_shapeRows q_shapeColumns q_row q_column q_below q_face ∧ rl_bw v_now_rows v_now_cols p_now_rowOf p_now_colOf p_now_below v_hasImage v_kept_rows v_kept_cols v_kept_rowOf v_kept_colOf v_kept_below := by
  obtain ⟨⟨r8, p_now_high, p_now_wide, p_now_folds, p_now_wrong, p_now_more, p_now_rowOf, p_now_colOf, p_now_below, p_now_face, p_now_worn, p_now_last, p_now_bend, p_now_tall, p_wearing_stacked, p_wearing_stack⟩, e8, -⟩ := st8_fold (x1 := x1) (x2 := x2) (v_now_folds := v_now_folds) (v_now_wrong := v_now_wrong) (v_now_more := v_now_more) (v_wearing_stacked := v_wearing_stacked) (v_changes_value := v_changes_value) g8_0 g8_1
  obtain ⟨⟨r9, q_folded, q_wronged, q_base, q_at, q_ends, q_fault, q_opened, q_bentMany, q_bentWrong, q_moreWorn, q_shapeRows, q_shapeColumns, q_row, q_column, q_below, q_face, q_worn, q_lastBend, q_names, q_bends, q_high, q_to, q_pileSize⟩, e9, -⟩ := st9_fold (x1 := x1) (x2 := x2) (v_folded := m_folded) (v_wronged := m_wronged) (v_base := m_base) (v_at := m_at) (v_ends := m_ends) (v_fault := m_fault) (v_opened := m_opened) (v_bentMany := m_bentMany) (v_bentWrong := m_bentWrong) (v_moreWorn := m_moreWorn) g9_0 g9_1 g9_2
  have k8 := wp_get (st8_fold g8_0 g8_1) e8
  have k9 := wp_get (st9_fold g9_0 g9_1 g9_2) e9
  obtain ⟨a0, a1, a2, a3, a4, a5, a6, a7, a8, a9, a10, a11, a12, a13, a14, a15, a16, a17⟩ := id g8_0
  obtain ⟨z0, z1, z2, z3, z4, z5, z6, z7, z8, z9, z10, z11, z12, z13⟩ := id g9_1
  obtain ⟨t0, t1, t2, t3, t4, t5, t6, t7, t8, t9, t10⟩ := id g9_2
  have n0 : (0 : Int32).toInt = 0 := by decide
  have n5 : (5 : Int32).toInt = 5 := by decide
  have y0 : (0 : Int32).toInt.toNat = 0 := by decide
  have y5 : (5 : Int32).toInt.toNat = 5 := by decide
  obtain ⟨b1, b2, b3, b4, b5, b6⟩ := hr_0
  subst b1 b2
  have hf := i_fl z0 z1 z2 z3
  obtain ⟨l1, l2, l3⟩ := id b5
  have g1 : mm_ig m_shapeRows (0 : Int32) = v_now_high := by rw [ge_ig, y0]; exact l1
  have g2 : mm_ig m_shapeColumns (0 : Int32) = v_now_wide := by rw [ge_ig, y0]; exact l2
  have R : rl_ge m_rowsOf m_columnsOf p_now_high p_now_wide p_now_folds p_now_rowOf p_now_colOf p_now_below p_now_face v_hasImage v_kept_rows v_kept_cols v_kept_high v_kept_wide v_kept_folds v_kept_rowOf v_kept_colOf v_kept_below v_kept_face m_rowsOf m_columnsOf q_folded m_isKept m_imageRows m_imageColumns m_imageFolded q_shapeRows q_shapeColumns q_row q_column q_below q_face := by
    rcases fo_8 e8 with ⟨o8, h8⟩ | ⟨o8, h8⟩
    · rcases fo_9 z4 z5 g1 g2 ⟨a4, a5⟩ ⟨a6, a7⟩ e9 with ⟨o9, h9⟩ | ⟨o9, h9⟩
      · obtain ⟨c1, c2, c3, c4, c5, c6, c7⟩ := h8
        obtain ⟨d1, d2, d3, d4, d5, d6, d7⟩ := h9
        subst c1 c2 c3 c4 c5 c6 c7 d1 d2 d3 d4 d5 d6 d7
        exact ⟨rfl, rfl, b3, b4, b5, b6⟩
      · exact absurd o9 o8
    · rcases fo_9 z4 z5 g1 g2 ⟨a4, a5⟩ ⟨a6, a7⟩ e9 with ⟨o9, h9⟩ | ⟨o9, h9⟩
      · exact absurd o8 o9
      · obtain ⟨c1, c2⟩ := h8
        obtain ⟨d1, d2⟩ := h9
        have q := tr_e (m := (m_rowsOf.toInt * m_columnsOf.toInt).toNat) (lv := (0 : Int32)) (by omega) (by omega) (by omega) (by omega) o8.1.1 o8.1.2 a8 a9 a10 a11 a15 z6 z7 z8 z9 t8 t9 t10 z4 z5 ⟨a4, a5⟩ ⟨a6, a7⟩ (fun k hk => zn_n a16 (by omega) (by omega) (by omega)) (fun k hk => zn_n a17 (by omega) (by omega) (by omega)) g1 g2 (by rw [y0]; exact l3) c2 d2
        rw [ge_ig, ge_ig, y0, Nat.mul_zero] at q
        obtain ⟨q1, q2, q3, q4, q5, -⟩ := q
        refine ⟨rfl, rfl, by rw [c1, d1, b3], b4, ⟨q1, q2, q3⟩, fun hk => ?_⟩
        obtain ⟨f1, f2, f3, f4⟩ := b6 hk
        subst f1 f2
        have hk2 : ¬ (m_isKept = false) := by rw [b4, hk]; decide
        obtain ⟨u0, u1, u2, u3, -⟩ := z13 hk2
        exact ⟨rfl, rfl, f3, lg_t f4 (i_fl u0 u1 u2 u3).2.2 (q5 5 (by omega) (by omega)).1 (q5 5 (by omega) (by omega)).2 (fun j j0 j1 => q4 j (by omega) (by omega))⟩
  obtain ⟨s1, s2⟩ := hr_1
  have X : rl_bw m_rowsOf m_columnsOf p_now_rowOf p_now_colOf p_now_below v_hasImage v_kept_rows v_kept_cols v_kept_rowOf v_kept_colOf v_kept_below := by
    rcases fo_8 e8 with ⟨o8, h8⟩ | ⟨o8, h8⟩
    · obtain ⟨-, -, -, c4, c5, c6, -⟩ := h8
      rw [c4, c5, c6]
      exact ⟨s1, s2⟩
    · obtain ⟨c1, c2⟩ := h8
      obtain ⟨T1, -, t1, -, mv⟩ := tn_e (m := (m_rowsOf.toInt * m_columnsOf.toInt).toNat) (by omega) (by omega) a8 a9 a10 a11 a15 c2
      exact ⟨bw_t (by omega) a5 a7 o8.2.1 o8.2.2 (fun k hk => zn_n a16 (by omega) (by omega) (by omega)) (fun k hk => zn_n a17 (by omega) (by omega) (by omega)) t1 mv s1, s2⟩
  exact ⟨_, _, _, _, _, _, _, _, _, _, _, _, _, _, _, _, _, _, _, _, _, _, _, _, _, _, _, _, _, _, _, _, _, _, _, _, _, _, _, _, e8, e9, k8.1, k8.2, k9.1, k9.2, R, X⟩
set_option maxHeartbeats 4000000 in
set_option maxRecDepth 20000 in
theorem rs_flat_bw {v_now_rows : Int32} {v_now_cols : Int32} {v_now_high : Int32} {v_now_wide : Int32} {v_now_rowOf : List Int32} {v_now_colOf : List Int32} {v_now_below : List Int32} {v_now_face : List Int32} {v_now_worn : List Int32} {v_now_last : List Int32} {v_now_bend : List Int32} {v_now_tall : List Int32} {v_now_folds : Int32} {v_hasImage : Bool} {v_kept_rows : Int32} {v_kept_cols : Int32} {v_kept_high : Int32} {v_kept_wide : Int32} {v_kept_folds : Int32} {v_kept_rowOf : List Int32} {v_kept_colOf : List Int32} {v_kept_below : List Int32} {v_kept_face : List Int32} {m_rowsOf : Int32} {m_columnsOf : Int32} {m_shapeRows : List Int32} {m_shapeColumns : List Int32} {m_row : List Int32} {m_column : List Int32} {m_below : List Int32} {m_face : List Int32} {m_isKept : Bool} {m_imageRows : Int32} {m_imageColumns : Int32} {m_worn : List Int32} {m_lastBend : List Int32} {m_folded : Int32} {m_imageFolded : Int32} (g8_0 : gi_sh v_now_rows v_now_cols v_now_high v_now_wide v_now_rowOf v_now_colOf v_now_below v_now_face v_now_worn v_now_last v_now_bend v_now_tall) (g9_0 : gm_sh m_rowsOf m_columnsOf m_isKept m_imageRows m_imageColumns m_shapeRows m_shapeColumns m_row m_column m_below m_face m_worn m_lastBend) (hr_0 : rl_ge v_now_rows v_now_cols v_now_high v_now_wide v_now_folds v_now_rowOf v_now_colOf v_now_below v_now_face v_hasImage v_kept_rows v_kept_cols v_kept_high v_kept_wide v_kept_folds v_kept_rowOf v_kept_colOf v_kept_below v_kept_face m_rowsOf m_columnsOf m_folded m_isKept m_imageRows m_imageColumns m_imageFolded m_shapeRows m_shapeColumns m_row m_column m_below m_face) (hr_1 : rl_bw v_now_rows v_now_cols v_now_rowOf v_now_colOf v_now_below v_hasImage v_kept_rows v_kept_cols v_kept_rowOf v_kept_colOf v_kept_below) : ∃ (r : Int32) (p_now_high : Int32) (p_now_wide : Int32) (p_now_rowOf : List Int32) (p_now_colOf : List Int32) (p_now_below : List Int32) (p_now_face : List Int32) (q_shapeRows : List Int32) (q_shapeColumns : List Int32) (q_row : List Int32) (q_column : List Int32) (q_below : List Int32) (q_face : List Int32), fX8_flat 700 v_now_rows v_now_cols v_now_high v_now_wide v_now_rowOf v_now_colOf v_now_below v_now_face = some (r, p_now_high, p_now_wide, p_now_rowOf, p_now_colOf, p_now_below, p_now_face) ∧ fX9_flat 700 m_rowsOf m_columnsOf m_shapeRows m_shapeColumns m_row m_column m_below m_face = some (r, q_shapeRows, q_shapeColumns, q_row, q_column, q_below, q_face) ∧ gi_sh v_now_rows v_now_cols p_now_high p_now_wide p_now_rowOf p_now_colOf p_now_below p_now_face v_now_worn v_now_last v_now_bend v_now_tall ∧ gm_sh m_rowsOf m_columnsOf m_isKept m_imageRows m_imageColumns q_shapeRows q_shapeColumns q_row q_column q_below q_face m_worn m_lastBend ∧ rl_ge v_now_rows v_now_cols p_now_high p_now_wide v_now_folds p_now_rowOf p_now_colOf p_now_below p_now_face v_hasImage v_kept_rows v_kept_cols v_kept_high v_kept_wide v_kept_folds v_kept_rowOf v_kept_colOf v_kept_below v_kept_face m_rowsOf m_columnsOf m_folded m_isKept m_imageRows m_imageColumns m_imageFolded q_shapeRows q_shapeColumns q_row q_column q_below q_face ∧ rl_bw v_now_rows v_now_cols p_now_rowOf p_now_colOf p_now_below v_hasImage v_kept_rows v_kept_cols v_kept_rowOf v_kept_colOf v_kept_below := by
  obtain ⟨⟨r8, p_now_high, p_now_wide, p_now_rowOf, p_now_colOf, p_now_below, p_now_face⟩, e8, -⟩ := st8_flat   g8_0
  obtain ⟨⟨r9, q_shapeRows, q_shapeColumns, q_row, q_column, q_below, q_face⟩, e9, -⟩ := st9_flat   g9_0
  have k8 := wp_get (st8_flat g8_0) e8
  have k9 := wp_get (st9_flat g9_0) e9
  obtain ⟨a0, a1, a2, a3, a4, a5, a6, a7, a8, a9, a10, a11, a12, a13, a14, a15, a16, a17⟩ := id g8_0
  obtain ⟨z0, z1, z2, z3, z4, z5, z6, z7, z8, z9, z10, z11, z12, z13⟩ := id g9_0
  have n0 : (0 : Int32).toInt = 0 := by decide
  have n5 : (5 : Int32).toInt = 5 := by decide
  have y0 : (0 : Int32).toInt.toNat = 0 := by decide
  have y5 : (5 : Int32).toInt.toNat = 5 := by decide
  obtain ⟨b1, b2, b3, b4, b5, b6⟩ := hr_0
  subst b1 b2
  have hf := i_fl z0 z1 z2 z3
  obtain ⟨l1, l2, l3⟩ := id b5
  have RR : r9 = r8 ∧ rl_ge m_rowsOf m_columnsOf p_now_high p_now_wide v_now_folds p_now_rowOf p_now_colOf p_now_below p_now_face v_hasImage v_kept_rows v_kept_cols v_kept_high v_kept_wide v_kept_folds v_kept_rowOf v_kept_colOf v_kept_below v_kept_face m_rowsOf m_columnsOf m_folded m_isKept m_imageRows m_imageColumns m_imageFolded q_shapeRows q_shapeColumns q_row q_column q_below q_face := by
    have f8 := e8
    have f9 := e9
    unfold fX8_flat at f8
    unfold fX9_flat at f9
    obtain ⟨u, eu, f8⟩ := mm_bd1s f8
    obtain ⟨w3, w4, w5, w6, w7, w8, el, f8⟩ := mm_bd6s f8
    have f9 := ck_x (ck_x f9)
    rw [nm_eq] at f9
    obtain ⟨x3, x4, x5, x6, x7, x8, er, f9⟩ := mm_bd6s f9
    have hu : v_now_high * v_now_wide = u := sm_i eu
    obtain ⟨c1, c2, c3⟩ := lo_e (m := (m_rowsOf.toInt * m_columnsOf.toInt).toNat) (by omega) (by omega) a0 a1 a2 a3 a8 a9 a10 a11 el
    obtain ⟨d1, d2, -, d4, d5⟩ := li_e (m := (m_rowsOf.toInt * m_columnsOf.toInt).toNat) (by omega) (by omega) z2 z3 (by omega) (by omega) z6 z7 z8 z9 er
    rw [y0, Nat.mul_zero] at d4 d5
    apply mm_sub7 f8
    apply mm_sub7 f9
    rw [c1, c2, d1, d2]
    refine ⟨?_, rfl, rfl, b3, b4, ⟨?_, ?_, fl_x c3 d5⟩, fun hk => ?_⟩
    · rw [← hu, ge_ig, ge_ig, y0, l1, l2]
    · rw [ge_is _ _ _ _ (by omega), y0, if_pos rfl]
    · rw [ge_is _ _ _ _ (by omega), y0, if_pos rfl]
    · obtain ⟨f1, f2, f3, f4⟩ := b6 hk
      subst f1 f2
      have hk2 : ¬ (m_isKept = false) := by rw [b4, hk]; decide
      obtain ⟨u0, u1, u2, u3, -⟩ := z13 hk2
      refine ⟨rfl, rfl, f3, lg_t f4 (i_fl u0 u1 u2 u3).2.2 ?_ ?_ (fun j j0 j1 => d4 j (by omega) (by omega))⟩
      · rw [ge_is _ _ _ _ (by omega), y0, if_neg (by decide)]
      · rw [ge_is _ _ _ _ (by omega), y0, if_neg (by decide)]
  obtain ⟨s1, s2⟩ := hr_1
  have X : rl_bw m_rowsOf m_columnsOf p_now_rowOf p_now_colOf p_now_below v_hasImage v_kept_rows v_kept_cols v_kept_rowOf v_kept_colOf v_kept_below := by
    have f8 := e8
    unfold fX8_flat at f8
    obtain ⟨u, eu, f8⟩ := mm_bd1s f8
    obtain ⟨w3, w4, w5, w6, w7, w8, el, f8⟩ := mm_bd6s f8
    obtain ⟨c1, c2, c3⟩ := lo_e (m := (m_rowsOf.toInt * m_columnsOf.toInt).toNat) (by omega) (by omega) a0 a1 a2 a3 a8 a9 a10 a11 el
    apply mm_sub7 f8
    exact ⟨bw_f c3, s2⟩
  obtain ⟨er, R⟩ := RR
  subst er
  exact ⟨_, _, _, _, _, _, _, _, _, _, _, _, _, e8, e9, k8, k9, R, X⟩
set_option maxHeartbeats 4000000 in
set_option maxRecDepth 20000 in
theorem rs_image_bw {v_hasImage : Bool} {v_now_rows : Int32} {v_now_cols : Int32} {v_now_high : Int32} {v_now_wide : Int32} {v_now_folds : Int32} {v_now_wrong : Int32} {v_now_more : Int32} {v_now_rowOf : List Int32} {v_now_colOf : List Int32} {v_now_below : List Int32} {v_now_face : List Int32} {v_now_worn : List Int32} {v_now_last : List Int32} {v_kept_rows : Int32} {v_kept_cols : Int32} {v_kept_high : Int32} {v_kept_wide : Int32} {v_kept_folds : Int32} {v_kept_wrong : Int32} {v_kept_more : Int32} {v_kept_rowOf : List Int32} {v_kept_colOf : List Int32} {v_kept_below : List Int32} {v_kept_face : List Int32} {v_kept_worn : List Int32} {v_kept_last : List Int32} {v_now_bend : List Int32} {v_now_tall : List Int32} {v_kept_bend : List Int32} {v_kept_tall : List Int32} {m_rowsOf : Int32} {m_columnsOf : Int32} {m_folded : Int32} {m_wronged : Int32} {m_isKept : Bool} {m_imageRows : Int32} {m_imageColumns : Int32} {m_imageFolded : Int32} {m_imageWronged : Int32} {m_shapeRows : List Int32} {m_shapeColumns : List Int32} {m_row : List Int32} {m_column : List Int32} {m_below : List Int32} {m_face : List Int32} {m_worn : List Int32} {m_lastBend : List Int32} (g8_0 : gi_sh v_now_rows v_now_cols v_now_high v_now_wide v_now_rowOf v_now_colOf v_now_below v_now_face v_now_worn v_now_last v_now_bend v_now_tall) (g8_1 : gi_sh v_kept_rows v_kept_cols v_kept_high v_kept_wide v_kept_rowOf v_kept_colOf v_kept_below v_kept_face v_kept_worn v_kept_last v_kept_bend v_kept_tall) (g9_0 : gm_sh m_rowsOf m_columnsOf m_isKept m_imageRows m_imageColumns m_shapeRows m_shapeColumns m_row m_column m_below m_face m_worn m_lastBend) (hr_0 : rl_ge v_now_rows v_now_cols v_now_high v_now_wide v_now_folds v_now_rowOf v_now_colOf v_now_below v_now_face v_hasImage v_kept_rows v_kept_cols v_kept_high v_kept_wide v_kept_folds v_kept_rowOf v_kept_colOf v_kept_below v_kept_face m_rowsOf m_columnsOf m_folded m_isKept m_imageRows m_imageColumns m_imageFolded m_shapeRows m_shapeColumns m_row m_column m_below m_face) (hr_1 : rl_bw v_now_rows v_now_cols v_now_rowOf v_now_colOf v_now_below v_hasImage v_kept_rows v_kept_cols v_kept_rowOf v_kept_colOf v_kept_below) : ∃ (r : Int32) (p_hasImage : Bool) (p_kept_rows : Int32) (p_kept_cols : Int32) (p_kept_high : Int32) (p_kept_wide : Int32) (p_kept_folds : Int32) (p_kept_wrong : Int32) (p_kept_more : Int32) (p_kept_rowOf : List Int32) (p_kept_colOf : List Int32) (p_kept_below : List Int32) (p_kept_face : List Int32) (p_kept_worn : List Int32) (p_kept_last : List Int32) (q_isKept : Bool) (q_imageRows : Int32) (q_imageColumns : Int32) (q_imageFolded : Int32) (q_imageWronged : Int32) (q_shapeRows : List Int32) (q_shapeColumns : List Int32) (q_row : List Int32) (q_column : List Int32) (q_below : List Int32) (q_face : List Int32) (q_worn : List Int32) (q_lastBend : List Int32), fX8_image 700 v_hasImage v_now_rows v_now_cols v_now_high v_now_wide v_now_folds v_now_wrong v_now_more v_now_rowOf v_now_colOf v_now_below v_now_face v_now_worn v_now_last v_kept_rows v_kept_cols v_kept_high v_kept_wide v_kept_folds v_kept_wrong v_kept_more v_kept_rowOf v_kept_colOf v_kept_below v_kept_face v_kept_worn v_kept_last = some (r, p_hasImage, p_kept_rows, p_kept_cols, p_kept_high, p_kept_wide, p_kept_folds, p_kept_wrong, p_kept_more, p_kept_rowOf, p_kept_colOf, p_kept_below, p_kept_face, p_kept_worn, p_kept_last) ∧ fX9_image 700 m_rowsOf m_columnsOf m_folded m_wronged m_isKept m_imageRows m_imageColumns m_imageFolded m_imageWronged m_shapeRows m_shapeColumns m_row m_column m_below m_face m_worn m_lastBend = some (r, q_isKept, q_imageRows, q_imageColumns, q_imageFolded, q_imageWronged, q_shapeRows, q_shapeColumns, q_row, q_column, q_below, q_face, q_worn, q_lastBend) ∧ gi_sh p_kept_rows p_kept_cols p_kept_high p_kept_wide p_kept_rowOf p_kept_colOf p_kept_below p_kept_face p_kept_worn p_kept_last v_kept_bend v_kept_tall ∧ gm_sh m_rowsOf m_columnsOf q_isKept q_imageRows q_imageColumns q_shapeRows q_shapeColumns q_row q_column q_below q_face q_worn q_lastBend ∧ rl_ge v_now_rows v_now_cols v_now_high v_now_wide v_now_folds v_now_rowOf v_now_colOf v_now_below v_now_face p_hasImage p_kept_rows p_kept_cols p_kept_high p_kept_wide p_kept_folds p_kept_rowOf p_kept_colOf p_kept_below p_kept_face m_rowsOf m_columnsOf m_folded q_isKept q_imageRows q_imageColumns q_imageFolded q_shapeRows q_shapeColumns q_row q_column q_below q_face ∧ rl_bw v_now_rows v_now_cols v_now_rowOf v_now_colOf v_now_below p_hasImage p_kept_rows p_kept_cols p_kept_rowOf p_kept_colOf p_kept_below := by
  obtain ⟨⟨r8, p_hasImage, p_kept_rows, p_kept_cols, p_kept_high, p_kept_wide, p_kept_folds, p_kept_wrong, p_kept_more, p_kept_rowOf, p_kept_colOf, p_kept_below, p_kept_face, p_kept_worn, p_kept_last⟩, e8, -⟩ := st8_image  (v_hasImage := v_hasImage) (v_now_folds := v_now_folds) (v_now_wrong := v_now_wrong) (v_now_more := v_now_more) (v_kept_folds := v_kept_folds) (v_kept_wrong := v_kept_wrong) (v_kept_more := v_kept_more) g8_0 g8_1
  obtain ⟨⟨r9, q_isKept, q_imageRows, q_imageColumns, q_imageFolded, q_imageWronged, q_shapeRows, q_shapeColumns, q_row, q_column, q_below, q_face, q_worn, q_lastBend⟩, e9, -⟩ := st9_image  (v_folded := m_folded) (v_wronged := m_wronged) (v_imageFolded := m_imageFolded) (v_imageWronged := m_imageWronged) g9_0
  have k8 := wp_get (st8_image g8_0 g8_1) e8
  have k9 := wp_get (st9_image g9_0) e9
  obtain ⟨a0, a1, a2, a3, a4, a5, a6, a7, a8, a9, a10, a11, a12, a13, a14, a15, a16, a17⟩ := id g8_0
  obtain ⟨c0, c1, c2, c3, c4, c5, c6, c7, c8, c9, c10, c11, c12, c13, c14, c15, c16, c17⟩ := id g8_1
  obtain ⟨z0, z1, z2, z3, z4, z5, z6, z7, z8, z9, z10, z11, z12, z13⟩ := id g9_0
  have n0 : (0 : Int32).toInt = 0 := by decide
  have n5 : (5 : Int32).toInt = 5 := by decide
  have y0 : (0 : Int32).toInt.toNat = 0 := by decide
  have y5 : (5 : Int32).toInt.toNat = 5 := by decide
  obtain ⟨b1, b2, b3, b4, b5, b6⟩ := hr_0
  subst b1 b2
  have hf := i_fl z0 z1 z2 z3
  obtain ⟨l1, l2, l3⟩ := id b5
  have RR : r9 = r8 ∧ rl_ge m_rowsOf m_columnsOf v_now_high v_now_wide v_now_folds v_now_rowOf v_now_colOf v_now_below v_now_face p_hasImage p_kept_rows p_kept_cols p_kept_high p_kept_wide p_kept_folds p_kept_rowOf p_kept_colOf p_kept_below p_kept_face m_rowsOf m_columnsOf m_folded q_isKept q_imageRows q_imageColumns q_imageFolded q_shapeRows q_shapeColumns q_row q_column q_below q_face := by
    have f8 := e8
    have f9 := e9
    unfold fX8_image at f8
    unfold fX9_image at f9
    rw [cp_e c8 c9 c10 c11 c12 c13 a8 a9 a10 a11 a12 a13] at f8
    obtain ⟨x1, x2, x3, x4, x5, x6, x7, x8, er, f9⟩ := mm_bd8s f9
    obtain ⟨⟨d1, d2⟩, d3, -, d5, -⟩ := co_e (by omega) (by omega) (by omega) (by omega) (by omega) z6 z7 z8 z9 z10 z11 er
    rw [y0, y5] at d5
    rw [y5] at d3
    have f8' : some (v_now_folds, true, m_rowsOf, m_columnsOf, v_now_high, v_now_wide, v_now_folds, v_now_wrong, v_now_more, v_now_rowOf, v_now_colOf, v_now_below, v_now_face, v_now_worn, v_now_last) = some (r8, p_hasImage, p_kept_rows, p_kept_cols, p_kept_high, p_kept_wide, p_kept_folds, p_kept_wrong, p_kept_more, p_kept_rowOf, p_kept_colOf, p_kept_below, p_kept_face, p_kept_worn, p_kept_last) := f8
    apply mm_sub15 f8'
    apply mm_sub14 f9
    rw [d1, d2]
    refine ⟨b3, rfl, rfl, b3, rfl, lg_t b5 hf.2.2 ?_ ?_ (fun j j0 j1 => d3 j (by omega) (by omega)), fun _ => ⟨rfl, rfl, b3, ?_, ?_, fun k hk => ?_⟩⟩
    · rw [ge_is _ _ _ _ (by omega), y5, if_neg (by decide)]
    · rw [ge_is _ _ _ _ (by omega), y5, if_neg (by decide)]
    · rw [ge_is _ _ _ _ (by omega), y5, if_pos rfl, ge_ig, y0]
      exact l1
    · rw [ge_is _ _ _ _ (by omega), y5, if_pos rfl, ge_ig, y0]
      exact l2
    · obtain ⟨u1, u2, u3, u4⟩ := d5 k (by omega)
      obtain ⟨v1, v2, v3, v4⟩ := l3 k hk
      exact ⟨by rw [u1]; exact v1, by rw [u2]; exact v2, by rw [u3]; exact v3, by rw [u4]; exact v4⟩
  obtain ⟨s1, s2⟩ := hr_1
  have X : rl_bw m_rowsOf m_columnsOf v_now_rowOf v_now_colOf v_now_below p_hasImage p_kept_rows p_kept_cols p_kept_rowOf p_kept_colOf p_kept_below := by
    have f8 := e8
    unfold fX8_image at f8
    rw [cp_e c8 c9 c10 c11 c12 c13 a8 a9 a10 a11 a12 a13] at f8
    have f8' : some (v_now_folds, true, m_rowsOf, m_columnsOf, v_now_high, v_now_wide, v_now_folds, v_now_wrong, v_now_more, v_now_rowOf, v_now_colOf, v_now_below, v_now_face, v_now_worn, v_now_last) = some (r8, p_hasImage, p_kept_rows, p_kept_cols, p_kept_high, p_kept_wide, p_kept_folds, p_kept_wrong, p_kept_more, p_kept_rowOf, p_kept_colOf, p_kept_below, p_kept_face, p_kept_worn, p_kept_last) := f8
    apply mm_sub15 f8'
    exact ⟨s1, fun _ => s1⟩
  obtain ⟨er, R⟩ := RR
  subst er
  exact ⟨_, _, _, _, _, _, _, _, _, _, _, _, _, _, _, _, _, _, _, _, _, _, _, _, _, _, _, _, e8, e9, k8, k9, R, X⟩
set_option maxHeartbeats 4000000 in
set_option maxRecDepth 20000 in
theorem rs_back_bw {v_hasImage : Bool} {v_now_rows : Int32} {v_now_cols : Int32} {v_now_high : Int32} {v_now_wide : Int32} {v_now_folds : Int32} {v_now_wrong : Int32} {v_now_more : Int32} {v_now_rowOf : List Int32} {v_now_colOf : List Int32} {v_now_below : List Int32} {v_now_face : List Int32} {v_now_worn : List Int32} {v_now_last : List Int32} {v_kept_rows : Int32} {v_kept_cols : Int32} {v_kept_high : Int32} {v_kept_wide : Int32} {v_kept_folds : Int32} {v_kept_wrong : Int32} {v_kept_more : Int32} {v_kept_rowOf : List Int32} {v_kept_colOf : List Int32} {v_kept_below : List Int32} {v_kept_face : List Int32} {v_kept_worn : List Int32} {v_kept_last : List Int32} {v_now_bend : List Int32} {v_now_tall : List Int32} {v_kept_bend : List Int32} {v_kept_tall : List Int32} {m_rowsOf : Int32} {m_columnsOf : Int32} {m_folded : Int32} {m_wronged : Int32} {m_isKept : Bool} {m_imageRows : Int32} {m_imageColumns : Int32} {m_imageFolded : Int32} {m_imageWronged : Int32} {m_shapeRows : List Int32} {m_shapeColumns : List Int32} {m_row : List Int32} {m_column : List Int32} {m_below : List Int32} {m_face : List Int32} {m_worn : List Int32} {m_lastBend : List Int32} (g8_0 : gi_sh v_now_rows v_now_cols v_now_high v_now_wide v_now_rowOf v_now_colOf v_now_below v_now_face v_now_worn v_now_last v_now_bend v_now_tall) (g8_1 : gi_sh v_kept_rows v_kept_cols v_kept_high v_kept_wide v_kept_rowOf v_kept_colOf v_kept_below v_kept_face v_kept_worn v_kept_last v_kept_bend v_kept_tall) (g9_0 : gm_sh m_rowsOf m_columnsOf m_isKept m_imageRows m_imageColumns m_shapeRows m_shapeColumns m_row m_column m_below m_face m_worn m_lastBend) (hr_0 : rl_ge v_now_rows v_now_cols v_now_high v_now_wide v_now_folds v_now_rowOf v_now_colOf v_now_below v_now_face v_hasImage v_kept_rows v_kept_cols v_kept_high v_kept_wide v_kept_folds v_kept_rowOf v_kept_colOf v_kept_below v_kept_face m_rowsOf m_columnsOf m_folded m_isKept m_imageRows m_imageColumns m_imageFolded m_shapeRows m_shapeColumns m_row m_column m_below m_face) (hr_1 : rl_bw v_now_rows v_now_cols v_now_rowOf v_now_colOf v_now_below v_hasImage v_kept_rows v_kept_cols v_kept_rowOf v_kept_colOf v_kept_below) : ∃ (r : Int32) (p_now_rows : Int32) (p_now_cols : Int32) (p_now_high : Int32) (p_now_wide : Int32) (p_now_folds : Int32) (p_now_wrong : Int32) (p_now_more : Int32) (p_now_rowOf : List Int32) (p_now_colOf : List Int32) (p_now_below : List Int32) (p_now_face : List Int32) (p_now_worn : List Int32) (p_now_last : List Int32) (q_rowsOf : Int32) (q_columnsOf : Int32) (q_folded : Int32) (q_wronged : Int32) (q_shapeRows : List Int32) (q_shapeColumns : List Int32) (q_row : List Int32) (q_column : List Int32) (q_below : List Int32) (q_face : List Int32) (q_worn : List Int32) (q_lastBend : List Int32), fX8_back 700 v_hasImage v_now_rows v_now_cols v_now_high v_now_wide v_now_folds v_now_wrong v_now_more v_now_rowOf v_now_colOf v_now_below v_now_face v_now_worn v_now_last v_kept_rows v_kept_cols v_kept_high v_kept_wide v_kept_folds v_kept_wrong v_kept_more v_kept_rowOf v_kept_colOf v_kept_below v_kept_face v_kept_worn v_kept_last = some (r, p_now_rows, p_now_cols, p_now_high, p_now_wide, p_now_folds, p_now_wrong, p_now_more, p_now_rowOf, p_now_colOf, p_now_below, p_now_face, p_now_worn, p_now_last) ∧ fX9_back 700 m_rowsOf m_columnsOf m_folded m_wronged m_isKept m_imageRows m_imageColumns m_imageFolded m_imageWronged m_shapeRows m_shapeColumns m_row m_column m_below m_face m_worn m_lastBend = some (r, q_rowsOf, q_columnsOf, q_folded, q_wronged, q_shapeRows, q_shapeColumns, q_row, q_column, q_below, q_face, q_worn, q_lastBend) ∧ gi_sh p_now_rows p_now_cols p_now_high p_now_wide p_now_rowOf p_now_colOf p_now_below p_now_face p_now_worn p_now_last v_now_bend v_now_tall ∧ gm_sh q_rowsOf q_columnsOf m_isKept m_imageRows m_imageColumns q_shapeRows q_shapeColumns q_row q_column q_below q_face q_worn q_lastBend ∧ rl_ge p_now_rows p_now_cols p_now_high p_now_wide p_now_folds p_now_rowOf p_now_colOf p_now_below p_now_face v_hasImage v_kept_rows v_kept_cols v_kept_high v_kept_wide v_kept_folds v_kept_rowOf v_kept_colOf v_kept_below v_kept_face q_rowsOf q_columnsOf q_folded m_isKept m_imageRows m_imageColumns m_imageFolded q_shapeRows q_shapeColumns q_row q_column q_below q_face ∧ rl_bw p_now_rows p_now_cols p_now_rowOf p_now_colOf p_now_below v_hasImage v_kept_rows v_kept_cols v_kept_rowOf v_kept_colOf v_kept_below := by
  obtain ⟨⟨r8, p_now_rows, p_now_cols, p_now_high, p_now_wide, p_now_folds, p_now_wrong, p_now_more, p_now_rowOf, p_now_colOf, p_now_below, p_now_face, p_now_worn, p_now_last⟩, e8, -⟩ := st8_back  (v_hasImage := v_hasImage) (v_now_folds := v_now_folds) (v_now_wrong := v_now_wrong) (v_now_more := v_now_more) (v_kept_folds := v_kept_folds) (v_kept_wrong := v_kept_wrong) (v_kept_more := v_kept_more) g8_0 g8_1
  obtain ⟨⟨r9, q_rowsOf, q_columnsOf, q_folded, q_wronged, q_shapeRows, q_shapeColumns, q_row, q_column, q_below, q_face, q_worn, q_lastBend⟩, e9, -⟩ := st9_back  (v_folded := m_folded) (v_wronged := m_wronged) (v_imageFolded := m_imageFolded) (v_imageWronged := m_imageWronged) g9_0
  have k8 := wp_get (st8_back g8_0 g8_1) e8
  have k9 := wp_get (st9_back g9_0) e9
  obtain ⟨a0, a1, a2, a3, a4, a5, a6, a7, a8, a9, a10, a11, a12, a13, a14, a15, a16, a17⟩ := id g8_0
  obtain ⟨c0, c1, c2, c3, c4, c5, c6, c7, c8, c9, c10, c11, c12, c13, c14, c15, c16, c17⟩ := id g8_1
  obtain ⟨z0, z1, z2, z3, z4, z5, z6, z7, z8, z9, z10, z11, z12, z13⟩ := id g9_0
  have n0 : (0 : Int32).toInt = 0 := by decide
  have n5 : (5 : Int32).toInt = 5 := by decide
  have y0 : (0 : Int32).toInt.toNat = 0 := by decide
  have y5 : (5 : Int32).toInt.toNat = 5 := by decide
  obtain ⟨b1, b2, b3, b4, b5, b6⟩ := hr_0
  have RR : r9 = r8 ∧ rl_ge p_now_rows p_now_cols p_now_high p_now_wide p_now_folds p_now_rowOf p_now_colOf p_now_below p_now_face v_hasImage v_kept_rows v_kept_cols v_kept_high v_kept_wide v_kept_folds v_kept_rowOf v_kept_colOf v_kept_below v_kept_face q_rowsOf q_columnsOf q_folded m_isKept m_imageRows m_imageColumns m_imageFolded q_shapeRows q_shapeColumns q_row q_column q_below q_face := by
    have f8 := e8
    have f9 := e9
    unfold fX8_back at f8
    unfold fX9_back at f9
    by_cases h : v_hasImage = false
    · rw [if_pos h] at f8
      rw [if_pos (by rw [b4]; exact h)] at f9
      apply mm_sub14 f8
      apply mm_sub13 f9
      exact ⟨rfl, b1, b2, b3, b4, b5, b6⟩
    · have hk : v_hasImage = true := by
        cases hv : v_hasImage
        · exact absurd hv h
        · rfl
      have hk2 : ¬ (m_isKept = false) := by rw [b4, hk]; decide
      obtain ⟨j1, j2, j3, j4⟩ := b6 hk
      obtain ⟨u0, u1, u2, u3, -⟩ := z13 hk2
      have m32 := (i_fl u0 u1 u2 u3).2.2
      obtain ⟨l1, l2, l3⟩ := id j4
      rw [if_neg h, cp_e a8 a9 a10 a11 a12 a13 c8 c9 c10 c11 c12 c13] at f8
      rw [if_neg hk2] at f9
      obtain ⟨x1, x2, x3, x4, x5, x6, x7, x8, er, f9⟩ := mm_bd8s f9
      obtain ⟨⟨d1, d2⟩, d3, -, d5, -⟩ := co_e (by omega) (by omega) (by omega) (by omega) (by omega) z6 z7 z8 z9 z10 z11 er
      rw [y0, y5] at d5
      rw [y0] at d3
      have f8' : some (v_kept_folds, v_kept_rows, v_kept_cols, v_kept_high, v_kept_wide, v_kept_folds, v_kept_wrong, v_kept_more, v_kept_rowOf, v_kept_colOf, v_kept_below, v_kept_face, v_kept_worn, v_kept_last) = some (r8, p_now_rows, p_now_cols, p_now_high, p_now_wide, p_now_folds, p_now_wrong, p_now_more, p_now_rowOf, p_now_colOf, p_now_below, p_now_face, p_now_worn, p_now_last) := f8
      apply mm_sub14 f8'
      apply mm_sub13 f9
      rw [d1, d2]
      refine ⟨j3, j1, j2, j3, b4, ⟨?_, ?_, fun k hk3 => ?_⟩, fun _ => ⟨j1, j2, j3, lg_t j4 (by rw [← j1, ← j2]; exact m32) ?_ ?_ (fun j j0 j1 => d3 j (by omega) (by omega))⟩⟩
      · rw [ge_is _ _ _ _ (by omega), y0, if_pos rfl, ge_ig, y5]
        exact l1
      · rw [ge_is _ _ _ _ (by omega), y0, if_pos rfl, ge_ig, y5]
        exact l2
      · rw [← j1, ← j2] at hk3
        obtain ⟨u1, u2, u3, u4⟩ := d5 k (by omega)
        rw [j1, j2] at hk3
        obtain ⟨v1, v2, v3, v4⟩ := l3 k hk3
        exact ⟨by rw [u1]; exact v1, by rw [u2]; exact v2, by rw [u3]; exact v3, by rw [u4]; exact v4⟩
      · rw [ge_is _ _ _ _ (by omega), y0, if_neg (by decide)]
      · rw [ge_is _ _ _ _ (by omega), y0, if_neg (by decide)]
  obtain ⟨s1, s2⟩ := hr_1
  have X : rl_bw p_now_rows p_now_cols p_now_rowOf p_now_colOf p_now_below v_hasImage v_kept_rows v_kept_cols v_kept_rowOf v_kept_colOf v_kept_below := by
    have f8 := e8
    unfold fX8_back at f8
    by_cases h : v_hasImage = false
    · rw [if_pos h] at f8
      apply mm_sub14 f8
      exact ⟨s1, s2⟩
    · have hk : v_hasImage = true := by
        cases hv : v_hasImage
        · exact absurd hv h
        · rfl
      rw [if_neg h, cp_e a8 a9 a10 a11 a12 a13 c8 c9 c10 c11 c12 c13] at f8
      have f8' : some (v_kept_folds, v_kept_rows, v_kept_cols, v_kept_high, v_kept_wide, v_kept_folds, v_kept_wrong, v_kept_more, v_kept_rowOf, v_kept_colOf, v_kept_below, v_kept_face, v_kept_worn, v_kept_last) = some (r8, p_now_rows, p_now_cols, p_now_high, p_now_wide, p_now_folds, p_now_wrong, p_now_more, p_now_rowOf, p_now_colOf, p_now_below, p_now_face, p_now_worn, p_now_last) := f8
      apply mm_sub14 f8'
      exact ⟨s2 hk, s2⟩
  obtain ⟨er, R⟩ := RR
  subst er
  exact ⟨_, _, _, _, _, _, _, _, _, _, _, _, _, _, _, _, _, _, _, _, _, _, _, _, _, _, e8, e9, k8, k9, R, X⟩
end
section
/-! Piles: pile -/
theorem ph_e {x high wide : Int32} {sR sC : List Int32} {b8 b9 : Bool} (g1 : mm_ig sR (0 : Int32) = high) (g2 : mm_ig sC (0 : Int32) = wide) (e8 : fX5_hasPile 700 x high wide = some b8) (e9 : fX9_isPile 700 (0 : Int32) x sR sC = some b9) : b9 = b8 := by
  unfold fX5_hasPile at e8
  unfold fX9_isPile at e9
  by_cases c1 : x < 0
  · rw [if_pos c1] at e8 e9
    exact (sm_i e9).symm.trans (sm_i e8)
  · rw [if_neg c1] at e8 e9
    have e8 := ck_x e8
    have e9 := ck_x (ck_x e9)
    rw [g1] at e9
    by_cases c2 : high ≤ x / (10 : Int32)
    · rw [if_pos c2] at e8 e9
      exact (sm_i e9).symm.trans (sm_i e8)
    · rw [if_neg c2] at e8 e9
      have e8 := ck_x e8
      have e9 := ck_x (ck_x e9)
      rw [g2] at e9
      by_cases c3 : wide ≤ mm_rem x (10 : Int32)
      · rw [if_pos c3] at e8 e9
        exact (sm_i e9).symm.trans (sm_i e8)
      · rw [if_neg c3] at e8 e9
        exact (sm_i e9).symm.trans (sm_i e8)
theorem ht_5 {x1 x2 rows cols : Int32} {R C : List Int32} {m : Nat} (hm : (rows * cols).toInt = m) (m32 : m ≤ 32) : ∀ (n : Nat) (x3 x4 r : Int32), fX5_heightAt_5 700 n x1 x2 x3 x4 rows cols R C = some r → 0 ≤ x4.toInt → x4.toInt ≤ m → r = x3 + kc_w (fun j => decide (R.getD j 0 = x1 ∧ C.getD j 0 = x2)) x4.toInt.toNat (m - x4.toInt.toNat) := by
  have n1 : (1 : Int32).toInt = 1 := by decide
  intro n
  induction n with
  | zero =>
    intro x3 x4 r e
    exact absurd e (by intro h; cases h)
  | succ n ih =>
    intro x3 x4 r e p0 p1
    rw [uf_X5_heightAt_5] at e
    obtain ⟨fl, ef, e⟩ := mm_bd1s e
    have hfl : rows * cols = fl := sm_i ef
    subst hfl
    by_cases c : rows * cols ≤ x4
    · have d := i_le c
      rw [if_pos c] at e
      have hq : m - x4.toInt.toNat = 0 := by omega
      rw [hq, ← sm_i e]
      exact (Int32.add_zero _).symm
    · have d := i_nle c
      rw [if_neg c] at e
      have e := ck_x e
      obtain ⟨u, hu⟩ : ∃ u : Nat, m - x4.toInt.toNat = u + 1 := ⟨m - x4.toInt.toNat - 1, by omega⟩
      have J : ∀ x3' : Int32, x3' = x3 + (if decide (R.getD x4.toInt.toNat 0 = x1 ∧ C.getD x4.toInt.toNat 0 = x2) = true then (1 : Int32) else (0 : Int32)) → fX5_heightAt_39 700 (fX5_heightAt_5 700 n) x1 x2 x3' x4 rows cols R C = some r → r = x3 + kc_w (fun j => decide (R.getD j 0 = x1 ∧ C.getD j 0 = x2)) x4.toInt.toNat (m - x4.toInt.toNat) := by
        intro x3' hx e
        rw [uf_X5_heightAt_39, nm_eq] at e
        generalize hy : x4 + (1 : Int32) = y at e
        have ey := i_addE hy (by omega) (by omega)
        have q := ih x3' y r e (by omega) (by omega)
        have hu2 : m - y.toInt.toNat = u := by omega
        have hy2 : y.toInt.toNat = x4.toInt.toNat + 1 := by omega
        rw [q, hu, hu2, hy2, hx, Int32.add_assoc]
        rfl
      by_cases g1 : mm_ig R x4 = x1
      · rw [if_pos g1] at e
        have e := ck_x e
        by_cases g2 : mm_ig C x4 = x2
        · rw [if_pos g2, nm_eq] at e
          exact J _ (by rw [decide_eq_true ⟨g1, g2⟩]; rfl) e
        · rw [if_neg g2] at e
          exact J _ (by rw [decide_eq_false (fun h => g2 h.2)]; exact (Int32.add_zero _).symm) e
      · rw [if_neg g1] at e
        exact J _ (by rw [decide_eq_false (fun h => g1 h.1)]; exact (Int32.add_zero _).symm) e
/-- none is there -/
theorem fn_3 {x1 x2 x3 rows cols : Int32} {R C B : List Int32} {m : Nat} (hm : (rows * cols).toInt = m) (m32 : m ≤ 32) (H : ∀ k : Nat, k < m → ¬ (R.getD k 0 = x1 ∧ C.getD k 0 = x2 ∧ B.getD k 0 = x3)) : ∀ (n : Nat) (x4 r : Int32), fX5_fieldAt_3 700 n x1 x2 x3 x4 rows cols R C B = some r → 0 ≤ x4.toInt → r = -1 := by
  have n1 : (1 : Int32).toInt = 1 := by decide
  intro n
  induction n with
  | zero =>
    intro x4 r e
    exact absurd e (by intro h; cases h)
  | succ n ih =>
    intro x4 r e p0
    rw [uf_X5_fieldAt_3] at e
    obtain ⟨fl, ef, e⟩ := mm_bd1s e
    have hfl : rows * cols = fl := sm_i ef
    subst hfl
    by_cases c : rows * cols ≤ x4
    · rw [if_pos c] at e
      exact (sm_i e).symm
    · have d := i_nle c
      rw [if_neg c] at e
      have e := ck_x e
      have J : fX5_fieldAt_48 700 (fX5_fieldAt_3 700 n) x1 x2 x3 x4 rows cols R C B = some r → r = -1 := by
        intro e
        rw [uf_X5_fieldAt_48, nm_eq] at e
        generalize hy : x4 + (1 : Int32) = y at e
        have ey := i_addE hy (by omega) (by omega)
        exact ih y r e (by omega)
      by_cases g1 : mm_ig R x4 = x1
      · rw [if_pos g1] at e
        have e := ck_x e
        by_cases g2 : mm_ig C x4 = x2
        · rw [if_pos g2] at e
          have e := ck_x e
          by_cases g3 : mm_ig B x4 = x3
          · exact absurd ⟨g1, g2, g3⟩ (H x4.toInt.toNat (by omega))
          · rw [if_neg g3] at e
            exact J e
        · rw [if_neg g2] at e
          exact J e
      · rw [if_neg g1] at e
        exact J e
set_option maxHeartbeats 4000000 in
set_option maxRecDepth 20000 in
theorem rs_pile {x1 : Int32} {x2 : Int32} {v_now_rows : Int32} {v_now_cols : Int32} {v_now_high : Int32} {v_now_wide : Int32} {v_now_rowOf : List Int32} {v_now_colOf : List Int32} {v_now_below : List Int32} {v_now_face : List Int32} {v_now_worn : List Int32} {v_now_last : List Int32} {v_now_bend : List Int32} {v_now_tall : List Int32} {v_now_folds : Int32} {v_hasImage : Bool} {v_kept_rows : Int32} {v_kept_cols : Int32} {v_kept_high : Int32} {v_kept_wide : Int32} {v_kept_folds : Int32} {v_kept_rowOf : List Int32} {v_kept_colOf : List Int32} {v_kept_below : List Int32} {v_kept_face : List Int32} {m_rowsOf : Int32} {m_columnsOf : Int32} {m_shapeRows : List Int32} {m_shapeColumns : List Int32} {m_row : List Int32} {m_column : List Int32} {m_below : List Int32} {m_isKept : Bool} {m_imageRows : Int32} {m_imageColumns : Int32} {m_face : List Int32} {m_worn : List Int32} {m_lastBend : List Int32} {m_folded : Int32} {m_imageFolded : Int32} (g8_0 : gi_sh v_now_rows v_now_cols v_now_high v_now_wide v_now_rowOf v_now_colOf v_now_below v_now_face v_now_worn v_now_last v_now_bend v_now_tall) (g9_0 : gm_sh m_rowsOf m_columnsOf m_isKept m_imageRows m_imageColumns m_shapeRows m_shapeColumns m_row m_column m_below m_face m_worn m_lastBend) (hr_0 : rl_ge v_now_rows v_now_cols v_now_high v_now_wide v_now_folds v_now_rowOf v_now_colOf v_now_below v_now_face v_hasImage v_kept_rows v_kept_cols v_kept_high v_kept_wide v_kept_folds v_kept_rowOf v_kept_colOf v_kept_below v_kept_face m_rowsOf m_columnsOf m_folded m_isKept m_imageRows m_imageColumns m_imageFolded m_shapeRows m_shapeColumns m_row m_column m_below m_face) (hr_1 : rl_bw v_now_rows v_now_cols v_now_rowOf v_now_colOf v_now_below v_hasImage v_kept_rows v_kept_cols v_kept_rowOf v_kept_colOf v_kept_below) : ∃ (r : Int32), fX8_pile 700 x1 x2 v_now_rows v_now_cols v_now_high v_now_wide v_now_rowOf v_now_colOf v_now_below = some r ∧ fX9_pile 700 x1 x2 m_rowsOf m_columnsOf m_shapeRows m_shapeColumns m_row m_column m_below = some r ∧ rl_ge v_now_rows v_now_cols v_now_high v_now_wide v_now_folds v_now_rowOf v_now_colOf v_now_below v_now_face v_hasImage v_kept_rows v_kept_cols v_kept_high v_kept_wide v_kept_folds v_kept_rowOf v_kept_colOf v_kept_below v_kept_face m_rowsOf m_columnsOf m_folded m_isKept m_imageRows m_imageColumns m_imageFolded m_shapeRows m_shapeColumns m_row m_column m_below m_face ∧ rl_bw v_now_rows v_now_cols v_now_rowOf v_now_colOf v_now_below v_hasImage v_kept_rows v_kept_cols v_kept_rowOf v_kept_colOf v_kept_below := by
  obtain ⟨r8, e8, -⟩ := st8_pile (x1 := x1) (x2 := x2)  g8_0
  obtain ⟨r9, e9, -⟩ := st9_pile (x1 := x1) (x2 := x2)  g9_0
  have k8 := wp_get (st8_pile g8_0) e8
  have k9 := wp_get (st9_pile g9_0) e9
  obtain ⟨a0, a1, a2, a3, -⟩ := id g8_0
  obtain ⟨b1, b2, -, -, b5, -⟩ := id hr_0
  obtain ⟨s1, -⟩ := id hr_1
  obtain ⟨l1, l2, l3⟩ := b5
  subst b1 b2
  have n0 : (0 : Int32).toInt = 0 := by decide
  have n1 : (1 : Int32).toInt = 1 := by decide
  have nm2 : (-2 : Int32).toInt = -2 := by decide
  have nm1 : (-1 : Int32).toInt = -1 := by decide
  have m0 : (0 : Int64).toInt = 0 := by decide
  have y0 : (0 : Int32).toInt.toNat = 0 := by decide
  have hf := i_fl a0 a1 a2 a3
  have hm : (m_rowsOf * m_columnsOf).toInt = ((m_rowsOf.toInt * m_columnsOf.toInt).toNat : Nat) := by omega
  have m32 : (m_rowsOf.toInt * m_columnsOf.toInt).toNat ≤ 32 := by omega
  have X : r9 = r8 := by
    have f8 := e8
    have f9 := e9
    unfold fX8_pile at f8
    unfold fX9_pile at f9
    obtain ⟨h8, eh8, f8⟩ := mm_bd1s f8
    obtain ⟨h9, eh9, f9⟩ := mm_bd1s f9
    have eh := ph_e (by rw [ge_ig, y0]; exact l1) (by rw [ge_ig, y0]; exact l2) eh8 eh9
    subst eh
    by_cases c1 : h9 = false
    · rw [if_pos c1] at f8 f9
      exact (sm_i f9).symm.trans (sm_i f8)
    · rw [if_neg c1] at f8 f9
      have f9 := ck_x (ck_x f9)
      obtain ⟨n9, en9, f9⟩ := mm_bd1s f9
      have PC0 : ∀ (pl : Int32) (b9 : Bool), (if b9 = false then (some (-1 : Int32)) else (mm_ck (mm_nz (10 : Int32)) (mm_ck (mm_nz (10 : Int32)) (mm_bd1 (fX9_fieldAt 700 (0 : Int32) (x1 / (10 : Int32)) (mm_rem x1 (10 : Int32)) pl m_rowsOf m_columnsOf m_row m_column m_below) (fun (q : Int32) => some q))))) = some r9 → (if b9 = false then (some (-1 : Int32)) else (mm_bd1 (fX9_fieldAt 700 (0 : Int32) (x1 / (10 : Int32)) (mm_rem x1 (10 : Int32)) pl m_rowsOf m_columnsOf m_row m_column m_below) (fun (q : Int32) => some q))) = some r9 := by
        intro pl b9 h
        by_cases c : b9 = false
        · rw [if_pos c] at h ⊢
          exact h
        · rw [if_neg c] at h ⊢
          exact ck_x (ck_x h)
      -- the pile's height
      have NV : ∀ n8 : Int32, fX5_heightAt 700 (x1 / (10 : Int32)) (mm_rem x1 (10 : Int32)) m_rowsOf m_columnsOf v_now_rowOf v_now_colOf = some n8 → n9 = n8 ∧ n8.toInt = (cp_w (m_rowsOf.toInt * m_columnsOf.toInt).toNat v_now_rowOf v_now_colOf (x1 / (10 : Int32)) (mm_rem x1 (10 : Int32)) : Nat) := by
        intro n8 en8
        unfold fX5_heightAt at en8
        unfold fX9_sizeAt at en9
        have q1 := hs_5 (lv := (0 : Int32)) (m := (m_rowsOf.toInt * m_columnsOf.toInt).toNat) hm m32 (by decide) (by decide) (fun k hk => ⟨by rw [y0]; exact (l3 k hk).1, by rw [y0]; exact (l3 k hk).2.1⟩) 700 700 (0 : Int32) (0 : Int32) n8 n9 en8 en9 (by decide)
        have q2 := ht_5 (m := (m_rowsOf.toInt * m_columnsOf.toInt).toNat) hm m32 700 (0 : Int32) (0 : Int32) n8 en8 (by decide) (by omega)
        rw [y0, Nat.sub_zero, Int32.zero_add] at q2
        refine ⟨q1, ?_⟩
        rw [q2]
        exact kc_n _ _ 0 (by omega)
      -- a place asked for
      have PL : ∀ (pl n8 : Int32), n9 = n8 → n8.toInt = (cp_w (m_rowsOf.toInt * m_columnsOf.toInt).toNat v_now_rowOf v_now_colOf (x1 / (10 : Int32)) (mm_rem x1 (10 : Int32)) : Nat) → fX8_pile_67 700 pl (mm_rem x1 (10 : Int32)) (x1 / (10 : Int32)) m_rowsOf m_columnsOf v_now_high v_now_wide v_now_rowOf v_now_colOf v_now_below = some r8 → (∀ b9 : Bool, fX9_within 700 pl.toInt64 (0 : Int64) (n9 - (1 : Int32)).toInt64 = some b9 → (if b9 = false then (some (-1 : Int32)) else (mm_bd1 (fX9_fieldAt 700 (0 : Int32) (x1 / (10 : Int32)) (mm_rem x1 (10 : Int32)) pl m_rowsOf m_columnsOf m_row m_column m_below) (fun (q : Int32) => some q))) = some r9 → r9 = r8) := by
        intro pl n8 hn hv e8' b9 eb e9'
        rw [wn_x] at eb
        have hb := sm_i eb
        subst hb
        rw [uf_X8_pile_67] at e8'
        obtain ⟨q8, eq8, e8'⟩ := mm_bd1s e8'
        have hq8 := sm_i e8'
        subst hq8
        unfold fX5_fieldAt at eq8
        have lc := cn_l (fun j => decide (v_now_rowOf.getD j 0 = x1 / (10 : Int32) ∧ v_now_colOf.getD j 0 = mm_rem x1 (10 : Int32))) (m_rowsOf.toInt * m_columnsOf.toInt).toNat 0
        have hv' : n8.toInt = (cn_w (fun j => decide (v_now_rowOf.getD j 0 = x1 / (10 : Int32) ∧ v_now_colOf.getD j 0 = mm_rem x1 (10 : Int32))) 0 (m_rowsOf.toInt * m_columnsOf.toInt).toNat : Nat) := hv
        have en1 := i_subE (rfl : n9 - (1 : Int32) = _) (by rw [hn]; omega) (by rw [hn]; omega)
        rw [i_64, i_64, m0, en1, hn] at e9'
        by_cases g : 0 ≤ pl.toInt ∧ pl.toInt ≤ n8.toInt - 1
        · rw [decide_eq_true (by omega), if_neg (by decide)] at e9'
          obtain ⟨q9, eq9, e9'⟩ := mm_bd1s e9'
          have hq9 := sm_i e9'
          subst hq9
          unfold fX9_fieldAt at eq9
          exact fa_3 (lv := (0 : Int32)) (m := (m_rowsOf.toInt * m_columnsOf.toInt).toNat) hm m32 (by decide) (by decide) (fun k hk => ⟨by rw [y0]; exact (l3 k hk).1, by rw [y0]; exact (l3 k hk).2.1, by rw [y0]; exact (l3 k hk).2.2.1⟩) 700 700 (0 : Int32) q8 q9 eq8 eq9 (by decide)
        · rw [decide_eq_false (by omega), if_pos rfl] at e9'
          rw [← sm_i e9']
          refine (fn_3 (m := (m_rowsOf.toInt * m_columnsOf.toInt).toNat) hm m32 (fun k hk z => ?_) 700 (0 : Int32) q8 eq8 (by decide)).symm
          obtain ⟨z1, z2, z3⟩ := z
          have q := s1 k hk
          rw [z1, z2, z3, ← hv] at q
          exact g (by omega)
      by_cases c2 : (-2 : Int32) ≤ x2
      · have d2 := i_le c2
        rw [if_pos c2] at f8
        have f8 := ck_x (ck_x f8)
        obtain ⟨n8, en8, f8⟩ := mm_bd1s f8
        obtain ⟨nv1, nv2⟩ := NV n8 en8
        subst nv1
        by_cases c3 : x2 = (-2 : Int32)
        · rw [if_pos c3] at f8 f9
          exact (sm_i f9).symm.trans (sm_i f8)
        · rw [if_neg c3] at f8 f9
          have f8 := ck_x (ck_x f8)
          by_cases c4 : x2 = (-1 : Int32)
          · rw [if_pos c4] at f8 f9
            rw [uf_X9_pile_45] at f9
            obtain ⟨b9, eb9, f9⟩ := mm_bd1s f9
            exact PL _ n9 rfl nv2 f8 b9 eb9 (PC0 _ b9 f9)
          · rw [if_neg c4] at f8 f9
            rw [uf_X9_pile_45] at f9
            obtain ⟨b9, eb9, f9⟩ := mm_bd1s f9
            exact PL _ n9 rfl nv2 f8 b9 eb9 (PC0 _ b9 f9)
      · have d2 := i_nle c2
        rw [if_neg c2] at f8
        rw [if_neg (fun h => absurd (i_eq h) (by omega)), if_neg (fun h => absurd (i_eq h) (by omega)), uf_X9_pile_45] at f9
        obtain ⟨b9, eb9, f9⟩ := mm_bd1s f9
        rw [wn_x, i_64, m0] at eb9
        have hb := sm_i eb9
        subst hb
        rw [decide_eq_false (fun h => absurd h.1 (by omega)), if_pos rfl] at f9
        exact (sm_i f9).symm.trans (sm_i f8)
  subst X
  exact ⟨_, e8, e9, hr_0, hr_1⟩
end
section
/-! The law's loop: where the script is at a place, over every state that keeps the invariants -/
def lw_St (p : Program) (l : Launch) (e : Env) (s : State) (m : MethodId) (below : List Frame) (meth : Method) (c : Code) (D : va_G) (cI cL cS cH : ClassId) (bb : Nat) (a b : Nat → Nat) (cells slots : Nat) (Q : State → Prop) (pc : Nat) (ls : Array Slot) : Prop := ∀ (v_hasImage : Bool) (v_now_rows : Int32) (v_now_cols : Int32) (v_now_high : Int32) (v_now_wide : Int32) (v_now_folds : Int32) (v_now_wrong : Int32) (v_now_more : Int32) (v_now_rowOf : List Int32) (v_now_colOf : List Int32) (v_now_below : List Int32) (v_now_face : List Int32) (v_now_worn : List Int32) (v_now_last : List Int32) (v_now_bend : List Int32) (v_now_tall : List Int32) (v_kept_rows : Int32) (v_kept_cols : Int32) (v_kept_high : Int32) (v_kept_wide : Int32) (v_kept_folds : Int32) (v_kept_wrong : Int32) (v_kept_more : Int32) (v_kept_rowOf : List Int32) (v_kept_colOf : List Int32) (v_kept_below : List Int32) (v_kept_face : List Int32) (v_kept_worn : List Int32) (v_kept_last : List Int32) (v_kept_bend : List Int32) (v_kept_tall : List Int32) (v_wearing_size : Int32) (v_wearing_stepCount : Int32) (v_wearing_draftCount : Int32) (v_wearing_place : Int32) (v_wearing_fault : Int32) (v_wearing_stacked : Int32) (v_wearing_tape : List Int32) (v_wearing_steps : List Int32) (v_wearing_draft : List Int32) (v_wearing_stack : List Int32) (v_planned_size : Int32) (v_planned_trial_rows : Int32) (v_planned_trial_cols : Int32) (v_planned_trial_high : Int32) (v_planned_trial_wide : Int32) (v_planned_trial_folds : Int32) (v_planned_trial_wrong : Int32) (v_planned_trial_more : Int32) (v_planned_trial_rowOf : List Int32) (v_planned_trial_colOf : List Int32) (v_planned_trial_below : List Int32) (v_planned_trial_face : List Int32) (v_planned_trial_worn : List Int32) (v_planned_trial_last : List Int32) (v_planned_trial_bend : List Int32) (v_planned_trial_tall : List Int32) (v_planned_lines : List Int32) (v_planned_ways : List Int32) (v_search_found : Bool) (v_search_wrong : Int32) (v_search_more : Int32) (v_search_folds : Int32) (v_search_wanted : Int32) (v_search_levels0_rows : Int32) (v_search_levels0_cols : Int32) (v_search_levels0_high : Int32) (v_search_levels0_wide : Int32) (v_search_levels0_folds : Int32) (v_search_levels0_wrong : Int32) (v_search_levels0_more : Int32) (v_search_levels0_rowOf : List Int32) (v_search_levels0_colOf : List Int32) (v_search_levels0_below : List Int32) (v_search_levels0_face : List Int32) (v_search_levels0_worn : List Int32) (v_search_levels0_last : List Int32) (v_search_levels0_bend : List Int32) (v_search_levels0_tall : List Int32) (v_search_levels1_rows : Int32) (v_search_levels1_cols : Int32) (v_search_levels1_high : Int32) (v_search_levels1_wide : Int32) (v_search_levels1_folds : Int32) (v_search_levels1_wrong : Int32) (v_search_levels1_more : Int32) (v_search_levels1_rowOf : List Int32) (v_search_levels1_colOf : List Int32) (v_search_levels1_below : List Int32) (v_search_levels1_face : List Int32) (v_search_levels1_worn : List Int32) (v_search_levels1_last : List Int32) (v_search_levels1_bend : List Int32) (v_search_levels1_tall : List Int32) (v_search_levels2_rows : Int32) (v_search_levels2_cols : Int32) (v_search_levels2_high : Int32) (v_search_levels2_wide : Int32) (v_search_levels2_folds : Int32) (v_search_levels2_wrong : Int32) (v_search_levels2_more : Int32) (v_search_levels2_rowOf : List Int32) (v_search_levels2_colOf : List Int32) (v_search_levels2_below : List Int32) (v_search_levels2_face : List Int32) (v_search_levels2_worn : List Int32) (v_search_levels2_last : List Int32) (v_search_levels2_bend : List Int32) (v_search_levels2_tall : List Int32) (v_search_levels3_rows : Int32) (v_search_levels3_cols : Int32) (v_search_levels3_high : Int32) (v_search_levels3_wide : Int32) (v_search_levels3_folds : Int32) (v_search_levels3_wrong : Int32) (v_search_levels3_more : Int32) (v_search_levels3_rowOf : List Int32) (v_search_levels3_colOf : List Int32) (v_search_levels3_below : List Int32) (v_search_levels3_face : List Int32) (v_search_levels3_worn : List Int32) (v_search_levels3_last : List Int32) (v_search_levels3_bend : List Int32) (v_search_levels3_tall : List Int32) (v_search_path : List Int32) (v_search_best : List Int32) (v_strip_list : List Int32) (v_strip_found : List Int32) (v_strip_at : List Int32) (v_changes_value : Int32) (v_changes_done : Int32) (v_changes_size : Int32) (v_changes_before : List Int32) (v_changes_after : List Int32) (v_foldings_size : Int32) (v_foldings_ran : Int32) (v_foldings_number : Int32) (v_foldings_kinds : List Int32) (v_foldings_trace : List Int32) (v_shelves0_holds : Int32) (v_shelves0_body : Int32) (v_shelves0_sort : Int32) (v_shelves0_size : Int32) (v_shelves0_items : List Int64) (v_shelves1_holds : Int32) (v_shelves1_body : Int32) (v_shelves1_sort : Int32) (v_shelves1_size : Int32) (v_shelves1_items : List Int64) (v_shelves2_holds : Int32) (v_shelves2_body : Int32) (v_shelves2_sort : Int32) (v_shelves2_size : Int32) (v_shelves2_items : List Int64) (v_shelves3_holds : Int32) (v_shelves3_body : Int32) (v_shelves3_sort : Int32) (v_shelves3_size : Int32) (v_shelves3_items : List Int64) (v_shelves4_holds : Int32) (v_shelves4_body : Int32) (v_shelves4_sort : Int32) (v_shelves4_size : Int32) (v_shelves4_items : List Int64) (v_shelves5_holds : Int32) (v_shelves5_body : Int32) (v_shelves5_sort : Int32) (v_shelves5_size : Int32) (v_shelves5_items : List Int64) (m_keptMany : Int32) (m_done : Int32) (m_rowsOf : Int32) (m_columnsOf : Int32) (m_folded : Int32) (m_wronged : Int32) (m_tapeMany : Int32) (m_textMany : Int32) (m_base : Int32) (m_at : Int32) (m_ends : Int32) (m_fault : Int32) (m_opened : Int32) (m_bentMany : Int32) (m_bentWrong : Int32) (m_moreWorn : Int32) (m_planned : Int32) (m_allWrong : Int32) (m_allWorn : Int32) (m_z : Int32) (m_wishedField : Int32) (m_isFound : Bool) (m_bestWrong : Int32) (m_bestWorn : Int32) (m_bestMany : Int32) (m_soughtBy : Int32) (m_sought : Int32) (m_soughtAt : Int32) (m_foundMany : Int32) (m_foundOrder : Int32) (m_isKept : Bool) (m_imageRows : Int32) (m_imageColumns : Int32) (m_imageFolded : Int32) (m_imageWronged : Int32) (m_bodies : Int32) (m_ran : Int32) (m_ownKind : Int32) (m_ownNumber : Int32) (m_limit : List Int32) (m_changeWas : List Int32) (m_changeIs : List Int32) (m_shapeRows : List Int32) (m_shapeColumns : List Int32) (m_row : List Int32) (m_column : List Int32) (m_below : List Int32) (m_face : List Int32) (m_worn : List Int32) (m_lastBend : List Int32) (m_tape : List Int32) (m_text : List Int32) (m_names : List Int32) (m_bends : List Int32) (m_high : List Int32) (m_to : List Int32) (m_pileSize : List Int32) (m_planLine : List Int32) (m_planWay : List Int32) (m_way1 : List Int32) (m_bestWay : List Int32) (m_order1 : List Int32) (m_placeIn : List Int32) (m_bodyKind : List Int32) (m_trace : List Int32) (m_shelf : List Int32) (m_many : List Int32) (m_items : List Int64) (m_carried : List Int64) (H : Heap) (locs : List Loc), gi_sh v_now_rows v_now_cols v_now_high v_now_wide v_now_rowOf v_now_colOf v_now_below v_now_face v_now_worn v_now_last v_now_bend v_now_tall → gi_ch v_changes_done v_changes_size v_changes_before v_changes_after → gi_la v_wearing_size v_wearing_stepCount v_wearing_draftCount v_wearing_tape v_wearing_steps v_wearing_draft v_wearing_stack → gi_pl v_planned_size v_planned_lines v_planned_ways → gi_sf v_shelves0_size v_shelves0_items → gi_sf v_shelves1_size v_shelves1_items → gi_sf v_shelves2_size v_shelves2_items → gi_sf v_shelves3_size v_shelves3_items → gi_sf v_shelves4_size v_shelves4_items → gi_sf v_shelves5_size v_shelves5_items → gi_sh v_planned_trial_rows v_planned_trial_cols v_planned_trial_high v_planned_trial_wide v_planned_trial_rowOf v_planned_trial_colOf v_planned_trial_below v_planned_trial_face v_planned_trial_worn v_planned_trial_last v_planned_trial_bend v_planned_trial_tall → gi_se v_search_folds v_search_path v_search_best → gi_sh v_search_levels0_rows v_search_levels0_cols v_search_levels0_high v_search_levels0_wide v_search_levels0_rowOf v_search_levels0_colOf v_search_levels0_below v_search_levels0_face v_search_levels0_worn v_search_levels0_last v_search_levels0_bend v_search_levels0_tall → gi_sh v_search_levels1_rows v_search_levels1_cols v_search_levels1_high v_search_levels1_wide v_search_levels1_rowOf v_search_levels1_colOf v_search_levels1_below v_search_levels1_face v_search_levels1_worn v_search_levels1_last v_search_levels1_bend v_search_levels1_tall → gi_sh v_search_levels2_rows v_search_levels2_cols v_search_levels2_high v_search_levels2_wide v_search_levels2_rowOf v_search_levels2_colOf v_search_levels2_below v_search_levels2_face v_search_levels2_worn v_search_levels2_last v_search_levels2_bend v_search_levels2_tall → gi_sh v_search_levels3_rows v_search_levels3_cols v_search_levels3_high v_search_levels3_wide v_search_levels3_rowOf v_search_levels3_colOf v_search_levels3_below v_search_levels3_face v_search_levels3_worn v_search_levels3_last v_search_levels3_bend v_search_levels3_tall → gi_st v_strip_at v_strip_list v_strip_found → gi_sh v_kept_rows v_kept_cols v_kept_high v_kept_wide v_kept_rowOf v_kept_colOf v_kept_below v_kept_face v_kept_worn v_kept_last v_kept_bend v_kept_tall → gi_fo v_foldings_size v_foldings_kinds v_foldings_trace → gm_ch m_keptMany m_done m_limit m_changeWas m_changeIs → gm_sh m_rowsOf m_columnsOf m_isKept m_imageRows m_imageColumns m_shapeRows m_shapeColumns m_row m_column m_below m_face m_worn m_lastBend → gm_tx m_tapeMany m_textMany m_tape m_text m_names m_bends m_high m_to m_pileSize → gm_pl m_planned m_planLine m_planWay → gm_se m_bestMany m_way1 m_bestWay → gm_or m_order1 m_placeIn → gm_bo m_bodies m_bodyKind m_trace → gm_sf m_shelf m_many m_items m_carried → rl_ge v_now_rows v_now_cols v_now_high v_now_wide v_now_folds v_now_rowOf v_now_colOf v_now_below v_now_face v_hasImage v_kept_rows v_kept_cols v_kept_high v_kept_wide v_kept_folds v_kept_rowOf v_kept_colOf v_kept_below v_kept_face m_rowsOf m_columnsOf m_folded m_isKept m_imageRows m_imageColumns m_imageFolded m_shapeRows m_shapeColumns m_row m_column m_below m_face → rl_bw v_now_rows v_now_cols v_now_rowOf v_now_colOf v_now_below v_hasImage v_kept_rows v_kept_cols v_kept_rowOf v_kept_colOf v_kept_below → va_P D mm_cl (wd_X8 cI cL cS cH a v_hasImage v_now_rows v_now_cols v_now_high v_now_wide v_now_folds v_now_wrong v_now_more v_now_rowOf v_now_colOf v_now_below v_now_face v_now_worn v_now_last v_now_bend v_now_tall v_kept_rows v_kept_cols v_kept_high v_kept_wide v_kept_folds v_kept_wrong v_kept_more v_kept_rowOf v_kept_colOf v_kept_below v_kept_face v_kept_worn v_kept_last v_kept_bend v_kept_tall v_wearing_size v_wearing_stepCount v_wearing_draftCount v_wearing_place v_wearing_fault v_wearing_stacked v_wearing_tape v_wearing_steps v_wearing_draft v_wearing_stack v_planned_size v_planned_trial_rows v_planned_trial_cols v_planned_trial_high v_planned_trial_wide v_planned_trial_folds v_planned_trial_wrong v_planned_trial_more v_planned_trial_rowOf v_planned_trial_colOf v_planned_trial_below v_planned_trial_face v_planned_trial_worn v_planned_trial_last v_planned_trial_bend v_planned_trial_tall v_planned_lines v_planned_ways v_search_found v_search_wrong v_search_more v_search_folds v_search_wanted v_search_levels0_rows v_search_levels0_cols v_search_levels0_high v_search_levels0_wide v_search_levels0_folds v_search_levels0_wrong v_search_levels0_more v_search_levels0_rowOf v_search_levels0_colOf v_search_levels0_below v_search_levels0_face v_search_levels0_worn v_search_levels0_last v_search_levels0_bend v_search_levels0_tall v_search_levels1_rows v_search_levels1_cols v_search_levels1_high v_search_levels1_wide v_search_levels1_folds v_search_levels1_wrong v_search_levels1_more v_search_levels1_rowOf v_search_levels1_colOf v_search_levels1_below v_search_levels1_face v_search_levels1_worn v_search_levels1_last v_search_levels1_bend v_search_levels1_tall v_search_levels2_rows v_search_levels2_cols v_search_levels2_high v_search_levels2_wide v_search_levels2_folds v_search_levels2_wrong v_search_levels2_more v_search_levels2_rowOf v_search_levels2_colOf v_search_levels2_below v_search_levels2_face v_search_levels2_worn v_search_levels2_last v_search_levels2_bend v_search_levels2_tall v_search_levels3_rows v_search_levels3_cols v_search_levels3_high v_search_levels3_wide v_search_levels3_folds v_search_levels3_wrong v_search_levels3_more v_search_levels3_rowOf v_search_levels3_colOf v_search_levels3_below v_search_levels3_face v_search_levels3_worn v_search_levels3_last v_search_levels3_bend v_search_levels3_tall v_search_path v_search_best v_strip_list v_strip_found v_strip_at v_changes_value v_changes_done v_changes_size v_changes_before v_changes_after v_foldings_size v_foldings_ran v_foldings_number v_foldings_kinds v_foldings_trace v_shelves0_holds v_shelves0_body v_shelves0_sort v_shelves0_size v_shelves0_items v_shelves1_holds v_shelves1_body v_shelves1_sort v_shelves1_size v_shelves1_items v_shelves2_holds v_shelves2_body v_shelves2_sort v_shelves2_size v_shelves2_items v_shelves3_holds v_shelves3_body v_shelves3_sort v_shelves3_size v_shelves3_items v_shelves4_holds v_shelves4_body v_shelves4_sort v_shelves4_size v_shelves4_items v_shelves5_holds v_shelves5_body v_shelves5_sort v_shelves5_size v_shelves5_items ++ wd_X9 cI cL cS cH b m_keptMany m_done m_rowsOf m_columnsOf m_folded m_wronged m_tapeMany m_textMany m_base m_at m_ends m_fault m_opened m_bentMany m_bentWrong m_moreWorn m_planned m_allWrong m_allWorn m_z m_wishedField m_isFound m_bestWrong m_bestWorn m_bestMany m_soughtBy m_sought m_soughtAt m_foundMany m_foundOrder m_isKept m_imageRows m_imageColumns m_imageFolded m_imageWronged m_bodies m_ran m_ownKind m_ownNumber m_limit m_changeWas m_changeIs m_shapeRows m_shapeColumns m_row m_column m_below m_face m_worn m_lastBend m_tape m_text m_names m_bends m_high m_to m_pileSize m_planLine m_planWay m_way1 m_bestWay m_order1 m_placeIn m_bodyKind m_trace m_shelf m_many m_items m_carried) H → va_D (fun q => s.heap.size ≤ q) (wd_X8 cI cL cS cH a v_hasImage v_now_rows v_now_cols v_now_high v_now_wide v_now_folds v_now_wrong v_now_more v_now_rowOf v_now_colOf v_now_below v_now_face v_now_worn v_now_last v_now_bend v_now_tall v_kept_rows v_kept_cols v_kept_high v_kept_wide v_kept_folds v_kept_wrong v_kept_more v_kept_rowOf v_kept_colOf v_kept_below v_kept_face v_kept_worn v_kept_last v_kept_bend v_kept_tall v_wearing_size v_wearing_stepCount v_wearing_draftCount v_wearing_place v_wearing_fault v_wearing_stacked v_wearing_tape v_wearing_steps v_wearing_draft v_wearing_stack v_planned_size v_planned_trial_rows v_planned_trial_cols v_planned_trial_high v_planned_trial_wide v_planned_trial_folds v_planned_trial_wrong v_planned_trial_more v_planned_trial_rowOf v_planned_trial_colOf v_planned_trial_below v_planned_trial_face v_planned_trial_worn v_planned_trial_last v_planned_trial_bend v_planned_trial_tall v_planned_lines v_planned_ways v_search_found v_search_wrong v_search_more v_search_folds v_search_wanted v_search_levels0_rows v_search_levels0_cols v_search_levels0_high v_search_levels0_wide v_search_levels0_folds v_search_levels0_wrong v_search_levels0_more v_search_levels0_rowOf v_search_levels0_colOf v_search_levels0_below v_search_levels0_face v_search_levels0_worn v_search_levels0_last v_search_levels0_bend v_search_levels0_tall v_search_levels1_rows v_search_levels1_cols v_search_levels1_high v_search_levels1_wide v_search_levels1_folds v_search_levels1_wrong v_search_levels1_more v_search_levels1_rowOf v_search_levels1_colOf v_search_levels1_below v_search_levels1_face v_search_levels1_worn v_search_levels1_last v_search_levels1_bend v_search_levels1_tall v_search_levels2_rows v_search_levels2_cols v_search_levels2_high v_search_levels2_wide v_search_levels2_folds v_search_levels2_wrong v_search_levels2_more v_search_levels2_rowOf v_search_levels2_colOf v_search_levels2_below v_search_levels2_face v_search_levels2_worn v_search_levels2_last v_search_levels2_bend v_search_levels2_tall v_search_levels3_rows v_search_levels3_cols v_search_levels3_high v_search_levels3_wide v_search_levels3_folds v_search_levels3_wrong v_search_levels3_more v_search_levels3_rowOf v_search_levels3_colOf v_search_levels3_below v_search_levels3_face v_search_levels3_worn v_search_levels3_last v_search_levels3_bend v_search_levels3_tall v_search_path v_search_best v_strip_list v_strip_found v_strip_at v_changes_value v_changes_done v_changes_size v_changes_before v_changes_after v_foldings_size v_foldings_ran v_foldings_number v_foldings_kinds v_foldings_trace v_shelves0_holds v_shelves0_body v_shelves0_sort v_shelves0_size v_shelves0_items v_shelves1_holds v_shelves1_body v_shelves1_sort v_shelves1_size v_shelves1_items v_shelves2_holds v_shelves2_body v_shelves2_sort v_shelves2_size v_shelves2_items v_shelves3_holds v_shelves3_body v_shelves3_sort v_shelves3_size v_shelves3_items v_shelves4_holds v_shelves4_body v_shelves4_sort v_shelves4_size v_shelves4_items v_shelves5_holds v_shelves5_body v_shelves5_sort v_shelves5_size v_shelves5_items ++ wd_X9 cI cL cS cH b m_keptMany m_done m_rowsOf m_columnsOf m_folded m_wronged m_tapeMany m_textMany m_base m_at m_ends m_fault m_opened m_bentMany m_bentWrong m_moreWorn m_planned m_allWrong m_allWorn m_z m_wishedField m_isFound m_bestWrong m_bestWorn m_bestMany m_soughtBy m_sought m_soughtAt m_foundMany m_foundOrder m_isKept m_imageRows m_imageColumns m_imageFolded m_imageWronged m_bodies m_ran m_ownKind m_ownNumber m_limit m_changeWas m_changeIs m_shapeRows m_shapeColumns m_row m_column m_below m_face m_worn m_lastBend m_tape m_text m_names m_bends m_high m_to m_pileSize m_planLine m_planWay m_way1 m_bestWay m_order1 m_placeIn m_bodyKind m_trace m_shelf m_many m_items m_carried) → va_S (fun q => s.heap.size ≤ q) s.heap H locs → W p l e room_1 s m #[Value.ref bb] below meth c H locs cells slots Q (F0 m pc ls [])
set_option maxHeartbeats 8000000 in
set_option maxRecDepth 100000 in
/-- the law's end -/
theorem law_out {p : Program} {l : Launch} {e : Env} {s : State} {m : MethodId} {below : List Frame} {meth : Method} {c : Code} {bb L : Nat} {xs : Nat → Int32} (C0 : lw_At p s m meth c bb L xs) {H : Heap} {locs : List Loc} {ls : Array Slot} {cells slots : Nat} (hc1 : cells ≤ 600000) (hc2 : slots ≤ 7302250) (hS : va_S (fun q => s.heap.size ≤ q) s.heap H locs) : W p l e room_1 s m #[Value.ref bb] below meth c H locs cells slots (lw_Z below #[Value.ref bb] s) (F0 m 1397 ls []) := by
  obtain ⟨hx, hb, hr, hml, hown, hts, hX, hbl, hlocks, hgv⟩ := C0
  refine lv_iconst (v := 1) hx hb dL_law_1397 (by decide) ?_
  refine va_forget (fun q hq => hS.2.2 q hq) ?_
  refine W.widen (k := 600000) (n := 7302250) hc1 hc2 ?_
  exact lw_ret hx hb hr hlocks dL_law_1398
theorem lw_in {x : Int32} {L : Nat} {z : Int} (h : x.toInt = z) (h0 : 0 ≤ z) (h1 : z < L) : vp_in x L := by
  unfold vp_in
  have n0 : (0 : Int32).toInt = 0 := by decide
  rintro (k | k)
  · rw [Int32.lt_iff_toInt_lt] at k; omega
  · have : L ≤ x.toInt.toNat := k
    omega
end
section
/-! The law's cases, over every state -/
set_option maxHeartbeats 8000000 in
set_option maxRecDepth 100000 in
theorem ls_0 {p : Program} {l : Launch} {e : Env} {s : State} {m : MethodId} {below : List Frame} {meth : Method} {c : Code} {D : va_G} {cI cL cS cH : ClassId} {bb : Nat} {a b : Nat → Nat} {cells slots : Nat} {Q : State → Prop} {L : Nat} {xs : Nat → Int32} {x3 : Int32} {ls : Array Slot} (C0 : mm_Cx p s m #[Value.ref bb] meth c RL code 4 ret D (mm_T cI cL cS cH) (fun q => s.heap.size ≤ q)) (hX : va_X bb L xs s s.heap) (hbl : bb < s.heap.size) (hi_1 : vp_in (x3 + (1 : Int32)) L) (hc1 : cells ≤ room_1.cells) (hc2 : slots ≤ room_1.slots) (hl : lv_has ls 4 [(0, .ref bb), (1, .ref (a 0)), (2, .ref (b 0)), (3, .int x3)]) (K : lw_St p l e s m below meth c D cI cL cS cH bb a b cells slots Q 1391 ls) : lw_St p l e s m below meth c D cI cL cS cH bb a b cells slots Q 204 ls := by
  intro v_hasImage v_now_rows v_now_cols v_now_high v_now_wide v_now_folds v_now_wrong v_now_more v_now_rowOf v_now_colOf v_now_below v_now_face v_now_worn v_now_last v_now_bend v_now_tall v_kept_rows v_kept_cols v_kept_high v_kept_wide v_kept_folds v_kept_wrong v_kept_more v_kept_rowOf v_kept_colOf v_kept_below v_kept_face v_kept_worn v_kept_last v_kept_bend v_kept_tall v_wearing_size v_wearing_stepCount v_wearing_draftCount v_wearing_place v_wearing_fault v_wearing_stacked v_wearing_tape v_wearing_steps v_wearing_draft v_wearing_stack v_planned_size v_planned_trial_rows v_planned_trial_cols v_planned_trial_high v_planned_trial_wide v_planned_trial_folds v_planned_trial_wrong v_planned_trial_more v_planned_trial_rowOf v_planned_trial_colOf v_planned_trial_below v_planned_trial_face v_planned_trial_worn v_planned_trial_last v_planned_trial_bend v_planned_trial_tall v_planned_lines v_planned_ways v_search_found v_search_wrong v_search_more v_search_folds v_search_wanted v_search_levels0_rows v_search_levels0_cols v_search_levels0_high v_search_levels0_wide v_search_levels0_folds v_search_levels0_wrong v_search_levels0_more v_search_levels0_rowOf v_search_levels0_colOf v_search_levels0_below v_search_levels0_face v_search_levels0_worn v_search_levels0_last v_search_levels0_bend v_search_levels0_tall v_search_levels1_rows v_search_levels1_cols v_search_levels1_high v_search_levels1_wide v_search_levels1_folds v_search_levels1_wrong v_search_levels1_more v_search_levels1_rowOf v_search_levels1_colOf v_search_levels1_below v_search_levels1_face v_search_levels1_worn v_search_levels1_last v_search_levels1_bend v_search_levels1_tall v_search_levels2_rows v_search_levels2_cols v_search_levels2_high v_search_levels2_wide v_search_levels2_folds v_search_levels2_wrong v_search_levels2_more v_search_levels2_rowOf v_search_levels2_colOf v_search_levels2_below v_search_levels2_face v_search_levels2_worn v_search_levels2_last v_search_levels2_bend v_search_levels2_tall v_search_levels3_rows v_search_levels3_cols v_search_levels3_high v_search_levels3_wide v_search_levels3_folds v_search_levels3_wrong v_search_levels3_more v_search_levels3_rowOf v_search_levels3_colOf v_search_levels3_below v_search_levels3_face v_search_levels3_worn v_search_levels3_last v_search_levels3_bend v_search_levels3_tall v_search_path v_search_best v_strip_list v_strip_found v_strip_at v_changes_value v_changes_done v_changes_size v_changes_before v_changes_after v_foldings_size v_foldings_ran v_foldings_number v_foldings_kinds v_foldings_trace v_shelves0_holds v_shelves0_body v_shelves0_sort v_shelves0_size v_shelves0_items v_shelves1_holds v_shelves1_body v_shelves1_sort v_shelves1_size v_shelves1_items v_shelves2_holds v_shelves2_body v_shelves2_sort v_shelves2_size v_shelves2_items v_shelves3_holds v_shelves3_body v_shelves3_sort v_shelves3_size v_shelves3_items v_shelves4_holds v_shelves4_body v_shelves4_sort v_shelves4_size v_shelves4_items v_shelves5_holds v_shelves5_body v_shelves5_sort v_shelves5_size v_shelves5_items m_keptMany m_done m_rowsOf m_columnsOf m_folded m_wronged m_tapeMany m_textMany m_base m_at m_ends m_fault m_opened m_bentMany m_bentWrong m_moreWorn m_planned m_allWrong m_allWorn m_z m_wishedField m_isFound m_bestWrong m_bestWorn m_bestMany m_soughtBy m_sought m_soughtAt m_foundMany m_foundOrder m_isKept m_imageRows m_imageColumns m_imageFolded m_imageWronged m_bodies m_ran m_ownKind m_ownNumber m_limit m_changeWas m_changeIs m_shapeRows m_shapeColumns m_row m_column m_below m_face m_worn m_lastBend m_tape m_text m_names m_bends m_high m_to m_pileSize m_planLine m_planWay m_way1 m_bestWay m_order1 m_placeIn m_bodyKind m_trace m_shelf m_many m_items m_carried H locs u_0 u_1 u_2 u_3 u_4 u_5 u_6 u_7 u_8 u_9 u_10 u_11 u_12 u_13 u_14 u_15 u_16 u_17 u_18 t_0 t_1 t_2 t_3 t_4 t_5 t_6 t_7 hr_0 hr_1 hP hD hS
  obtain ⟨r8, p_now_rows, p_now_cols, p_now_high, p_now_wide, p_now_folds, p_now_wrong, p_now_more, p_now_rowOf, p_now_colOf, p_now_below, p_now_face, p_now_worn, p_now_last, r9, q_rowsOf, q_columnsOf, q_folded, q_wronged, q_shapeRows, q_shapeColumns, q_row, q_column, q_below, q_face, q_worn, q_lastBend, h8, h9, y_0, z_0, w_0, w_1⟩ := rs_sheet_bw (x1 := (xs (x3 + (1 : Int32)).toNatClampNeg)) (v_now_folds := v_now_folds) (v_now_wrong := v_now_wrong) (v_now_more := v_now_more) (m_folded := m_folded) (m_wronged := m_wronged) u_0 t_1 hr_0 hr_1
  exact lc_0 C0 hX hbl hi_1 rfl h8 h9 hc1 hc2 hP hD hS hl (fun H locs hP hD hS => K v_hasImage p_now_rows p_now_cols p_now_high p_now_wide p_now_folds p_now_wrong p_now_more p_now_rowOf p_now_colOf p_now_below p_now_face p_now_worn p_now_last v_now_bend v_now_tall v_kept_rows v_kept_cols v_kept_high v_kept_wide v_kept_folds v_kept_wrong v_kept_more v_kept_rowOf v_kept_colOf v_kept_below v_kept_face v_kept_worn v_kept_last v_kept_bend v_kept_tall v_wearing_size v_wearing_stepCount v_wearing_draftCount v_wearing_place v_wearing_fault v_wearing_stacked v_wearing_tape v_wearing_steps v_wearing_draft v_wearing_stack v_planned_size v_planned_trial_rows v_planned_trial_cols v_planned_trial_high v_planned_trial_wide v_planned_trial_folds v_planned_trial_wrong v_planned_trial_more v_planned_trial_rowOf v_planned_trial_colOf v_planned_trial_below v_planned_trial_face v_planned_trial_worn v_planned_trial_last v_planned_trial_bend v_planned_trial_tall v_planned_lines v_planned_ways v_search_found v_search_wrong v_search_more v_search_folds v_search_wanted v_search_levels0_rows v_search_levels0_cols v_search_levels0_high v_search_levels0_wide v_search_levels0_folds v_search_levels0_wrong v_search_levels0_more v_search_levels0_rowOf v_search_levels0_colOf v_search_levels0_below v_search_levels0_face v_search_levels0_worn v_search_levels0_last v_search_levels0_bend v_search_levels0_tall v_search_levels1_rows v_search_levels1_cols v_search_levels1_high v_search_levels1_wide v_search_levels1_folds v_search_levels1_wrong v_search_levels1_more v_search_levels1_rowOf v_search_levels1_colOf v_search_levels1_below v_search_levels1_face v_search_levels1_worn v_search_levels1_last v_search_levels1_bend v_search_levels1_tall v_search_levels2_rows v_search_levels2_cols v_search_levels2_high v_search_levels2_wide v_search_levels2_folds v_search_levels2_wrong v_search_levels2_more v_search_levels2_rowOf v_search_levels2_colOf v_search_levels2_below v_search_levels2_face v_search_levels2_worn v_search_levels2_last v_search_levels2_bend v_search_levels2_tall v_search_levels3_rows v_search_levels3_cols v_search_levels3_high v_search_levels3_wide v_search_levels3_folds v_search_levels3_wrong v_search_levels3_more v_search_levels3_rowOf v_search_levels3_colOf v_search_levels3_below v_search_levels3_face v_search_levels3_worn v_search_levels3_last v_search_levels3_bend v_search_levels3_tall v_search_path v_search_best v_strip_list v_strip_found v_strip_at v_changes_value v_changes_done v_changes_size v_changes_before v_changes_after v_foldings_size v_foldings_ran v_foldings_number v_foldings_kinds v_foldings_trace v_shelves0_holds v_shelves0_body v_shelves0_sort v_shelves0_size v_shelves0_items v_shelves1_holds v_shelves1_body v_shelves1_sort v_shelves1_size v_shelves1_items v_shelves2_holds v_shelves2_body v_shelves2_sort v_shelves2_size v_shelves2_items v_shelves3_holds v_shelves3_body v_shelves3_sort v_shelves3_size v_shelves3_items v_shelves4_holds v_shelves4_body v_shelves4_sort v_shelves4_size v_shelves4_items v_shelves5_holds v_shelves5_body v_shelves5_sort v_shelves5_size v_shelves5_items m_keptMany m_done q_rowsOf q_columnsOf q_folded q_wronged m_tapeMany m_textMany m_base m_at m_ends m_fault m_opened m_bentMany m_bentWrong m_moreWorn m_planned m_allWrong m_allWorn m_z m_wishedField m_isFound m_bestWrong m_bestWorn m_bestMany m_soughtBy m_sought m_soughtAt m_foundMany m_foundOrder m_isKept m_imageRows m_imageColumns m_imageFolded m_imageWronged m_bodies m_ran m_ownKind m_ownNumber m_limit m_changeWas m_changeIs q_shapeRows q_shapeColumns q_row q_column q_below q_face q_worn q_lastBend m_tape m_text m_names m_bends m_high m_to m_pileSize m_planLine m_planWay m_way1 m_bestWay m_order1 m_placeIn m_bodyKind m_trace m_shelf m_many m_items m_carried H locs y_0 u_1 u_2 u_3 u_4 u_5 u_6 u_7 u_8 u_9 u_10 u_11 u_12 u_13 u_14 u_15 u_16 u_17 u_18 t_0 z_0 t_2 t_3 t_4 t_5 t_6 t_7 w_0 w_1 hP hD hS)
set_option maxHeartbeats 8000000 in
set_option maxRecDepth 100000 in
theorem ls_1 {p : Program} {l : Launch} {e : Env} {s : State} {m : MethodId} {below : List Frame} {meth : Method} {c : Code} {D : va_G} {cI cL cS cH : ClassId} {bb : Nat} {a b : Nat → Nat} {cells slots : Nat} {Q : State → Prop} {L : Nat} {xs : Nat → Int32} {x3 : Int32} {ls : Array Slot} (C0 : mm_Cx p s m #[Value.ref bb] meth c RL code 4 ret D (mm_T cI cL cS cH) (fun q => s.heap.size ≤ q)) (hX : va_X bb L xs s s.heap) (hbl : bb < s.heap.size) (hi_1 : vp_in (x3 + (1 : Int32)) L) (hc1 : cells ≤ room_1.cells) (hc2 : slots ≤ room_1.slots) (hl : lv_has ls 4 [(0, .ref bb), (1, .ref (a 0)), (2, .ref (b 0)), (3, .int x3)]) (K : lw_St p l e s m below meth c D cI cL cS cH bb a b cells slots Q 1391 ls) : lw_St p l e s m below meth c D cI cL cS cH bb a b cells slots Q 227 ls := by
  intro v_hasImage v_now_rows v_now_cols v_now_high v_now_wide v_now_folds v_now_wrong v_now_more v_now_rowOf v_now_colOf v_now_below v_now_face v_now_worn v_now_last v_now_bend v_now_tall v_kept_rows v_kept_cols v_kept_high v_kept_wide v_kept_folds v_kept_wrong v_kept_more v_kept_rowOf v_kept_colOf v_kept_below v_kept_face v_kept_worn v_kept_last v_kept_bend v_kept_tall v_wearing_size v_wearing_stepCount v_wearing_draftCount v_wearing_place v_wearing_fault v_wearing_stacked v_wearing_tape v_wearing_steps v_wearing_draft v_wearing_stack v_planned_size v_planned_trial_rows v_planned_trial_cols v_planned_trial_high v_planned_trial_wide v_planned_trial_folds v_planned_trial_wrong v_planned_trial_more v_planned_trial_rowOf v_planned_trial_colOf v_planned_trial_below v_planned_trial_face v_planned_trial_worn v_planned_trial_last v_planned_trial_bend v_planned_trial_tall v_planned_lines v_planned_ways v_search_found v_search_wrong v_search_more v_search_folds v_search_wanted v_search_levels0_rows v_search_levels0_cols v_search_levels0_high v_search_levels0_wide v_search_levels0_folds v_search_levels0_wrong v_search_levels0_more v_search_levels0_rowOf v_search_levels0_colOf v_search_levels0_below v_search_levels0_face v_search_levels0_worn v_search_levels0_last v_search_levels0_bend v_search_levels0_tall v_search_levels1_rows v_search_levels1_cols v_search_levels1_high v_search_levels1_wide v_search_levels1_folds v_search_levels1_wrong v_search_levels1_more v_search_levels1_rowOf v_search_levels1_colOf v_search_levels1_below v_search_levels1_face v_search_levels1_worn v_search_levels1_last v_search_levels1_bend v_search_levels1_tall v_search_levels2_rows v_search_levels2_cols v_search_levels2_high v_search_levels2_wide v_search_levels2_folds v_search_levels2_wrong v_search_levels2_more v_search_levels2_rowOf v_search_levels2_colOf v_search_levels2_below v_search_levels2_face v_search_levels2_worn v_search_levels2_last v_search_levels2_bend v_search_levels2_tall v_search_levels3_rows v_search_levels3_cols v_search_levels3_high v_search_levels3_wide v_search_levels3_folds v_search_levels3_wrong v_search_levels3_more v_search_levels3_rowOf v_search_levels3_colOf v_search_levels3_below v_search_levels3_face v_search_levels3_worn v_search_levels3_last v_search_levels3_bend v_search_levels3_tall v_search_path v_search_best v_strip_list v_strip_found v_strip_at v_changes_value v_changes_done v_changes_size v_changes_before v_changes_after v_foldings_size v_foldings_ran v_foldings_number v_foldings_kinds v_foldings_trace v_shelves0_holds v_shelves0_body v_shelves0_sort v_shelves0_size v_shelves0_items v_shelves1_holds v_shelves1_body v_shelves1_sort v_shelves1_size v_shelves1_items v_shelves2_holds v_shelves2_body v_shelves2_sort v_shelves2_size v_shelves2_items v_shelves3_holds v_shelves3_body v_shelves3_sort v_shelves3_size v_shelves3_items v_shelves4_holds v_shelves4_body v_shelves4_sort v_shelves4_size v_shelves4_items v_shelves5_holds v_shelves5_body v_shelves5_sort v_shelves5_size v_shelves5_items m_keptMany m_done m_rowsOf m_columnsOf m_folded m_wronged m_tapeMany m_textMany m_base m_at m_ends m_fault m_opened m_bentMany m_bentWrong m_moreWorn m_planned m_allWrong m_allWorn m_z m_wishedField m_isFound m_bestWrong m_bestWorn m_bestMany m_soughtBy m_sought m_soughtAt m_foundMany m_foundOrder m_isKept m_imageRows m_imageColumns m_imageFolded m_imageWronged m_bodies m_ran m_ownKind m_ownNumber m_limit m_changeWas m_changeIs m_shapeRows m_shapeColumns m_row m_column m_below m_face m_worn m_lastBend m_tape m_text m_names m_bends m_high m_to m_pileSize m_planLine m_planWay m_way1 m_bestWay m_order1 m_placeIn m_bodyKind m_trace m_shelf m_many m_items m_carried H locs u_0 u_1 u_2 u_3 u_4 u_5 u_6 u_7 u_8 u_9 u_10 u_11 u_12 u_13 u_14 u_15 u_16 u_17 u_18 t_0 t_1 t_2 t_3 t_4 t_5 t_6 t_7 hr_0 hr_1 hP hD hS
  obtain ⟨⟨r8, p_changes_value, p_changes_done, p_changes_size, p_changes_before, p_changes_after⟩, h8, q8⟩ := st8_limit (x1 := (xs (x3 + (1 : Int32)).toNatClampNeg)) (v_changes_value := v_changes_value) u_1
  have y_0 : gi_ch p_changes_done p_changes_size p_changes_before p_changes_after := q8
  obtain ⟨⟨r9, q_keptMany, q_done, q_limit, q_changeWas, q_changeIs⟩, h9, q9⟩ := st9_limit (x1 := (xs (x3 + (1 : Int32)).toNatClampNeg)) t_0
  have z_0 : gm_ch q_keptMany q_done q_limit q_changeWas q_changeIs := q9
  exact lc_1 C0 hX hbl hi_1 rfl h8 h9 hc1 hc2 hP hD hS hl (fun H locs hP hD hS => K v_hasImage v_now_rows v_now_cols v_now_high v_now_wide v_now_folds v_now_wrong v_now_more v_now_rowOf v_now_colOf v_now_below v_now_face v_now_worn v_now_last v_now_bend v_now_tall v_kept_rows v_kept_cols v_kept_high v_kept_wide v_kept_folds v_kept_wrong v_kept_more v_kept_rowOf v_kept_colOf v_kept_below v_kept_face v_kept_worn v_kept_last v_kept_bend v_kept_tall v_wearing_size v_wearing_stepCount v_wearing_draftCount v_wearing_place v_wearing_fault v_wearing_stacked v_wearing_tape v_wearing_steps v_wearing_draft v_wearing_stack v_planned_size v_planned_trial_rows v_planned_trial_cols v_planned_trial_high v_planned_trial_wide v_planned_trial_folds v_planned_trial_wrong v_planned_trial_more v_planned_trial_rowOf v_planned_trial_colOf v_planned_trial_below v_planned_trial_face v_planned_trial_worn v_planned_trial_last v_planned_trial_bend v_planned_trial_tall v_planned_lines v_planned_ways v_search_found v_search_wrong v_search_more v_search_folds v_search_wanted v_search_levels0_rows v_search_levels0_cols v_search_levels0_high v_search_levels0_wide v_search_levels0_folds v_search_levels0_wrong v_search_levels0_more v_search_levels0_rowOf v_search_levels0_colOf v_search_levels0_below v_search_levels0_face v_search_levels0_worn v_search_levels0_last v_search_levels0_bend v_search_levels0_tall v_search_levels1_rows v_search_levels1_cols v_search_levels1_high v_search_levels1_wide v_search_levels1_folds v_search_levels1_wrong v_search_levels1_more v_search_levels1_rowOf v_search_levels1_colOf v_search_levels1_below v_search_levels1_face v_search_levels1_worn v_search_levels1_last v_search_levels1_bend v_search_levels1_tall v_search_levels2_rows v_search_levels2_cols v_search_levels2_high v_search_levels2_wide v_search_levels2_folds v_search_levels2_wrong v_search_levels2_more v_search_levels2_rowOf v_search_levels2_colOf v_search_levels2_below v_search_levels2_face v_search_levels2_worn v_search_levels2_last v_search_levels2_bend v_search_levels2_tall v_search_levels3_rows v_search_levels3_cols v_search_levels3_high v_search_levels3_wide v_search_levels3_folds v_search_levels3_wrong v_search_levels3_more v_search_levels3_rowOf v_search_levels3_colOf v_search_levels3_below v_search_levels3_face v_search_levels3_worn v_search_levels3_last v_search_levels3_bend v_search_levels3_tall v_search_path v_search_best v_strip_list v_strip_found v_strip_at p_changes_value p_changes_done p_changes_size p_changes_before p_changes_after v_foldings_size v_foldings_ran v_foldings_number v_foldings_kinds v_foldings_trace v_shelves0_holds v_shelves0_body v_shelves0_sort v_shelves0_size v_shelves0_items v_shelves1_holds v_shelves1_body v_shelves1_sort v_shelves1_size v_shelves1_items v_shelves2_holds v_shelves2_body v_shelves2_sort v_shelves2_size v_shelves2_items v_shelves3_holds v_shelves3_body v_shelves3_sort v_shelves3_size v_shelves3_items v_shelves4_holds v_shelves4_body v_shelves4_sort v_shelves4_size v_shelves4_items v_shelves5_holds v_shelves5_body v_shelves5_sort v_shelves5_size v_shelves5_items q_keptMany q_done m_rowsOf m_columnsOf m_folded m_wronged m_tapeMany m_textMany m_base m_at m_ends m_fault m_opened m_bentMany m_bentWrong m_moreWorn m_planned m_allWrong m_allWorn m_z m_wishedField m_isFound m_bestWrong m_bestWorn m_bestMany m_soughtBy m_sought m_soughtAt m_foundMany m_foundOrder m_isKept m_imageRows m_imageColumns m_imageFolded m_imageWronged m_bodies m_ran m_ownKind m_ownNumber q_limit q_changeWas q_changeIs m_shapeRows m_shapeColumns m_row m_column m_below m_face m_worn m_lastBend m_tape m_text m_names m_bends m_high m_to m_pileSize m_planLine m_planWay m_way1 m_bestWay m_order1 m_placeIn m_bodyKind m_trace m_shelf m_many m_items m_carried H locs u_0 y_0 u_2 u_3 u_4 u_5 u_6 u_7 u_8 u_9 u_10 u_11 u_12 u_13 u_14 u_15 u_16 u_17 u_18 z_0 t_1 t_2 t_3 t_4 t_5 t_6 t_7 hr_0 hr_1 hP hD hS)
set_option maxHeartbeats 8000000 in
set_option maxRecDepth 100000 in
theorem ls_2 {p : Program} {l : Launch} {e : Env} {s : State} {m : MethodId} {below : List Frame} {meth : Method} {c : Code} {D : va_G} {cI cL cS cH : ClassId} {bb : Nat} {a b : Nat → Nat} {cells slots : Nat} {Q : State → Prop} {L : Nat} {xs : Nat → Int32} {x3 : Int32} {ls : Array Slot} (C0 : mm_Cx p s m #[Value.ref bb] meth c RL code 4 ret D (mm_T cI cL cS cH) (fun q => s.heap.size ≤ q)) (hX : va_X bb L xs s s.heap) (hbl : bb < s.heap.size) (hi_1 : vp_in (x3 + (1 : Int32)) L) (hc1 : cells ≤ room_1.cells) (hc2 : slots ≤ room_1.slots) (hl : lv_has ls 4 [(0, .ref bb), (1, .ref (a 0)), (2, .ref (b 0)), (3, .int x3)]) (K : lw_St p l e s m below meth c D cI cL cS cH bb a b cells slots Q 1391 ls) : lw_St p l e s m below meth c D cI cL cS cH bb a b cells slots Q 250 ls := by
  intro v_hasImage v_now_rows v_now_cols v_now_high v_now_wide v_now_folds v_now_wrong v_now_more v_now_rowOf v_now_colOf v_now_below v_now_face v_now_worn v_now_last v_now_bend v_now_tall v_kept_rows v_kept_cols v_kept_high v_kept_wide v_kept_folds v_kept_wrong v_kept_more v_kept_rowOf v_kept_colOf v_kept_below v_kept_face v_kept_worn v_kept_last v_kept_bend v_kept_tall v_wearing_size v_wearing_stepCount v_wearing_draftCount v_wearing_place v_wearing_fault v_wearing_stacked v_wearing_tape v_wearing_steps v_wearing_draft v_wearing_stack v_planned_size v_planned_trial_rows v_planned_trial_cols v_planned_trial_high v_planned_trial_wide v_planned_trial_folds v_planned_trial_wrong v_planned_trial_more v_planned_trial_rowOf v_planned_trial_colOf v_planned_trial_below v_planned_trial_face v_planned_trial_worn v_planned_trial_last v_planned_trial_bend v_planned_trial_tall v_planned_lines v_planned_ways v_search_found v_search_wrong v_search_more v_search_folds v_search_wanted v_search_levels0_rows v_search_levels0_cols v_search_levels0_high v_search_levels0_wide v_search_levels0_folds v_search_levels0_wrong v_search_levels0_more v_search_levels0_rowOf v_search_levels0_colOf v_search_levels0_below v_search_levels0_face v_search_levels0_worn v_search_levels0_last v_search_levels0_bend v_search_levels0_tall v_search_levels1_rows v_search_levels1_cols v_search_levels1_high v_search_levels1_wide v_search_levels1_folds v_search_levels1_wrong v_search_levels1_more v_search_levels1_rowOf v_search_levels1_colOf v_search_levels1_below v_search_levels1_face v_search_levels1_worn v_search_levels1_last v_search_levels1_bend v_search_levels1_tall v_search_levels2_rows v_search_levels2_cols v_search_levels2_high v_search_levels2_wide v_search_levels2_folds v_search_levels2_wrong v_search_levels2_more v_search_levels2_rowOf v_search_levels2_colOf v_search_levels2_below v_search_levels2_face v_search_levels2_worn v_search_levels2_last v_search_levels2_bend v_search_levels2_tall v_search_levels3_rows v_search_levels3_cols v_search_levels3_high v_search_levels3_wide v_search_levels3_folds v_search_levels3_wrong v_search_levels3_more v_search_levels3_rowOf v_search_levels3_colOf v_search_levels3_below v_search_levels3_face v_search_levels3_worn v_search_levels3_last v_search_levels3_bend v_search_levels3_tall v_search_path v_search_best v_strip_list v_strip_found v_strip_at v_changes_value v_changes_done v_changes_size v_changes_before v_changes_after v_foldings_size v_foldings_ran v_foldings_number v_foldings_kinds v_foldings_trace v_shelves0_holds v_shelves0_body v_shelves0_sort v_shelves0_size v_shelves0_items v_shelves1_holds v_shelves1_body v_shelves1_sort v_shelves1_size v_shelves1_items v_shelves2_holds v_shelves2_body v_shelves2_sort v_shelves2_size v_shelves2_items v_shelves3_holds v_shelves3_body v_shelves3_sort v_shelves3_size v_shelves3_items v_shelves4_holds v_shelves4_body v_shelves4_sort v_shelves4_size v_shelves4_items v_shelves5_holds v_shelves5_body v_shelves5_sort v_shelves5_size v_shelves5_items m_keptMany m_done m_rowsOf m_columnsOf m_folded m_wronged m_tapeMany m_textMany m_base m_at m_ends m_fault m_opened m_bentMany m_bentWrong m_moreWorn m_planned m_allWrong m_allWorn m_z m_wishedField m_isFound m_bestWrong m_bestWorn m_bestMany m_soughtBy m_sought m_soughtAt m_foundMany m_foundOrder m_isKept m_imageRows m_imageColumns m_imageFolded m_imageWronged m_bodies m_ran m_ownKind m_ownNumber m_limit m_changeWas m_changeIs m_shapeRows m_shapeColumns m_row m_column m_below m_face m_worn m_lastBend m_tape m_text m_names m_bends m_high m_to m_pileSize m_planLine m_planWay m_way1 m_bestWay m_order1 m_placeIn m_bodyKind m_trace m_shelf m_many m_items m_carried H locs u_0 u_1 u_2 u_3 u_4 u_5 u_6 u_7 u_8 u_9 u_10 u_11 u_12 u_13 u_14 u_15 u_16 u_17 u_18 t_0 t_1 t_2 t_3 t_4 t_5 t_6 t_7 hr_0 hr_1 hP hD hS
  obtain ⟨⟨r8, p_wearing_size, p_wearing_tape⟩, h8, q8⟩ := st8_feed (x1 := (xs (x3 + (1 : Int32)).toNatClampNeg)) u_2
  have y_0 : gi_la p_wearing_size v_wearing_stepCount v_wearing_draftCount p_wearing_tape v_wearing_steps v_wearing_draft v_wearing_stack := q8
  obtain ⟨⟨r9, q_tapeMany, q_tape⟩, h9, q9⟩ := st9_feed (x1 := (xs (x3 + (1 : Int32)).toNatClampNeg)) t_2
  have z_0 : gm_tx q_tapeMany m_textMany q_tape m_text m_names m_bends m_high m_to m_pileSize := q9
  exact lc_2 C0 hX hbl hi_1 rfl h8 h9 hc1 hc2 hP hD hS hl (fun H locs hP hD hS => K v_hasImage v_now_rows v_now_cols v_now_high v_now_wide v_now_folds v_now_wrong v_now_more v_now_rowOf v_now_colOf v_now_below v_now_face v_now_worn v_now_last v_now_bend v_now_tall v_kept_rows v_kept_cols v_kept_high v_kept_wide v_kept_folds v_kept_wrong v_kept_more v_kept_rowOf v_kept_colOf v_kept_below v_kept_face v_kept_worn v_kept_last v_kept_bend v_kept_tall p_wearing_size v_wearing_stepCount v_wearing_draftCount v_wearing_place v_wearing_fault v_wearing_stacked p_wearing_tape v_wearing_steps v_wearing_draft v_wearing_stack v_planned_size v_planned_trial_rows v_planned_trial_cols v_planned_trial_high v_planned_trial_wide v_planned_trial_folds v_planned_trial_wrong v_planned_trial_more v_planned_trial_rowOf v_planned_trial_colOf v_planned_trial_below v_planned_trial_face v_planned_trial_worn v_planned_trial_last v_planned_trial_bend v_planned_trial_tall v_planned_lines v_planned_ways v_search_found v_search_wrong v_search_more v_search_folds v_search_wanted v_search_levels0_rows v_search_levels0_cols v_search_levels0_high v_search_levels0_wide v_search_levels0_folds v_search_levels0_wrong v_search_levels0_more v_search_levels0_rowOf v_search_levels0_colOf v_search_levels0_below v_search_levels0_face v_search_levels0_worn v_search_levels0_last v_search_levels0_bend v_search_levels0_tall v_search_levels1_rows v_search_levels1_cols v_search_levels1_high v_search_levels1_wide v_search_levels1_folds v_search_levels1_wrong v_search_levels1_more v_search_levels1_rowOf v_search_levels1_colOf v_search_levels1_below v_search_levels1_face v_search_levels1_worn v_search_levels1_last v_search_levels1_bend v_search_levels1_tall v_search_levels2_rows v_search_levels2_cols v_search_levels2_high v_search_levels2_wide v_search_levels2_folds v_search_levels2_wrong v_search_levels2_more v_search_levels2_rowOf v_search_levels2_colOf v_search_levels2_below v_search_levels2_face v_search_levels2_worn v_search_levels2_last v_search_levels2_bend v_search_levels2_tall v_search_levels3_rows v_search_levels3_cols v_search_levels3_high v_search_levels3_wide v_search_levels3_folds v_search_levels3_wrong v_search_levels3_more v_search_levels3_rowOf v_search_levels3_colOf v_search_levels3_below v_search_levels3_face v_search_levels3_worn v_search_levels3_last v_search_levels3_bend v_search_levels3_tall v_search_path v_search_best v_strip_list v_strip_found v_strip_at v_changes_value v_changes_done v_changes_size v_changes_before v_changes_after v_foldings_size v_foldings_ran v_foldings_number v_foldings_kinds v_foldings_trace v_shelves0_holds v_shelves0_body v_shelves0_sort v_shelves0_size v_shelves0_items v_shelves1_holds v_shelves1_body v_shelves1_sort v_shelves1_size v_shelves1_items v_shelves2_holds v_shelves2_body v_shelves2_sort v_shelves2_size v_shelves2_items v_shelves3_holds v_shelves3_body v_shelves3_sort v_shelves3_size v_shelves3_items v_shelves4_holds v_shelves4_body v_shelves4_sort v_shelves4_size v_shelves4_items v_shelves5_holds v_shelves5_body v_shelves5_sort v_shelves5_size v_shelves5_items m_keptMany m_done m_rowsOf m_columnsOf m_folded m_wronged q_tapeMany m_textMany m_base m_at m_ends m_fault m_opened m_bentMany m_bentWrong m_moreWorn m_planned m_allWrong m_allWorn m_z m_wishedField m_isFound m_bestWrong m_bestWorn m_bestMany m_soughtBy m_sought m_soughtAt m_foundMany m_foundOrder m_isKept m_imageRows m_imageColumns m_imageFolded m_imageWronged m_bodies m_ran m_ownKind m_ownNumber m_limit m_changeWas m_changeIs m_shapeRows m_shapeColumns m_row m_column m_below m_face m_worn m_lastBend q_tape m_text m_names m_bends m_high m_to m_pileSize m_planLine m_planWay m_way1 m_bestWay m_order1 m_placeIn m_bodyKind m_trace m_shelf m_many m_items m_carried H locs u_0 u_1 y_0 u_3 u_4 u_5 u_6 u_7 u_8 u_9 u_10 u_11 u_12 u_13 u_14 u_15 u_16 u_17 u_18 t_0 t_1 z_0 t_3 t_4 t_5 t_6 t_7 hr_0 hr_1 hP hD hS)
set_option maxHeartbeats 8000000 in
set_option maxRecDepth 100000 in
theorem ls_3 {p : Program} {l : Launch} {e : Env} {s : State} {m : MethodId} {below : List Frame} {meth : Method} {c : Code} {D : va_G} {cI cL cS cH : ClassId} {bb : Nat} {a b : Nat → Nat} {cells slots : Nat} {Q : State → Prop} {L : Nat} {xs : Nat → Int32} {x3 : Int32} {ls : Array Slot} (C0 : mm_Cx p s m #[Value.ref bb] meth c RL code 4 ret D (mm_T cI cL cS cH) (fun q => s.heap.size ≤ q)) (hX : va_X bb L xs s s.heap) (hbl : bb < s.heap.size)  (hc1 : cells ≤ room_1.cells) (hc2 : slots ≤ room_1.slots) (hl : lv_has ls 4 [(0, .ref bb), (1, .ref (a 0)), (2, .ref (b 0)), (3, .int x3)]) (K : lw_St p l e s m below meth c D cI cL cS cH bb a b cells slots Q 1391 ls) : lw_St p l e s m below meth c D cI cL cS cH bb a b cells slots Q 273 ls := by
  intro v_hasImage v_now_rows v_now_cols v_now_high v_now_wide v_now_folds v_now_wrong v_now_more v_now_rowOf v_now_colOf v_now_below v_now_face v_now_worn v_now_last v_now_bend v_now_tall v_kept_rows v_kept_cols v_kept_high v_kept_wide v_kept_folds v_kept_wrong v_kept_more v_kept_rowOf v_kept_colOf v_kept_below v_kept_face v_kept_worn v_kept_last v_kept_bend v_kept_tall v_wearing_size v_wearing_stepCount v_wearing_draftCount v_wearing_place v_wearing_fault v_wearing_stacked v_wearing_tape v_wearing_steps v_wearing_draft v_wearing_stack v_planned_size v_planned_trial_rows v_planned_trial_cols v_planned_trial_high v_planned_trial_wide v_planned_trial_folds v_planned_trial_wrong v_planned_trial_more v_planned_trial_rowOf v_planned_trial_colOf v_planned_trial_below v_planned_trial_face v_planned_trial_worn v_planned_trial_last v_planned_trial_bend v_planned_trial_tall v_planned_lines v_planned_ways v_search_found v_search_wrong v_search_more v_search_folds v_search_wanted v_search_levels0_rows v_search_levels0_cols v_search_levels0_high v_search_levels0_wide v_search_levels0_folds v_search_levels0_wrong v_search_levels0_more v_search_levels0_rowOf v_search_levels0_colOf v_search_levels0_below v_search_levels0_face v_search_levels0_worn v_search_levels0_last v_search_levels0_bend v_search_levels0_tall v_search_levels1_rows v_search_levels1_cols v_search_levels1_high v_search_levels1_wide v_search_levels1_folds v_search_levels1_wrong v_search_levels1_more v_search_levels1_rowOf v_search_levels1_colOf v_search_levels1_below v_search_levels1_face v_search_levels1_worn v_search_levels1_last v_search_levels1_bend v_search_levels1_tall v_search_levels2_rows v_search_levels2_cols v_search_levels2_high v_search_levels2_wide v_search_levels2_folds v_search_levels2_wrong v_search_levels2_more v_search_levels2_rowOf v_search_levels2_colOf v_search_levels2_below v_search_levels2_face v_search_levels2_worn v_search_levels2_last v_search_levels2_bend v_search_levels2_tall v_search_levels3_rows v_search_levels3_cols v_search_levels3_high v_search_levels3_wide v_search_levels3_folds v_search_levels3_wrong v_search_levels3_more v_search_levels3_rowOf v_search_levels3_colOf v_search_levels3_below v_search_levels3_face v_search_levels3_worn v_search_levels3_last v_search_levels3_bend v_search_levels3_tall v_search_path v_search_best v_strip_list v_strip_found v_strip_at v_changes_value v_changes_done v_changes_size v_changes_before v_changes_after v_foldings_size v_foldings_ran v_foldings_number v_foldings_kinds v_foldings_trace v_shelves0_holds v_shelves0_body v_shelves0_sort v_shelves0_size v_shelves0_items v_shelves1_holds v_shelves1_body v_shelves1_sort v_shelves1_size v_shelves1_items v_shelves2_holds v_shelves2_body v_shelves2_sort v_shelves2_size v_shelves2_items v_shelves3_holds v_shelves3_body v_shelves3_sort v_shelves3_size v_shelves3_items v_shelves4_holds v_shelves4_body v_shelves4_sort v_shelves4_size v_shelves4_items v_shelves5_holds v_shelves5_body v_shelves5_sort v_shelves5_size v_shelves5_items m_keptMany m_done m_rowsOf m_columnsOf m_folded m_wronged m_tapeMany m_textMany m_base m_at m_ends m_fault m_opened m_bentMany m_bentWrong m_moreWorn m_planned m_allWrong m_allWorn m_z m_wishedField m_isFound m_bestWrong m_bestWorn m_bestMany m_soughtBy m_sought m_soughtAt m_foundMany m_foundOrder m_isKept m_imageRows m_imageColumns m_imageFolded m_imageWronged m_bodies m_ran m_ownKind m_ownNumber m_limit m_changeWas m_changeIs m_shapeRows m_shapeColumns m_row m_column m_below m_face m_worn m_lastBend m_tape m_text m_names m_bends m_high m_to m_pileSize m_planLine m_planWay m_way1 m_bestWay m_order1 m_placeIn m_bodyKind m_trace m_shelf m_many m_items m_carried H locs u_0 u_1 u_2 u_3 u_4 u_5 u_6 u_7 u_8 u_9 u_10 u_11 u_12 u_13 u_14 u_15 u_16 u_17 u_18 t_0 t_1 t_2 t_3 t_4 t_5 t_6 t_7 hr_0 hr_1 hP hD hS
  obtain ⟨⟨r8, p_wearing_size, p_wearing_stepCount, p_wearing_draftCount, p_wearing_place, p_wearing_fault, p_wearing_steps, p_wearing_draft⟩, h8, q8⟩ := st8_law (v_wearing_place := v_wearing_place) (v_wearing_fault := v_wearing_fault) u_2
  have y_0 : gi_la p_wearing_size p_wearing_stepCount p_wearing_draftCount v_wearing_tape p_wearing_steps p_wearing_draft v_wearing_stack := q8
  obtain ⟨⟨r9, q_tapeMany, q_textMany, q_base, q_at, q_ends, q_fault, q_opened, q_text⟩, h9, q9⟩ := st9_law (v_base := m_base) (v_at := m_at) (v_ends := m_ends) (v_fault := m_fault) (v_opened := m_opened) t_2
  have z_0 : gm_tx q_tapeMany q_textMany m_tape q_text m_names m_bends m_high m_to m_pileSize := q9
  exact lc_3 C0 hX hbl  h8 h9 hc1 hc2 hP hD hS hl (fun H locs hP hD hS => K v_hasImage v_now_rows v_now_cols v_now_high v_now_wide v_now_folds v_now_wrong v_now_more v_now_rowOf v_now_colOf v_now_below v_now_face v_now_worn v_now_last v_now_bend v_now_tall v_kept_rows v_kept_cols v_kept_high v_kept_wide v_kept_folds v_kept_wrong v_kept_more v_kept_rowOf v_kept_colOf v_kept_below v_kept_face v_kept_worn v_kept_last v_kept_bend v_kept_tall p_wearing_size p_wearing_stepCount p_wearing_draftCount p_wearing_place p_wearing_fault v_wearing_stacked v_wearing_tape p_wearing_steps p_wearing_draft v_wearing_stack v_planned_size v_planned_trial_rows v_planned_trial_cols v_planned_trial_high v_planned_trial_wide v_planned_trial_folds v_planned_trial_wrong v_planned_trial_more v_planned_trial_rowOf v_planned_trial_colOf v_planned_trial_below v_planned_trial_face v_planned_trial_worn v_planned_trial_last v_planned_trial_bend v_planned_trial_tall v_planned_lines v_planned_ways v_search_found v_search_wrong v_search_more v_search_folds v_search_wanted v_search_levels0_rows v_search_levels0_cols v_search_levels0_high v_search_levels0_wide v_search_levels0_folds v_search_levels0_wrong v_search_levels0_more v_search_levels0_rowOf v_search_levels0_colOf v_search_levels0_below v_search_levels0_face v_search_levels0_worn v_search_levels0_last v_search_levels0_bend v_search_levels0_tall v_search_levels1_rows v_search_levels1_cols v_search_levels1_high v_search_levels1_wide v_search_levels1_folds v_search_levels1_wrong v_search_levels1_more v_search_levels1_rowOf v_search_levels1_colOf v_search_levels1_below v_search_levels1_face v_search_levels1_worn v_search_levels1_last v_search_levels1_bend v_search_levels1_tall v_search_levels2_rows v_search_levels2_cols v_search_levels2_high v_search_levels2_wide v_search_levels2_folds v_search_levels2_wrong v_search_levels2_more v_search_levels2_rowOf v_search_levels2_colOf v_search_levels2_below v_search_levels2_face v_search_levels2_worn v_search_levels2_last v_search_levels2_bend v_search_levels2_tall v_search_levels3_rows v_search_levels3_cols v_search_levels3_high v_search_levels3_wide v_search_levels3_folds v_search_levels3_wrong v_search_levels3_more v_search_levels3_rowOf v_search_levels3_colOf v_search_levels3_below v_search_levels3_face v_search_levels3_worn v_search_levels3_last v_search_levels3_bend v_search_levels3_tall v_search_path v_search_best v_strip_list v_strip_found v_strip_at v_changes_value v_changes_done v_changes_size v_changes_before v_changes_after v_foldings_size v_foldings_ran v_foldings_number v_foldings_kinds v_foldings_trace v_shelves0_holds v_shelves0_body v_shelves0_sort v_shelves0_size v_shelves0_items v_shelves1_holds v_shelves1_body v_shelves1_sort v_shelves1_size v_shelves1_items v_shelves2_holds v_shelves2_body v_shelves2_sort v_shelves2_size v_shelves2_items v_shelves3_holds v_shelves3_body v_shelves3_sort v_shelves3_size v_shelves3_items v_shelves4_holds v_shelves4_body v_shelves4_sort v_shelves4_size v_shelves4_items v_shelves5_holds v_shelves5_body v_shelves5_sort v_shelves5_size v_shelves5_items m_keptMany m_done m_rowsOf m_columnsOf m_folded m_wronged q_tapeMany q_textMany q_base q_at q_ends q_fault q_opened m_bentMany m_bentWrong m_moreWorn m_planned m_allWrong m_allWorn m_z m_wishedField m_isFound m_bestWrong m_bestWorn m_bestMany m_soughtBy m_sought m_soughtAt m_foundMany m_foundOrder m_isKept m_imageRows m_imageColumns m_imageFolded m_imageWronged m_bodies m_ran m_ownKind m_ownNumber m_limit m_changeWas m_changeIs m_shapeRows m_shapeColumns m_row m_column m_below m_face m_worn m_lastBend m_tape q_text m_names m_bends m_high m_to m_pileSize m_planLine m_planWay m_way1 m_bestWay m_order1 m_placeIn m_bodyKind m_trace m_shelf m_many m_items m_carried H locs u_0 u_1 y_0 u_3 u_4 u_5 u_6 u_7 u_8 u_9 u_10 u_11 u_12 u_13 u_14 u_15 u_16 u_17 u_18 t_0 t_1 z_0 t_3 t_4 t_5 t_6 t_7 hr_0 hr_1 hP hD hS)
set_option maxHeartbeats 8000000 in
set_option maxRecDepth 100000 in
theorem ls_4 {p : Program} {l : Launch} {e : Env} {s : State} {m : MethodId} {below : List Frame} {meth : Method} {c : Code} {D : va_G} {cI cL cS cH : ClassId} {bb : Nat} {a b : Nat → Nat} {cells slots : Nat} {Q : State → Prop} {L : Nat} {xs : Nat → Int32} {x3 : Int32} {ls : Array Slot} (C0 : mm_Cx p s m #[Value.ref bb] meth c RL code 4 ret D (mm_T cI cL cS cH) (fun q => s.heap.size ≤ q)) (hX : va_X bb L xs s s.heap) (hbl : bb < s.heap.size) (hi_1 : vp_in (x3 + (1 : Int32)) L) (hi_2 : vp_in (x3 + (2 : Int32)) L) (hc1 : cells ≤ room_1.cells) (hc2 : slots ≤ room_1.slots) (hl : lv_has ls 4 [(0, .ref bb), (1, .ref (a 0)), (2, .ref (b 0)), (3, .int x3)]) (K : lw_St p l e s m below meth c D cI cL cS cH bb a b cells slots Q 1391 ls) : lw_St p l e s m below meth c D cI cL cS cH bb a b cells slots Q 286 ls := by
  intro v_hasImage v_now_rows v_now_cols v_now_high v_now_wide v_now_folds v_now_wrong v_now_more v_now_rowOf v_now_colOf v_now_below v_now_face v_now_worn v_now_last v_now_bend v_now_tall v_kept_rows v_kept_cols v_kept_high v_kept_wide v_kept_folds v_kept_wrong v_kept_more v_kept_rowOf v_kept_colOf v_kept_below v_kept_face v_kept_worn v_kept_last v_kept_bend v_kept_tall v_wearing_size v_wearing_stepCount v_wearing_draftCount v_wearing_place v_wearing_fault v_wearing_stacked v_wearing_tape v_wearing_steps v_wearing_draft v_wearing_stack v_planned_size v_planned_trial_rows v_planned_trial_cols v_planned_trial_high v_planned_trial_wide v_planned_trial_folds v_planned_trial_wrong v_planned_trial_more v_planned_trial_rowOf v_planned_trial_colOf v_planned_trial_below v_planned_trial_face v_planned_trial_worn v_planned_trial_last v_planned_trial_bend v_planned_trial_tall v_planned_lines v_planned_ways v_search_found v_search_wrong v_search_more v_search_folds v_search_wanted v_search_levels0_rows v_search_levels0_cols v_search_levels0_high v_search_levels0_wide v_search_levels0_folds v_search_levels0_wrong v_search_levels0_more v_search_levels0_rowOf v_search_levels0_colOf v_search_levels0_below v_search_levels0_face v_search_levels0_worn v_search_levels0_last v_search_levels0_bend v_search_levels0_tall v_search_levels1_rows v_search_levels1_cols v_search_levels1_high v_search_levels1_wide v_search_levels1_folds v_search_levels1_wrong v_search_levels1_more v_search_levels1_rowOf v_search_levels1_colOf v_search_levels1_below v_search_levels1_face v_search_levels1_worn v_search_levels1_last v_search_levels1_bend v_search_levels1_tall v_search_levels2_rows v_search_levels2_cols v_search_levels2_high v_search_levels2_wide v_search_levels2_folds v_search_levels2_wrong v_search_levels2_more v_search_levels2_rowOf v_search_levels2_colOf v_search_levels2_below v_search_levels2_face v_search_levels2_worn v_search_levels2_last v_search_levels2_bend v_search_levels2_tall v_search_levels3_rows v_search_levels3_cols v_search_levels3_high v_search_levels3_wide v_search_levels3_folds v_search_levels3_wrong v_search_levels3_more v_search_levels3_rowOf v_search_levels3_colOf v_search_levels3_below v_search_levels3_face v_search_levels3_worn v_search_levels3_last v_search_levels3_bend v_search_levels3_tall v_search_path v_search_best v_strip_list v_strip_found v_strip_at v_changes_value v_changes_done v_changes_size v_changes_before v_changes_after v_foldings_size v_foldings_ran v_foldings_number v_foldings_kinds v_foldings_trace v_shelves0_holds v_shelves0_body v_shelves0_sort v_shelves0_size v_shelves0_items v_shelves1_holds v_shelves1_body v_shelves1_sort v_shelves1_size v_shelves1_items v_shelves2_holds v_shelves2_body v_shelves2_sort v_shelves2_size v_shelves2_items v_shelves3_holds v_shelves3_body v_shelves3_sort v_shelves3_size v_shelves3_items v_shelves4_holds v_shelves4_body v_shelves4_sort v_shelves4_size v_shelves4_items v_shelves5_holds v_shelves5_body v_shelves5_sort v_shelves5_size v_shelves5_items m_keptMany m_done m_rowsOf m_columnsOf m_folded m_wronged m_tapeMany m_textMany m_base m_at m_ends m_fault m_opened m_bentMany m_bentWrong m_moreWorn m_planned m_allWrong m_allWorn m_z m_wishedField m_isFound m_bestWrong m_bestWorn m_bestMany m_soughtBy m_sought m_soughtAt m_foundMany m_foundOrder m_isKept m_imageRows m_imageColumns m_imageFolded m_imageWronged m_bodies m_ran m_ownKind m_ownNumber m_limit m_changeWas m_changeIs m_shapeRows m_shapeColumns m_row m_column m_below m_face m_worn m_lastBend m_tape m_text m_names m_bends m_high m_to m_pileSize m_planLine m_planWay m_way1 m_bestWay m_order1 m_placeIn m_bodyKind m_trace m_shelf m_many m_items m_carried H locs u_0 u_1 u_2 u_3 u_4 u_5 u_6 u_7 u_8 u_9 u_10 u_11 u_12 u_13 u_14 u_15 u_16 u_17 u_18 t_0 t_1 t_2 t_3 t_4 t_5 t_6 t_7 hr_0 hr_1 hP hD hS
  obtain ⟨r8, p_now_high, p_now_wide, p_now_folds, p_now_wrong, p_now_more, p_now_rowOf, p_now_colOf, p_now_below, p_now_face, p_now_worn, p_now_last, p_now_bend, p_now_tall, p_wearing_stacked, p_wearing_stack, r9, q_folded, q_wronged, q_base, q_at, q_ends, q_fault, q_opened, q_bentMany, q_bentWrong, q_moreWorn, q_shapeRows, q_shapeColumns, q_row, q_column, q_below, q_face, q_worn, q_lastBend, q_names, q_bends, q_high, q_to, q_pileSize, h8, h9, y_0, y_1, z_0, z_1, w_0, w_1⟩ := rs_fold_bw (x1 := (xs (x3 + (1 : Int32)).toNatClampNeg)) (x2 := (xs (x3 + (2 : Int32)).toNatClampNeg)) (v_now_folds := v_now_folds) (v_now_wrong := v_now_wrong) (v_now_more := v_now_more) (v_wearing_stacked := v_wearing_stacked) (v_changes_value := v_changes_value) (m_folded := m_folded) (m_wronged := m_wronged) (m_base := m_base) (m_at := m_at) (m_ends := m_ends) (m_fault := m_fault) (m_opened := m_opened) (m_bentMany := m_bentMany) (m_bentWrong := m_bentWrong) (m_moreWorn := m_moreWorn) u_0 u_2 t_0 t_1 t_2 hr_0 hr_1
  exact lc_4 C0 hX hbl hi_1 rfl hi_2 rfl h8 h9 hc1 hc2 hP hD hS hl (fun H locs hP hD hS => K v_hasImage v_now_rows v_now_cols p_now_high p_now_wide p_now_folds p_now_wrong p_now_more p_now_rowOf p_now_colOf p_now_below p_now_face p_now_worn p_now_last p_now_bend p_now_tall v_kept_rows v_kept_cols v_kept_high v_kept_wide v_kept_folds v_kept_wrong v_kept_more v_kept_rowOf v_kept_colOf v_kept_below v_kept_face v_kept_worn v_kept_last v_kept_bend v_kept_tall v_wearing_size v_wearing_stepCount v_wearing_draftCount v_wearing_place v_wearing_fault p_wearing_stacked v_wearing_tape v_wearing_steps v_wearing_draft p_wearing_stack v_planned_size v_planned_trial_rows v_planned_trial_cols v_planned_trial_high v_planned_trial_wide v_planned_trial_folds v_planned_trial_wrong v_planned_trial_more v_planned_trial_rowOf v_planned_trial_colOf v_planned_trial_below v_planned_trial_face v_planned_trial_worn v_planned_trial_last v_planned_trial_bend v_planned_trial_tall v_planned_lines v_planned_ways v_search_found v_search_wrong v_search_more v_search_folds v_search_wanted v_search_levels0_rows v_search_levels0_cols v_search_levels0_high v_search_levels0_wide v_search_levels0_folds v_search_levels0_wrong v_search_levels0_more v_search_levels0_rowOf v_search_levels0_colOf v_search_levels0_below v_search_levels0_face v_search_levels0_worn v_search_levels0_last v_search_levels0_bend v_search_levels0_tall v_search_levels1_rows v_search_levels1_cols v_search_levels1_high v_search_levels1_wide v_search_levels1_folds v_search_levels1_wrong v_search_levels1_more v_search_levels1_rowOf v_search_levels1_colOf v_search_levels1_below v_search_levels1_face v_search_levels1_worn v_search_levels1_last v_search_levels1_bend v_search_levels1_tall v_search_levels2_rows v_search_levels2_cols v_search_levels2_high v_search_levels2_wide v_search_levels2_folds v_search_levels2_wrong v_search_levels2_more v_search_levels2_rowOf v_search_levels2_colOf v_search_levels2_below v_search_levels2_face v_search_levels2_worn v_search_levels2_last v_search_levels2_bend v_search_levels2_tall v_search_levels3_rows v_search_levels3_cols v_search_levels3_high v_search_levels3_wide v_search_levels3_folds v_search_levels3_wrong v_search_levels3_more v_search_levels3_rowOf v_search_levels3_colOf v_search_levels3_below v_search_levels3_face v_search_levels3_worn v_search_levels3_last v_search_levels3_bend v_search_levels3_tall v_search_path v_search_best v_strip_list v_strip_found v_strip_at v_changes_value v_changes_done v_changes_size v_changes_before v_changes_after v_foldings_size v_foldings_ran v_foldings_number v_foldings_kinds v_foldings_trace v_shelves0_holds v_shelves0_body v_shelves0_sort v_shelves0_size v_shelves0_items v_shelves1_holds v_shelves1_body v_shelves1_sort v_shelves1_size v_shelves1_items v_shelves2_holds v_shelves2_body v_shelves2_sort v_shelves2_size v_shelves2_items v_shelves3_holds v_shelves3_body v_shelves3_sort v_shelves3_size v_shelves3_items v_shelves4_holds v_shelves4_body v_shelves4_sort v_shelves4_size v_shelves4_items v_shelves5_holds v_shelves5_body v_shelves5_sort v_shelves5_size v_shelves5_items m_keptMany m_done m_rowsOf m_columnsOf q_folded q_wronged m_tapeMany m_textMany q_base q_at q_ends q_fault q_opened q_bentMany q_bentWrong q_moreWorn m_planned m_allWrong m_allWorn m_z m_wishedField m_isFound m_bestWrong m_bestWorn m_bestMany m_soughtBy m_sought m_soughtAt m_foundMany m_foundOrder m_isKept m_imageRows m_imageColumns m_imageFolded m_imageWronged m_bodies m_ran m_ownKind m_ownNumber m_limit m_changeWas m_changeIs q_shapeRows q_shapeColumns q_row q_column q_below q_face q_worn q_lastBend m_tape m_text q_names q_bends q_high q_to q_pileSize m_planLine m_planWay m_way1 m_bestWay m_order1 m_placeIn m_bodyKind m_trace m_shelf m_many m_items m_carried H locs y_0 u_1 y_1 u_3 u_4 u_5 u_6 u_7 u_8 u_9 u_10 u_11 u_12 u_13 u_14 u_15 u_16 u_17 u_18 t_0 z_0 z_1 t_3 t_4 t_5 t_6 t_7 w_0 w_1 hP hD hS)
set_option maxHeartbeats 8000000 in
set_option maxRecDepth 100000 in
theorem ls_5 {p : Program} {l : Launch} {e : Env} {s : State} {m : MethodId} {below : List Frame} {meth : Method} {c : Code} {D : va_G} {cI cL cS cH : ClassId} {bb : Nat} {a b : Nat → Nat} {cells slots : Nat} {Q : State → Prop} {L : Nat} {xs : Nat → Int32} {x3 : Int32} {ls : Array Slot} (C0 : mm_Cx p s m #[Value.ref bb] meth c RL code 4 ret D (mm_T cI cL cS cH) (fun q => s.heap.size ≤ q)) (hX : va_X bb L xs s s.heap) (hbl : bb < s.heap.size)  (hc1 : cells ≤ room_1.cells) (hc2 : slots ≤ room_1.slots) (hl : lv_has ls 4 [(0, .ref bb), (1, .ref (a 0)), (2, .ref (b 0)), (3, .int x3)]) (K : lw_St p l e s m below meth c D cI cL cS cH bb a b cells slots Q 1391 ls) : lw_St p l e s m below meth c D cI cL cS cH bb a b cells slots Q 319 ls := by
  intro v_hasImage v_now_rows v_now_cols v_now_high v_now_wide v_now_folds v_now_wrong v_now_more v_now_rowOf v_now_colOf v_now_below v_now_face v_now_worn v_now_last v_now_bend v_now_tall v_kept_rows v_kept_cols v_kept_high v_kept_wide v_kept_folds v_kept_wrong v_kept_more v_kept_rowOf v_kept_colOf v_kept_below v_kept_face v_kept_worn v_kept_last v_kept_bend v_kept_tall v_wearing_size v_wearing_stepCount v_wearing_draftCount v_wearing_place v_wearing_fault v_wearing_stacked v_wearing_tape v_wearing_steps v_wearing_draft v_wearing_stack v_planned_size v_planned_trial_rows v_planned_trial_cols v_planned_trial_high v_planned_trial_wide v_planned_trial_folds v_planned_trial_wrong v_planned_trial_more v_planned_trial_rowOf v_planned_trial_colOf v_planned_trial_below v_planned_trial_face v_planned_trial_worn v_planned_trial_last v_planned_trial_bend v_planned_trial_tall v_planned_lines v_planned_ways v_search_found v_search_wrong v_search_more v_search_folds v_search_wanted v_search_levels0_rows v_search_levels0_cols v_search_levels0_high v_search_levels0_wide v_search_levels0_folds v_search_levels0_wrong v_search_levels0_more v_search_levels0_rowOf v_search_levels0_colOf v_search_levels0_below v_search_levels0_face v_search_levels0_worn v_search_levels0_last v_search_levels0_bend v_search_levels0_tall v_search_levels1_rows v_search_levels1_cols v_search_levels1_high v_search_levels1_wide v_search_levels1_folds v_search_levels1_wrong v_search_levels1_more v_search_levels1_rowOf v_search_levels1_colOf v_search_levels1_below v_search_levels1_face v_search_levels1_worn v_search_levels1_last v_search_levels1_bend v_search_levels1_tall v_search_levels2_rows v_search_levels2_cols v_search_levels2_high v_search_levels2_wide v_search_levels2_folds v_search_levels2_wrong v_search_levels2_more v_search_levels2_rowOf v_search_levels2_colOf v_search_levels2_below v_search_levels2_face v_search_levels2_worn v_search_levels2_last v_search_levels2_bend v_search_levels2_tall v_search_levels3_rows v_search_levels3_cols v_search_levels3_high v_search_levels3_wide v_search_levels3_folds v_search_levels3_wrong v_search_levels3_more v_search_levels3_rowOf v_search_levels3_colOf v_search_levels3_below v_search_levels3_face v_search_levels3_worn v_search_levels3_last v_search_levels3_bend v_search_levels3_tall v_search_path v_search_best v_strip_list v_strip_found v_strip_at v_changes_value v_changes_done v_changes_size v_changes_before v_changes_after v_foldings_size v_foldings_ran v_foldings_number v_foldings_kinds v_foldings_trace v_shelves0_holds v_shelves0_body v_shelves0_sort v_shelves0_size v_shelves0_items v_shelves1_holds v_shelves1_body v_shelves1_sort v_shelves1_size v_shelves1_items v_shelves2_holds v_shelves2_body v_shelves2_sort v_shelves2_size v_shelves2_items v_shelves3_holds v_shelves3_body v_shelves3_sort v_shelves3_size v_shelves3_items v_shelves4_holds v_shelves4_body v_shelves4_sort v_shelves4_size v_shelves4_items v_shelves5_holds v_shelves5_body v_shelves5_sort v_shelves5_size v_shelves5_items m_keptMany m_done m_rowsOf m_columnsOf m_folded m_wronged m_tapeMany m_textMany m_base m_at m_ends m_fault m_opened m_bentMany m_bentWrong m_moreWorn m_planned m_allWrong m_allWorn m_z m_wishedField m_isFound m_bestWrong m_bestWorn m_bestMany m_soughtBy m_sought m_soughtAt m_foundMany m_foundOrder m_isKept m_imageRows m_imageColumns m_imageFolded m_imageWronged m_bodies m_ran m_ownKind m_ownNumber m_limit m_changeWas m_changeIs m_shapeRows m_shapeColumns m_row m_column m_below m_face m_worn m_lastBend m_tape m_text m_names m_bends m_high m_to m_pileSize m_planLine m_planWay m_way1 m_bestWay m_order1 m_placeIn m_bodyKind m_trace m_shelf m_many m_items m_carried H locs u_0 u_1 u_2 u_3 u_4 u_5 u_6 u_7 u_8 u_9 u_10 u_11 u_12 u_13 u_14 u_15 u_16 u_17 u_18 t_0 t_1 t_2 t_3 t_4 t_5 t_6 t_7 hr_0 hr_1 hP hD hS
  obtain ⟨r, p_now_high, p_now_wide, p_now_rowOf, p_now_colOf, p_now_below, p_now_face, q_shapeRows, q_shapeColumns, q_row, q_column, q_below, q_face, h8, h9, y_0, z_0, w_0, w_1⟩ := rs_flat_bw  u_0 t_1 hr_0 hr_1
  exact lc_5 C0 hX hbl  h8 h9 hc1 hc2 hP hD hS hl (fun H locs hP hD hS => K v_hasImage v_now_rows v_now_cols p_now_high p_now_wide v_now_folds v_now_wrong v_now_more p_now_rowOf p_now_colOf p_now_below p_now_face v_now_worn v_now_last v_now_bend v_now_tall v_kept_rows v_kept_cols v_kept_high v_kept_wide v_kept_folds v_kept_wrong v_kept_more v_kept_rowOf v_kept_colOf v_kept_below v_kept_face v_kept_worn v_kept_last v_kept_bend v_kept_tall v_wearing_size v_wearing_stepCount v_wearing_draftCount v_wearing_place v_wearing_fault v_wearing_stacked v_wearing_tape v_wearing_steps v_wearing_draft v_wearing_stack v_planned_size v_planned_trial_rows v_planned_trial_cols v_planned_trial_high v_planned_trial_wide v_planned_trial_folds v_planned_trial_wrong v_planned_trial_more v_planned_trial_rowOf v_planned_trial_colOf v_planned_trial_below v_planned_trial_face v_planned_trial_worn v_planned_trial_last v_planned_trial_bend v_planned_trial_tall v_planned_lines v_planned_ways v_search_found v_search_wrong v_search_more v_search_folds v_search_wanted v_search_levels0_rows v_search_levels0_cols v_search_levels0_high v_search_levels0_wide v_search_levels0_folds v_search_levels0_wrong v_search_levels0_more v_search_levels0_rowOf v_search_levels0_colOf v_search_levels0_below v_search_levels0_face v_search_levels0_worn v_search_levels0_last v_search_levels0_bend v_search_levels0_tall v_search_levels1_rows v_search_levels1_cols v_search_levels1_high v_search_levels1_wide v_search_levels1_folds v_search_levels1_wrong v_search_levels1_more v_search_levels1_rowOf v_search_levels1_colOf v_search_levels1_below v_search_levels1_face v_search_levels1_worn v_search_levels1_last v_search_levels1_bend v_search_levels1_tall v_search_levels2_rows v_search_levels2_cols v_search_levels2_high v_search_levels2_wide v_search_levels2_folds v_search_levels2_wrong v_search_levels2_more v_search_levels2_rowOf v_search_levels2_colOf v_search_levels2_below v_search_levels2_face v_search_levels2_worn v_search_levels2_last v_search_levels2_bend v_search_levels2_tall v_search_levels3_rows v_search_levels3_cols v_search_levels3_high v_search_levels3_wide v_search_levels3_folds v_search_levels3_wrong v_search_levels3_more v_search_levels3_rowOf v_search_levels3_colOf v_search_levels3_below v_search_levels3_face v_search_levels3_worn v_search_levels3_last v_search_levels3_bend v_search_levels3_tall v_search_path v_search_best v_strip_list v_strip_found v_strip_at v_changes_value v_changes_done v_changes_size v_changes_before v_changes_after v_foldings_size v_foldings_ran v_foldings_number v_foldings_kinds v_foldings_trace v_shelves0_holds v_shelves0_body v_shelves0_sort v_shelves0_size v_shelves0_items v_shelves1_holds v_shelves1_body v_shelves1_sort v_shelves1_size v_shelves1_items v_shelves2_holds v_shelves2_body v_shelves2_sort v_shelves2_size v_shelves2_items v_shelves3_holds v_shelves3_body v_shelves3_sort v_shelves3_size v_shelves3_items v_shelves4_holds v_shelves4_body v_shelves4_sort v_shelves4_size v_shelves4_items v_shelves5_holds v_shelves5_body v_shelves5_sort v_shelves5_size v_shelves5_items m_keptMany m_done m_rowsOf m_columnsOf m_folded m_wronged m_tapeMany m_textMany m_base m_at m_ends m_fault m_opened m_bentMany m_bentWrong m_moreWorn m_planned m_allWrong m_allWorn m_z m_wishedField m_isFound m_bestWrong m_bestWorn m_bestMany m_soughtBy m_sought m_soughtAt m_foundMany m_foundOrder m_isKept m_imageRows m_imageColumns m_imageFolded m_imageWronged m_bodies m_ran m_ownKind m_ownNumber m_limit m_changeWas m_changeIs q_shapeRows q_shapeColumns q_row q_column q_below q_face m_worn m_lastBend m_tape m_text m_names m_bends m_high m_to m_pileSize m_planLine m_planWay m_way1 m_bestWay m_order1 m_placeIn m_bodyKind m_trace m_shelf m_many m_items m_carried H locs y_0 u_1 u_2 u_3 u_4 u_5 u_6 u_7 u_8 u_9 u_10 u_11 u_12 u_13 u_14 u_15 u_16 u_17 u_18 t_0 z_0 t_2 t_3 t_4 t_5 t_6 t_7 w_0 w_1 hP hD hS)
set_option maxHeartbeats 8000000 in
set_option maxRecDepth 100000 in
theorem ls_6 {p : Program} {l : Launch} {e : Env} {s : State} {m : MethodId} {below : List Frame} {meth : Method} {c : Code} {D : va_G} {cI cL cS cH : ClassId} {bb : Nat} {a b : Nat → Nat} {cells slots : Nat} {Q : State → Prop} {L : Nat} {xs : Nat → Int32} {x3 : Int32} {ls : Array Slot} (C0 : mm_Cx p s m #[Value.ref bb] meth c RL code 4 ret D (mm_T cI cL cS cH) (fun q => s.heap.size ≤ q)) (hX : va_X bb L xs s s.heap) (hbl : bb < s.heap.size) (hi_1 : vp_in (x3 + (1 : Int32)) L) (hi_2 : vp_in (x3 + (2 : Int32)) L) (hc1 : cells ≤ room_1.cells) (hc2 : slots ≤ room_1.slots) (hl : lv_has ls 4 [(0, .ref bb), (1, .ref (a 0)), (2, .ref (b 0)), (3, .int x3)]) (K : lw_St p l e s m below meth c D cI cL cS cH bb a b cells slots Q 1391 ls) : lw_St p l e s m below meth c D cI cL cS cH bb a b cells slots Q 332 ls := by
  intro v_hasImage v_now_rows v_now_cols v_now_high v_now_wide v_now_folds v_now_wrong v_now_more v_now_rowOf v_now_colOf v_now_below v_now_face v_now_worn v_now_last v_now_bend v_now_tall v_kept_rows v_kept_cols v_kept_high v_kept_wide v_kept_folds v_kept_wrong v_kept_more v_kept_rowOf v_kept_colOf v_kept_below v_kept_face v_kept_worn v_kept_last v_kept_bend v_kept_tall v_wearing_size v_wearing_stepCount v_wearing_draftCount v_wearing_place v_wearing_fault v_wearing_stacked v_wearing_tape v_wearing_steps v_wearing_draft v_wearing_stack v_planned_size v_planned_trial_rows v_planned_trial_cols v_planned_trial_high v_planned_trial_wide v_planned_trial_folds v_planned_trial_wrong v_planned_trial_more v_planned_trial_rowOf v_planned_trial_colOf v_planned_trial_below v_planned_trial_face v_planned_trial_worn v_planned_trial_last v_planned_trial_bend v_planned_trial_tall v_planned_lines v_planned_ways v_search_found v_search_wrong v_search_more v_search_folds v_search_wanted v_search_levels0_rows v_search_levels0_cols v_search_levels0_high v_search_levels0_wide v_search_levels0_folds v_search_levels0_wrong v_search_levels0_more v_search_levels0_rowOf v_search_levels0_colOf v_search_levels0_below v_search_levels0_face v_search_levels0_worn v_search_levels0_last v_search_levels0_bend v_search_levels0_tall v_search_levels1_rows v_search_levels1_cols v_search_levels1_high v_search_levels1_wide v_search_levels1_folds v_search_levels1_wrong v_search_levels1_more v_search_levels1_rowOf v_search_levels1_colOf v_search_levels1_below v_search_levels1_face v_search_levels1_worn v_search_levels1_last v_search_levels1_bend v_search_levels1_tall v_search_levels2_rows v_search_levels2_cols v_search_levels2_high v_search_levels2_wide v_search_levels2_folds v_search_levels2_wrong v_search_levels2_more v_search_levels2_rowOf v_search_levels2_colOf v_search_levels2_below v_search_levels2_face v_search_levels2_worn v_search_levels2_last v_search_levels2_bend v_search_levels2_tall v_search_levels3_rows v_search_levels3_cols v_search_levels3_high v_search_levels3_wide v_search_levels3_folds v_search_levels3_wrong v_search_levels3_more v_search_levels3_rowOf v_search_levels3_colOf v_search_levels3_below v_search_levels3_face v_search_levels3_worn v_search_levels3_last v_search_levels3_bend v_search_levels3_tall v_search_path v_search_best v_strip_list v_strip_found v_strip_at v_changes_value v_changes_done v_changes_size v_changes_before v_changes_after v_foldings_size v_foldings_ran v_foldings_number v_foldings_kinds v_foldings_trace v_shelves0_holds v_shelves0_body v_shelves0_sort v_shelves0_size v_shelves0_items v_shelves1_holds v_shelves1_body v_shelves1_sort v_shelves1_size v_shelves1_items v_shelves2_holds v_shelves2_body v_shelves2_sort v_shelves2_size v_shelves2_items v_shelves3_holds v_shelves3_body v_shelves3_sort v_shelves3_size v_shelves3_items v_shelves4_holds v_shelves4_body v_shelves4_sort v_shelves4_size v_shelves4_items v_shelves5_holds v_shelves5_body v_shelves5_sort v_shelves5_size v_shelves5_items m_keptMany m_done m_rowsOf m_columnsOf m_folded m_wronged m_tapeMany m_textMany m_base m_at m_ends m_fault m_opened m_bentMany m_bentWrong m_moreWorn m_planned m_allWrong m_allWorn m_z m_wishedField m_isFound m_bestWrong m_bestWorn m_bestMany m_soughtBy m_sought m_soughtAt m_foundMany m_foundOrder m_isKept m_imageRows m_imageColumns m_imageFolded m_imageWronged m_bodies m_ran m_ownKind m_ownNumber m_limit m_changeWas m_changeIs m_shapeRows m_shapeColumns m_row m_column m_below m_face m_worn m_lastBend m_tape m_text m_names m_bends m_high m_to m_pileSize m_planLine m_planWay m_way1 m_bestWay m_order1 m_placeIn m_bodyKind m_trace m_shelf m_many m_items m_carried H locs u_0 u_1 u_2 u_3 u_4 u_5 u_6 u_7 u_8 u_9 u_10 u_11 u_12 u_13 u_14 u_15 u_16 u_17 u_18 t_0 t_1 t_2 t_3 t_4 t_5 t_6 t_7 hr_0 hr_1 hP hD hS
  obtain ⟨r8, h8, q8⟩ := st8_crease (x1 := (xs (x3 + (1 : Int32)).toNatClampNeg)) (x2 := (xs (x3 + (2 : Int32)).toNatClampNeg)) (v_changes_value := v_changes_value) u_0
  obtain ⟨r9, h9, q9⟩ := st9_crease (x1 := (xs (x3 + (1 : Int32)).toNatClampNeg)) (x2 := (xs (x3 + (2 : Int32)).toNatClampNeg)) t_0 t_1
  exact lc_6 C0 hX hbl hi_1 rfl hi_2 rfl h8 h9 hc1 hc2 hP hD hS hl (fun H locs hP hD hS => K v_hasImage v_now_rows v_now_cols v_now_high v_now_wide v_now_folds v_now_wrong v_now_more v_now_rowOf v_now_colOf v_now_below v_now_face v_now_worn v_now_last v_now_bend v_now_tall v_kept_rows v_kept_cols v_kept_high v_kept_wide v_kept_folds v_kept_wrong v_kept_more v_kept_rowOf v_kept_colOf v_kept_below v_kept_face v_kept_worn v_kept_last v_kept_bend v_kept_tall v_wearing_size v_wearing_stepCount v_wearing_draftCount v_wearing_place v_wearing_fault v_wearing_stacked v_wearing_tape v_wearing_steps v_wearing_draft v_wearing_stack v_planned_size v_planned_trial_rows v_planned_trial_cols v_planned_trial_high v_planned_trial_wide v_planned_trial_folds v_planned_trial_wrong v_planned_trial_more v_planned_trial_rowOf v_planned_trial_colOf v_planned_trial_below v_planned_trial_face v_planned_trial_worn v_planned_trial_last v_planned_trial_bend v_planned_trial_tall v_planned_lines v_planned_ways v_search_found v_search_wrong v_search_more v_search_folds v_search_wanted v_search_levels0_rows v_search_levels0_cols v_search_levels0_high v_search_levels0_wide v_search_levels0_folds v_search_levels0_wrong v_search_levels0_more v_search_levels0_rowOf v_search_levels0_colOf v_search_levels0_below v_search_levels0_face v_search_levels0_worn v_search_levels0_last v_search_levels0_bend v_search_levels0_tall v_search_levels1_rows v_search_levels1_cols v_search_levels1_high v_search_levels1_wide v_search_levels1_folds v_search_levels1_wrong v_search_levels1_more v_search_levels1_rowOf v_search_levels1_colOf v_search_levels1_below v_search_levels1_face v_search_levels1_worn v_search_levels1_last v_search_levels1_bend v_search_levels1_tall v_search_levels2_rows v_search_levels2_cols v_search_levels2_high v_search_levels2_wide v_search_levels2_folds v_search_levels2_wrong v_search_levels2_more v_search_levels2_rowOf v_search_levels2_colOf v_search_levels2_below v_search_levels2_face v_search_levels2_worn v_search_levels2_last v_search_levels2_bend v_search_levels2_tall v_search_levels3_rows v_search_levels3_cols v_search_levels3_high v_search_levels3_wide v_search_levels3_folds v_search_levels3_wrong v_search_levels3_more v_search_levels3_rowOf v_search_levels3_colOf v_search_levels3_below v_search_levels3_face v_search_levels3_worn v_search_levels3_last v_search_levels3_bend v_search_levels3_tall v_search_path v_search_best v_strip_list v_strip_found v_strip_at v_changes_value v_changes_done v_changes_size v_changes_before v_changes_after v_foldings_size v_foldings_ran v_foldings_number v_foldings_kinds v_foldings_trace v_shelves0_holds v_shelves0_body v_shelves0_sort v_shelves0_size v_shelves0_items v_shelves1_holds v_shelves1_body v_shelves1_sort v_shelves1_size v_shelves1_items v_shelves2_holds v_shelves2_body v_shelves2_sort v_shelves2_size v_shelves2_items v_shelves3_holds v_shelves3_body v_shelves3_sort v_shelves3_size v_shelves3_items v_shelves4_holds v_shelves4_body v_shelves4_sort v_shelves4_size v_shelves4_items v_shelves5_holds v_shelves5_body v_shelves5_sort v_shelves5_size v_shelves5_items m_keptMany m_done m_rowsOf m_columnsOf m_folded m_wronged m_tapeMany m_textMany m_base m_at m_ends m_fault m_opened m_bentMany m_bentWrong m_moreWorn m_planned m_allWrong m_allWorn m_z m_wishedField m_isFound m_bestWrong m_bestWorn m_bestMany m_soughtBy m_sought m_soughtAt m_foundMany m_foundOrder m_isKept m_imageRows m_imageColumns m_imageFolded m_imageWronged m_bodies m_ran m_ownKind m_ownNumber m_limit m_changeWas m_changeIs m_shapeRows m_shapeColumns m_row m_column m_below m_face m_worn m_lastBend m_tape m_text m_names m_bends m_high m_to m_pileSize m_planLine m_planWay m_way1 m_bestWay m_order1 m_placeIn m_bodyKind m_trace m_shelf m_many m_items m_carried H locs u_0 u_1 u_2 u_3 u_4 u_5 u_6 u_7 u_8 u_9 u_10 u_11 u_12 u_13 u_14 u_15 u_16 u_17 u_18 t_0 t_1 t_2 t_3 t_4 t_5 t_6 t_7 hr_0 hr_1 hP hD hS)
set_option maxHeartbeats 8000000 in
set_option maxRecDepth 100000 in
theorem ls_7 {p : Program} {l : Launch} {e : Env} {s : State} {m : MethodId} {below : List Frame} {meth : Method} {c : Code} {D : va_G} {cI cL cS cH : ClassId} {bb : Nat} {a b : Nat → Nat} {cells slots : Nat} {Q : State → Prop} {L : Nat} {xs : Nat → Int32} {x3 : Int32} {ls : Array Slot} (C0 : mm_Cx p s m #[Value.ref bb] meth c RL code 4 ret D (mm_T cI cL cS cH) (fun q => s.heap.size ≤ q)) (hX : va_X bb L xs s s.heap) (hbl : bb < s.heap.size) (hi_1 : vp_in (x3 + (1 : Int32)) L) (hc1 : cells ≤ room_1.cells) (hc2 : slots ≤ room_1.slots) (hl : lv_has ls 4 [(0, .ref bb), (1, .ref (a 0)), (2, .ref (b 0)), (3, .int x3)]) (K : lw_St p l e s m below meth c D cI cL cS cH bb a b cells slots Q 1391 ls) : lw_St p l e s m below meth c D cI cL cS cH bb a b cells slots Q 365 ls := by
  intro v_hasImage v_now_rows v_now_cols v_now_high v_now_wide v_now_folds v_now_wrong v_now_more v_now_rowOf v_now_colOf v_now_below v_now_face v_now_worn v_now_last v_now_bend v_now_tall v_kept_rows v_kept_cols v_kept_high v_kept_wide v_kept_folds v_kept_wrong v_kept_more v_kept_rowOf v_kept_colOf v_kept_below v_kept_face v_kept_worn v_kept_last v_kept_bend v_kept_tall v_wearing_size v_wearing_stepCount v_wearing_draftCount v_wearing_place v_wearing_fault v_wearing_stacked v_wearing_tape v_wearing_steps v_wearing_draft v_wearing_stack v_planned_size v_planned_trial_rows v_planned_trial_cols v_planned_trial_high v_planned_trial_wide v_planned_trial_folds v_planned_trial_wrong v_planned_trial_more v_planned_trial_rowOf v_planned_trial_colOf v_planned_trial_below v_planned_trial_face v_planned_trial_worn v_planned_trial_last v_planned_trial_bend v_planned_trial_tall v_planned_lines v_planned_ways v_search_found v_search_wrong v_search_more v_search_folds v_search_wanted v_search_levels0_rows v_search_levels0_cols v_search_levels0_high v_search_levels0_wide v_search_levels0_folds v_search_levels0_wrong v_search_levels0_more v_search_levels0_rowOf v_search_levels0_colOf v_search_levels0_below v_search_levels0_face v_search_levels0_worn v_search_levels0_last v_search_levels0_bend v_search_levels0_tall v_search_levels1_rows v_search_levels1_cols v_search_levels1_high v_search_levels1_wide v_search_levels1_folds v_search_levels1_wrong v_search_levels1_more v_search_levels1_rowOf v_search_levels1_colOf v_search_levels1_below v_search_levels1_face v_search_levels1_worn v_search_levels1_last v_search_levels1_bend v_search_levels1_tall v_search_levels2_rows v_search_levels2_cols v_search_levels2_high v_search_levels2_wide v_search_levels2_folds v_search_levels2_wrong v_search_levels2_more v_search_levels2_rowOf v_search_levels2_colOf v_search_levels2_below v_search_levels2_face v_search_levels2_worn v_search_levels2_last v_search_levels2_bend v_search_levels2_tall v_search_levels3_rows v_search_levels3_cols v_search_levels3_high v_search_levels3_wide v_search_levels3_folds v_search_levels3_wrong v_search_levels3_more v_search_levels3_rowOf v_search_levels3_colOf v_search_levels3_below v_search_levels3_face v_search_levels3_worn v_search_levels3_last v_search_levels3_bend v_search_levels3_tall v_search_path v_search_best v_strip_list v_strip_found v_strip_at v_changes_value v_changes_done v_changes_size v_changes_before v_changes_after v_foldings_size v_foldings_ran v_foldings_number v_foldings_kinds v_foldings_trace v_shelves0_holds v_shelves0_body v_shelves0_sort v_shelves0_size v_shelves0_items v_shelves1_holds v_shelves1_body v_shelves1_sort v_shelves1_size v_shelves1_items v_shelves2_holds v_shelves2_body v_shelves2_sort v_shelves2_size v_shelves2_items v_shelves3_holds v_shelves3_body v_shelves3_sort v_shelves3_size v_shelves3_items v_shelves4_holds v_shelves4_body v_shelves4_sort v_shelves4_size v_shelves4_items v_shelves5_holds v_shelves5_body v_shelves5_sort v_shelves5_size v_shelves5_items m_keptMany m_done m_rowsOf m_columnsOf m_folded m_wronged m_tapeMany m_textMany m_base m_at m_ends m_fault m_opened m_bentMany m_bentWrong m_moreWorn m_planned m_allWrong m_allWorn m_z m_wishedField m_isFound m_bestWrong m_bestWorn m_bestMany m_soughtBy m_sought m_soughtAt m_foundMany m_foundOrder m_isKept m_imageRows m_imageColumns m_imageFolded m_imageWronged m_bodies m_ran m_ownKind m_ownNumber m_limit m_changeWas m_changeIs m_shapeRows m_shapeColumns m_row m_column m_below m_face m_worn m_lastBend m_tape m_text m_names m_bends m_high m_to m_pileSize m_planLine m_planWay m_way1 m_bestWay m_order1 m_placeIn m_bodyKind m_trace m_shelf m_many m_items m_carried H locs u_0 u_1 u_2 u_3 u_4 u_5 u_6 u_7 u_8 u_9 u_10 u_11 u_12 u_13 u_14 u_15 u_16 u_17 u_18 t_0 t_1 t_2 t_3 t_4 t_5 t_6 t_7 hr_0 hr_1 hP hD hS
  obtain ⟨r8, h8, q8⟩ := st8_shape (x1 := (xs (x3 + (1 : Int32)).toNatClampNeg)) u_0
  obtain ⟨r9, h9, q9⟩ := st9_shape (x1 := (xs (x3 + (1 : Int32)).toNatClampNeg)) t_1
  exact lc_7 C0 hX hbl hi_1 rfl h8 h9 hc1 hc2 hP hD hS hl (fun H locs hP hD hS => K v_hasImage v_now_rows v_now_cols v_now_high v_now_wide v_now_folds v_now_wrong v_now_more v_now_rowOf v_now_colOf v_now_below v_now_face v_now_worn v_now_last v_now_bend v_now_tall v_kept_rows v_kept_cols v_kept_high v_kept_wide v_kept_folds v_kept_wrong v_kept_more v_kept_rowOf v_kept_colOf v_kept_below v_kept_face v_kept_worn v_kept_last v_kept_bend v_kept_tall v_wearing_size v_wearing_stepCount v_wearing_draftCount v_wearing_place v_wearing_fault v_wearing_stacked v_wearing_tape v_wearing_steps v_wearing_draft v_wearing_stack v_planned_size v_planned_trial_rows v_planned_trial_cols v_planned_trial_high v_planned_trial_wide v_planned_trial_folds v_planned_trial_wrong v_planned_trial_more v_planned_trial_rowOf v_planned_trial_colOf v_planned_trial_below v_planned_trial_face v_planned_trial_worn v_planned_trial_last v_planned_trial_bend v_planned_trial_tall v_planned_lines v_planned_ways v_search_found v_search_wrong v_search_more v_search_folds v_search_wanted v_search_levels0_rows v_search_levels0_cols v_search_levels0_high v_search_levels0_wide v_search_levels0_folds v_search_levels0_wrong v_search_levels0_more v_search_levels0_rowOf v_search_levels0_colOf v_search_levels0_below v_search_levels0_face v_search_levels0_worn v_search_levels0_last v_search_levels0_bend v_search_levels0_tall v_search_levels1_rows v_search_levels1_cols v_search_levels1_high v_search_levels1_wide v_search_levels1_folds v_search_levels1_wrong v_search_levels1_more v_search_levels1_rowOf v_search_levels1_colOf v_search_levels1_below v_search_levels1_face v_search_levels1_worn v_search_levels1_last v_search_levels1_bend v_search_levels1_tall v_search_levels2_rows v_search_levels2_cols v_search_levels2_high v_search_levels2_wide v_search_levels2_folds v_search_levels2_wrong v_search_levels2_more v_search_levels2_rowOf v_search_levels2_colOf v_search_levels2_below v_search_levels2_face v_search_levels2_worn v_search_levels2_last v_search_levels2_bend v_search_levels2_tall v_search_levels3_rows v_search_levels3_cols v_search_levels3_high v_search_levels3_wide v_search_levels3_folds v_search_levels3_wrong v_search_levels3_more v_search_levels3_rowOf v_search_levels3_colOf v_search_levels3_below v_search_levels3_face v_search_levels3_worn v_search_levels3_last v_search_levels3_bend v_search_levels3_tall v_search_path v_search_best v_strip_list v_strip_found v_strip_at v_changes_value v_changes_done v_changes_size v_changes_before v_changes_after v_foldings_size v_foldings_ran v_foldings_number v_foldings_kinds v_foldings_trace v_shelves0_holds v_shelves0_body v_shelves0_sort v_shelves0_size v_shelves0_items v_shelves1_holds v_shelves1_body v_shelves1_sort v_shelves1_size v_shelves1_items v_shelves2_holds v_shelves2_body v_shelves2_sort v_shelves2_size v_shelves2_items v_shelves3_holds v_shelves3_body v_shelves3_sort v_shelves3_size v_shelves3_items v_shelves4_holds v_shelves4_body v_shelves4_sort v_shelves4_size v_shelves4_items v_shelves5_holds v_shelves5_body v_shelves5_sort v_shelves5_size v_shelves5_items m_keptMany m_done m_rowsOf m_columnsOf m_folded m_wronged m_tapeMany m_textMany m_base m_at m_ends m_fault m_opened m_bentMany m_bentWrong m_moreWorn m_planned m_allWrong m_allWorn m_z m_wishedField m_isFound m_bestWrong m_bestWorn m_bestMany m_soughtBy m_sought m_soughtAt m_foundMany m_foundOrder m_isKept m_imageRows m_imageColumns m_imageFolded m_imageWronged m_bodies m_ran m_ownKind m_ownNumber m_limit m_changeWas m_changeIs m_shapeRows m_shapeColumns m_row m_column m_below m_face m_worn m_lastBend m_tape m_text m_names m_bends m_high m_to m_pileSize m_planLine m_planWay m_way1 m_bestWay m_order1 m_placeIn m_bodyKind m_trace m_shelf m_many m_items m_carried H locs u_0 u_1 u_2 u_3 u_4 u_5 u_6 u_7 u_8 u_9 u_10 u_11 u_12 u_13 u_14 u_15 u_16 u_17 u_18 t_0 t_1 t_2 t_3 t_4 t_5 t_6 t_7 hr_0 hr_1 hP hD hS)
end
section
/-! The law's cases, over every state -/
set_option maxHeartbeats 8000000 in
set_option maxRecDepth 100000 in
theorem ls_8 {p : Program} {l : Launch} {e : Env} {s : State} {m : MethodId} {below : List Frame} {meth : Method} {c : Code} {D : va_G} {cI cL cS cH : ClassId} {bb : Nat} {a b : Nat → Nat} {cells slots : Nat} {Q : State → Prop} {L : Nat} {xs : Nat → Int32} {x3 : Int32} {ls : Array Slot} (C0 : mm_Cx p s m #[Value.ref bb] meth c RL code 4 ret D (mm_T cI cL cS cH) (fun q => s.heap.size ≤ q)) (hX : va_X bb L xs s s.heap) (hbl : bb < s.heap.size) (hi_1 : vp_in (x3 + (1 : Int32)) L) (hi_2 : vp_in (x3 + (2 : Int32)) L) (hc1 : cells ≤ room_1.cells) (hc2 : slots ≤ room_1.slots) (hl : lv_has ls 4 [(0, .ref bb), (1, .ref (a 0)), (2, .ref (b 0)), (3, .int x3)]) (K : lw_St p l e s m below meth c D cI cL cS cH bb a b cells slots Q 1391 ls) : lw_St p l e s m below meth c D cI cL cS cH bb a b cells slots Q 388 ls := by
  intro v_hasImage v_now_rows v_now_cols v_now_high v_now_wide v_now_folds v_now_wrong v_now_more v_now_rowOf v_now_colOf v_now_below v_now_face v_now_worn v_now_last v_now_bend v_now_tall v_kept_rows v_kept_cols v_kept_high v_kept_wide v_kept_folds v_kept_wrong v_kept_more v_kept_rowOf v_kept_colOf v_kept_below v_kept_face v_kept_worn v_kept_last v_kept_bend v_kept_tall v_wearing_size v_wearing_stepCount v_wearing_draftCount v_wearing_place v_wearing_fault v_wearing_stacked v_wearing_tape v_wearing_steps v_wearing_draft v_wearing_stack v_planned_size v_planned_trial_rows v_planned_trial_cols v_planned_trial_high v_planned_trial_wide v_planned_trial_folds v_planned_trial_wrong v_planned_trial_more v_planned_trial_rowOf v_planned_trial_colOf v_planned_trial_below v_planned_trial_face v_planned_trial_worn v_planned_trial_last v_planned_trial_bend v_planned_trial_tall v_planned_lines v_planned_ways v_search_found v_search_wrong v_search_more v_search_folds v_search_wanted v_search_levels0_rows v_search_levels0_cols v_search_levels0_high v_search_levels0_wide v_search_levels0_folds v_search_levels0_wrong v_search_levels0_more v_search_levels0_rowOf v_search_levels0_colOf v_search_levels0_below v_search_levels0_face v_search_levels0_worn v_search_levels0_last v_search_levels0_bend v_search_levels0_tall v_search_levels1_rows v_search_levels1_cols v_search_levels1_high v_search_levels1_wide v_search_levels1_folds v_search_levels1_wrong v_search_levels1_more v_search_levels1_rowOf v_search_levels1_colOf v_search_levels1_below v_search_levels1_face v_search_levels1_worn v_search_levels1_last v_search_levels1_bend v_search_levels1_tall v_search_levels2_rows v_search_levels2_cols v_search_levels2_high v_search_levels2_wide v_search_levels2_folds v_search_levels2_wrong v_search_levels2_more v_search_levels2_rowOf v_search_levels2_colOf v_search_levels2_below v_search_levels2_face v_search_levels2_worn v_search_levels2_last v_search_levels2_bend v_search_levels2_tall v_search_levels3_rows v_search_levels3_cols v_search_levels3_high v_search_levels3_wide v_search_levels3_folds v_search_levels3_wrong v_search_levels3_more v_search_levels3_rowOf v_search_levels3_colOf v_search_levels3_below v_search_levels3_face v_search_levels3_worn v_search_levels3_last v_search_levels3_bend v_search_levels3_tall v_search_path v_search_best v_strip_list v_strip_found v_strip_at v_changes_value v_changes_done v_changes_size v_changes_before v_changes_after v_foldings_size v_foldings_ran v_foldings_number v_foldings_kinds v_foldings_trace v_shelves0_holds v_shelves0_body v_shelves0_sort v_shelves0_size v_shelves0_items v_shelves1_holds v_shelves1_body v_shelves1_sort v_shelves1_size v_shelves1_items v_shelves2_holds v_shelves2_body v_shelves2_sort v_shelves2_size v_shelves2_items v_shelves3_holds v_shelves3_body v_shelves3_sort v_shelves3_size v_shelves3_items v_shelves4_holds v_shelves4_body v_shelves4_sort v_shelves4_size v_shelves4_items v_shelves5_holds v_shelves5_body v_shelves5_sort v_shelves5_size v_shelves5_items m_keptMany m_done m_rowsOf m_columnsOf m_folded m_wronged m_tapeMany m_textMany m_base m_at m_ends m_fault m_opened m_bentMany m_bentWrong m_moreWorn m_planned m_allWrong m_allWorn m_z m_wishedField m_isFound m_bestWrong m_bestWorn m_bestMany m_soughtBy m_sought m_soughtAt m_foundMany m_foundOrder m_isKept m_imageRows m_imageColumns m_imageFolded m_imageWronged m_bodies m_ran m_ownKind m_ownNumber m_limit m_changeWas m_changeIs m_shapeRows m_shapeColumns m_row m_column m_below m_face m_worn m_lastBend m_tape m_text m_names m_bends m_high m_to m_pileSize m_planLine m_planWay m_way1 m_bestWay m_order1 m_placeIn m_bodyKind m_trace m_shelf m_many m_items m_carried H locs u_0 u_1 u_2 u_3 u_4 u_5 u_6 u_7 u_8 u_9 u_10 u_11 u_12 u_13 u_14 u_15 u_16 u_17 u_18 t_0 t_1 t_2 t_3 t_4 t_5 t_6 t_7 hr_0 hr_1 hP hD hS
  obtain ⟨r8, h8, q8⟩ := st8_where (x1 := (xs (x3 + (1 : Int32)).toNatClampNeg)) (x2 := (xs (x3 + (2 : Int32)).toNatClampNeg)) u_0
  obtain ⟨r9, h9, q9⟩ := st9_where (x1 := (xs (x3 + (1 : Int32)).toNatClampNeg)) (x2 := (xs (x3 + (2 : Int32)).toNatClampNeg)) t_1
  exact lc_8 C0 hX hbl hi_1 rfl hi_2 rfl h8 h9 hc1 hc2 hP hD hS hl (fun H locs hP hD hS => K v_hasImage v_now_rows v_now_cols v_now_high v_now_wide v_now_folds v_now_wrong v_now_more v_now_rowOf v_now_colOf v_now_below v_now_face v_now_worn v_now_last v_now_bend v_now_tall v_kept_rows v_kept_cols v_kept_high v_kept_wide v_kept_folds v_kept_wrong v_kept_more v_kept_rowOf v_kept_colOf v_kept_below v_kept_face v_kept_worn v_kept_last v_kept_bend v_kept_tall v_wearing_size v_wearing_stepCount v_wearing_draftCount v_wearing_place v_wearing_fault v_wearing_stacked v_wearing_tape v_wearing_steps v_wearing_draft v_wearing_stack v_planned_size v_planned_trial_rows v_planned_trial_cols v_planned_trial_high v_planned_trial_wide v_planned_trial_folds v_planned_trial_wrong v_planned_trial_more v_planned_trial_rowOf v_planned_trial_colOf v_planned_trial_below v_planned_trial_face v_planned_trial_worn v_planned_trial_last v_planned_trial_bend v_planned_trial_tall v_planned_lines v_planned_ways v_search_found v_search_wrong v_search_more v_search_folds v_search_wanted v_search_levels0_rows v_search_levels0_cols v_search_levels0_high v_search_levels0_wide v_search_levels0_folds v_search_levels0_wrong v_search_levels0_more v_search_levels0_rowOf v_search_levels0_colOf v_search_levels0_below v_search_levels0_face v_search_levels0_worn v_search_levels0_last v_search_levels0_bend v_search_levels0_tall v_search_levels1_rows v_search_levels1_cols v_search_levels1_high v_search_levels1_wide v_search_levels1_folds v_search_levels1_wrong v_search_levels1_more v_search_levels1_rowOf v_search_levels1_colOf v_search_levels1_below v_search_levels1_face v_search_levels1_worn v_search_levels1_last v_search_levels1_bend v_search_levels1_tall v_search_levels2_rows v_search_levels2_cols v_search_levels2_high v_search_levels2_wide v_search_levels2_folds v_search_levels2_wrong v_search_levels2_more v_search_levels2_rowOf v_search_levels2_colOf v_search_levels2_below v_search_levels2_face v_search_levels2_worn v_search_levels2_last v_search_levels2_bend v_search_levels2_tall v_search_levels3_rows v_search_levels3_cols v_search_levels3_high v_search_levels3_wide v_search_levels3_folds v_search_levels3_wrong v_search_levels3_more v_search_levels3_rowOf v_search_levels3_colOf v_search_levels3_below v_search_levels3_face v_search_levels3_worn v_search_levels3_last v_search_levels3_bend v_search_levels3_tall v_search_path v_search_best v_strip_list v_strip_found v_strip_at v_changes_value v_changes_done v_changes_size v_changes_before v_changes_after v_foldings_size v_foldings_ran v_foldings_number v_foldings_kinds v_foldings_trace v_shelves0_holds v_shelves0_body v_shelves0_sort v_shelves0_size v_shelves0_items v_shelves1_holds v_shelves1_body v_shelves1_sort v_shelves1_size v_shelves1_items v_shelves2_holds v_shelves2_body v_shelves2_sort v_shelves2_size v_shelves2_items v_shelves3_holds v_shelves3_body v_shelves3_sort v_shelves3_size v_shelves3_items v_shelves4_holds v_shelves4_body v_shelves4_sort v_shelves4_size v_shelves4_items v_shelves5_holds v_shelves5_body v_shelves5_sort v_shelves5_size v_shelves5_items m_keptMany m_done m_rowsOf m_columnsOf m_folded m_wronged m_tapeMany m_textMany m_base m_at m_ends m_fault m_opened m_bentMany m_bentWrong m_moreWorn m_planned m_allWrong m_allWorn m_z m_wishedField m_isFound m_bestWrong m_bestWorn m_bestMany m_soughtBy m_sought m_soughtAt m_foundMany m_foundOrder m_isKept m_imageRows m_imageColumns m_imageFolded m_imageWronged m_bodies m_ran m_ownKind m_ownNumber m_limit m_changeWas m_changeIs m_shapeRows m_shapeColumns m_row m_column m_below m_face m_worn m_lastBend m_tape m_text m_names m_bends m_high m_to m_pileSize m_planLine m_planWay m_way1 m_bestWay m_order1 m_placeIn m_bodyKind m_trace m_shelf m_many m_items m_carried H locs u_0 u_1 u_2 u_3 u_4 u_5 u_6 u_7 u_8 u_9 u_10 u_11 u_12 u_13 u_14 u_15 u_16 u_17 u_18 t_0 t_1 t_2 t_3 t_4 t_5 t_6 t_7 hr_0 hr_1 hP hD hS)
set_option maxHeartbeats 8000000 in
set_option maxRecDepth 100000 in
theorem ls_9 {p : Program} {l : Launch} {e : Env} {s : State} {m : MethodId} {below : List Frame} {meth : Method} {c : Code} {D : va_G} {cI cL cS cH : ClassId} {bb : Nat} {a b : Nat → Nat} {cells slots : Nat} {Q : State → Prop} {L : Nat} {xs : Nat → Int32} {x3 : Int32} {ls : Array Slot} (C0 : mm_Cx p s m #[Value.ref bb] meth c RL code 4 ret D (mm_T cI cL cS cH) (fun q => s.heap.size ≤ q)) (hX : va_X bb L xs s s.heap) (hbl : bb < s.heap.size) (hi_1 : vp_in (x3 + (1 : Int32)) L) (hi_2 : vp_in (x3 + (2 : Int32)) L) (hc1 : cells ≤ room_1.cells) (hc2 : slots ≤ room_1.slots) (hl : lv_has ls 4 [(0, .ref bb), (1, .ref (a 0)), (2, .ref (b 0)), (3, .int x3)]) (K : lw_St p l e s m below meth c D cI cL cS cH bb a b cells slots Q 1391 ls) : lw_St p l e s m below meth c D cI cL cS cH bb a b cells slots Q 421 ls := by
  intro v_hasImage v_now_rows v_now_cols v_now_high v_now_wide v_now_folds v_now_wrong v_now_more v_now_rowOf v_now_colOf v_now_below v_now_face v_now_worn v_now_last v_now_bend v_now_tall v_kept_rows v_kept_cols v_kept_high v_kept_wide v_kept_folds v_kept_wrong v_kept_more v_kept_rowOf v_kept_colOf v_kept_below v_kept_face v_kept_worn v_kept_last v_kept_bend v_kept_tall v_wearing_size v_wearing_stepCount v_wearing_draftCount v_wearing_place v_wearing_fault v_wearing_stacked v_wearing_tape v_wearing_steps v_wearing_draft v_wearing_stack v_planned_size v_planned_trial_rows v_planned_trial_cols v_planned_trial_high v_planned_trial_wide v_planned_trial_folds v_planned_trial_wrong v_planned_trial_more v_planned_trial_rowOf v_planned_trial_colOf v_planned_trial_below v_planned_trial_face v_planned_trial_worn v_planned_trial_last v_planned_trial_bend v_planned_trial_tall v_planned_lines v_planned_ways v_search_found v_search_wrong v_search_more v_search_folds v_search_wanted v_search_levels0_rows v_search_levels0_cols v_search_levels0_high v_search_levels0_wide v_search_levels0_folds v_search_levels0_wrong v_search_levels0_more v_search_levels0_rowOf v_search_levels0_colOf v_search_levels0_below v_search_levels0_face v_search_levels0_worn v_search_levels0_last v_search_levels0_bend v_search_levels0_tall v_search_levels1_rows v_search_levels1_cols v_search_levels1_high v_search_levels1_wide v_search_levels1_folds v_search_levels1_wrong v_search_levels1_more v_search_levels1_rowOf v_search_levels1_colOf v_search_levels1_below v_search_levels1_face v_search_levels1_worn v_search_levels1_last v_search_levels1_bend v_search_levels1_tall v_search_levels2_rows v_search_levels2_cols v_search_levels2_high v_search_levels2_wide v_search_levels2_folds v_search_levels2_wrong v_search_levels2_more v_search_levels2_rowOf v_search_levels2_colOf v_search_levels2_below v_search_levels2_face v_search_levels2_worn v_search_levels2_last v_search_levels2_bend v_search_levels2_tall v_search_levels3_rows v_search_levels3_cols v_search_levels3_high v_search_levels3_wide v_search_levels3_folds v_search_levels3_wrong v_search_levels3_more v_search_levels3_rowOf v_search_levels3_colOf v_search_levels3_below v_search_levels3_face v_search_levels3_worn v_search_levels3_last v_search_levels3_bend v_search_levels3_tall v_search_path v_search_best v_strip_list v_strip_found v_strip_at v_changes_value v_changes_done v_changes_size v_changes_before v_changes_after v_foldings_size v_foldings_ran v_foldings_number v_foldings_kinds v_foldings_trace v_shelves0_holds v_shelves0_body v_shelves0_sort v_shelves0_size v_shelves0_items v_shelves1_holds v_shelves1_body v_shelves1_sort v_shelves1_size v_shelves1_items v_shelves2_holds v_shelves2_body v_shelves2_sort v_shelves2_size v_shelves2_items v_shelves3_holds v_shelves3_body v_shelves3_sort v_shelves3_size v_shelves3_items v_shelves4_holds v_shelves4_body v_shelves4_sort v_shelves4_size v_shelves4_items v_shelves5_holds v_shelves5_body v_shelves5_sort v_shelves5_size v_shelves5_items m_keptMany m_done m_rowsOf m_columnsOf m_folded m_wronged m_tapeMany m_textMany m_base m_at m_ends m_fault m_opened m_bentMany m_bentWrong m_moreWorn m_planned m_allWrong m_allWorn m_z m_wishedField m_isFound m_bestWrong m_bestWorn m_bestMany m_soughtBy m_sought m_soughtAt m_foundMany m_foundOrder m_isKept m_imageRows m_imageColumns m_imageFolded m_imageWronged m_bodies m_ran m_ownKind m_ownNumber m_limit m_changeWas m_changeIs m_shapeRows m_shapeColumns m_row m_column m_below m_face m_worn m_lastBend m_tape m_text m_names m_bends m_high m_to m_pileSize m_planLine m_planWay m_way1 m_bestWay m_order1 m_placeIn m_bodyKind m_trace m_shelf m_many m_items m_carried H locs u_0 u_1 u_2 u_3 u_4 u_5 u_6 u_7 u_8 u_9 u_10 u_11 u_12 u_13 u_14 u_15 u_16 u_17 u_18 t_0 t_1 t_2 t_3 t_4 t_5 t_6 t_7 hr_0 hr_1 hP hD hS
  obtain ⟨r, h8, h9, w_0, w_1⟩ := rs_pile (x1 := (xs (x3 + (1 : Int32)).toNatClampNeg)) (x2 := (xs (x3 + (2 : Int32)).toNatClampNeg)) u_0 t_1 hr_0 hr_1
  exact lc_9 C0 hX hbl hi_1 rfl hi_2 rfl h8 h9 hc1 hc2 hP hD hS hl (fun H locs hP hD hS => K v_hasImage v_now_rows v_now_cols v_now_high v_now_wide v_now_folds v_now_wrong v_now_more v_now_rowOf v_now_colOf v_now_below v_now_face v_now_worn v_now_last v_now_bend v_now_tall v_kept_rows v_kept_cols v_kept_high v_kept_wide v_kept_folds v_kept_wrong v_kept_more v_kept_rowOf v_kept_colOf v_kept_below v_kept_face v_kept_worn v_kept_last v_kept_bend v_kept_tall v_wearing_size v_wearing_stepCount v_wearing_draftCount v_wearing_place v_wearing_fault v_wearing_stacked v_wearing_tape v_wearing_steps v_wearing_draft v_wearing_stack v_planned_size v_planned_trial_rows v_planned_trial_cols v_planned_trial_high v_planned_trial_wide v_planned_trial_folds v_planned_trial_wrong v_planned_trial_more v_planned_trial_rowOf v_planned_trial_colOf v_planned_trial_below v_planned_trial_face v_planned_trial_worn v_planned_trial_last v_planned_trial_bend v_planned_trial_tall v_planned_lines v_planned_ways v_search_found v_search_wrong v_search_more v_search_folds v_search_wanted v_search_levels0_rows v_search_levels0_cols v_search_levels0_high v_search_levels0_wide v_search_levels0_folds v_search_levels0_wrong v_search_levels0_more v_search_levels0_rowOf v_search_levels0_colOf v_search_levels0_below v_search_levels0_face v_search_levels0_worn v_search_levels0_last v_search_levels0_bend v_search_levels0_tall v_search_levels1_rows v_search_levels1_cols v_search_levels1_high v_search_levels1_wide v_search_levels1_folds v_search_levels1_wrong v_search_levels1_more v_search_levels1_rowOf v_search_levels1_colOf v_search_levels1_below v_search_levels1_face v_search_levels1_worn v_search_levels1_last v_search_levels1_bend v_search_levels1_tall v_search_levels2_rows v_search_levels2_cols v_search_levels2_high v_search_levels2_wide v_search_levels2_folds v_search_levels2_wrong v_search_levels2_more v_search_levels2_rowOf v_search_levels2_colOf v_search_levels2_below v_search_levels2_face v_search_levels2_worn v_search_levels2_last v_search_levels2_bend v_search_levels2_tall v_search_levels3_rows v_search_levels3_cols v_search_levels3_high v_search_levels3_wide v_search_levels3_folds v_search_levels3_wrong v_search_levels3_more v_search_levels3_rowOf v_search_levels3_colOf v_search_levels3_below v_search_levels3_face v_search_levels3_worn v_search_levels3_last v_search_levels3_bend v_search_levels3_tall v_search_path v_search_best v_strip_list v_strip_found v_strip_at v_changes_value v_changes_done v_changes_size v_changes_before v_changes_after v_foldings_size v_foldings_ran v_foldings_number v_foldings_kinds v_foldings_trace v_shelves0_holds v_shelves0_body v_shelves0_sort v_shelves0_size v_shelves0_items v_shelves1_holds v_shelves1_body v_shelves1_sort v_shelves1_size v_shelves1_items v_shelves2_holds v_shelves2_body v_shelves2_sort v_shelves2_size v_shelves2_items v_shelves3_holds v_shelves3_body v_shelves3_sort v_shelves3_size v_shelves3_items v_shelves4_holds v_shelves4_body v_shelves4_sort v_shelves4_size v_shelves4_items v_shelves5_holds v_shelves5_body v_shelves5_sort v_shelves5_size v_shelves5_items m_keptMany m_done m_rowsOf m_columnsOf m_folded m_wronged m_tapeMany m_textMany m_base m_at m_ends m_fault m_opened m_bentMany m_bentWrong m_moreWorn m_planned m_allWrong m_allWorn m_z m_wishedField m_isFound m_bestWrong m_bestWorn m_bestMany m_soughtBy m_sought m_soughtAt m_foundMany m_foundOrder m_isKept m_imageRows m_imageColumns m_imageFolded m_imageWronged m_bodies m_ran m_ownKind m_ownNumber m_limit m_changeWas m_changeIs m_shapeRows m_shapeColumns m_row m_column m_below m_face m_worn m_lastBend m_tape m_text m_names m_bends m_high m_to m_pileSize m_planLine m_planWay m_way1 m_bestWay m_order1 m_placeIn m_bodyKind m_trace m_shelf m_many m_items m_carried H locs u_0 u_1 u_2 u_3 u_4 u_5 u_6 u_7 u_8 u_9 u_10 u_11 u_12 u_13 u_14 u_15 u_16 u_17 u_18 t_0 t_1 t_2 t_3 t_4 t_5 t_6 t_7 w_0 w_1 hP hD hS)
set_option maxHeartbeats 8000000 in
set_option maxRecDepth 100000 in
theorem ls_10 {p : Program} {l : Launch} {e : Env} {s : State} {m : MethodId} {below : List Frame} {meth : Method} {c : Code} {D : va_G} {cI cL cS cH : ClassId} {bb : Nat} {a b : Nat → Nat} {cells slots : Nat} {Q : State → Prop} {L : Nat} {xs : Nat → Int32} {x3 : Int32} {ls : Array Slot} (C0 : mm_Cx p s m #[Value.ref bb] meth c RL code 4 ret D (mm_T cI cL cS cH) (fun q => s.heap.size ≤ q)) (hX : va_X bb L xs s s.heap) (hbl : bb < s.heap.size) (hi_1 : vp_in (x3 + (1 : Int32)) L) (hc1 : cells ≤ room_1.cells) (hc2 : slots ≤ room_1.slots) (hl : lv_has ls 4 [(0, .ref bb), (1, .ref (a 0)), (2, .ref (b 0)), (3, .int x3)]) (K : lw_St p l e s m below meth c D cI cL cS cH bb a b cells slots Q 1391 ls) : lw_St p l e s m below meth c D cI cL cS cH bb a b cells slots Q 454 ls := by
  intro v_hasImage v_now_rows v_now_cols v_now_high v_now_wide v_now_folds v_now_wrong v_now_more v_now_rowOf v_now_colOf v_now_below v_now_face v_now_worn v_now_last v_now_bend v_now_tall v_kept_rows v_kept_cols v_kept_high v_kept_wide v_kept_folds v_kept_wrong v_kept_more v_kept_rowOf v_kept_colOf v_kept_below v_kept_face v_kept_worn v_kept_last v_kept_bend v_kept_tall v_wearing_size v_wearing_stepCount v_wearing_draftCount v_wearing_place v_wearing_fault v_wearing_stacked v_wearing_tape v_wearing_steps v_wearing_draft v_wearing_stack v_planned_size v_planned_trial_rows v_planned_trial_cols v_planned_trial_high v_planned_trial_wide v_planned_trial_folds v_planned_trial_wrong v_planned_trial_more v_planned_trial_rowOf v_planned_trial_colOf v_planned_trial_below v_planned_trial_face v_planned_trial_worn v_planned_trial_last v_planned_trial_bend v_planned_trial_tall v_planned_lines v_planned_ways v_search_found v_search_wrong v_search_more v_search_folds v_search_wanted v_search_levels0_rows v_search_levels0_cols v_search_levels0_high v_search_levels0_wide v_search_levels0_folds v_search_levels0_wrong v_search_levels0_more v_search_levels0_rowOf v_search_levels0_colOf v_search_levels0_below v_search_levels0_face v_search_levels0_worn v_search_levels0_last v_search_levels0_bend v_search_levels0_tall v_search_levels1_rows v_search_levels1_cols v_search_levels1_high v_search_levels1_wide v_search_levels1_folds v_search_levels1_wrong v_search_levels1_more v_search_levels1_rowOf v_search_levels1_colOf v_search_levels1_below v_search_levels1_face v_search_levels1_worn v_search_levels1_last v_search_levels1_bend v_search_levels1_tall v_search_levels2_rows v_search_levels2_cols v_search_levels2_high v_search_levels2_wide v_search_levels2_folds v_search_levels2_wrong v_search_levels2_more v_search_levels2_rowOf v_search_levels2_colOf v_search_levels2_below v_search_levels2_face v_search_levels2_worn v_search_levels2_last v_search_levels2_bend v_search_levels2_tall v_search_levels3_rows v_search_levels3_cols v_search_levels3_high v_search_levels3_wide v_search_levels3_folds v_search_levels3_wrong v_search_levels3_more v_search_levels3_rowOf v_search_levels3_colOf v_search_levels3_below v_search_levels3_face v_search_levels3_worn v_search_levels3_last v_search_levels3_bend v_search_levels3_tall v_search_path v_search_best v_strip_list v_strip_found v_strip_at v_changes_value v_changes_done v_changes_size v_changes_before v_changes_after v_foldings_size v_foldings_ran v_foldings_number v_foldings_kinds v_foldings_trace v_shelves0_holds v_shelves0_body v_shelves0_sort v_shelves0_size v_shelves0_items v_shelves1_holds v_shelves1_body v_shelves1_sort v_shelves1_size v_shelves1_items v_shelves2_holds v_shelves2_body v_shelves2_sort v_shelves2_size v_shelves2_items v_shelves3_holds v_shelves3_body v_shelves3_sort v_shelves3_size v_shelves3_items v_shelves4_holds v_shelves4_body v_shelves4_sort v_shelves4_size v_shelves4_items v_shelves5_holds v_shelves5_body v_shelves5_sort v_shelves5_size v_shelves5_items m_keptMany m_done m_rowsOf m_columnsOf m_folded m_wronged m_tapeMany m_textMany m_base m_at m_ends m_fault m_opened m_bentMany m_bentWrong m_moreWorn m_planned m_allWrong m_allWorn m_z m_wishedField m_isFound m_bestWrong m_bestWorn m_bestMany m_soughtBy m_sought m_soughtAt m_foundMany m_foundOrder m_isKept m_imageRows m_imageColumns m_imageFolded m_imageWronged m_bodies m_ran m_ownKind m_ownNumber m_limit m_changeWas m_changeIs m_shapeRows m_shapeColumns m_row m_column m_below m_face m_worn m_lastBend m_tape m_text m_names m_bends m_high m_to m_pileSize m_planLine m_planWay m_way1 m_bestWay m_order1 m_placeIn m_bodyKind m_trace m_shelf m_many m_items m_carried H locs u_0 u_1 u_2 u_3 u_4 u_5 u_6 u_7 u_8 u_9 u_10 u_11 u_12 u_13 u_14 u_15 u_16 u_17 u_18 t_0 t_1 t_2 t_3 t_4 t_5 t_6 t_7 hr_0 hr_1 hP hD hS
  obtain ⟨r8, h8, q8⟩ := st8_led (x1 := (xs (x3 + (1 : Int32)).toNatClampNeg)) (v_now_folds := v_now_folds) (v_now_wrong := v_now_wrong) (v_changes_value := v_changes_value) u_0
  obtain ⟨r9, h9, q9⟩ := st9_led (x1 := (xs (x3 + (1 : Int32)).toNatClampNeg)) (v_folded := m_folded) (v_wronged := m_wronged) t_0 t_1
  exact lc_10 C0 hX hbl hi_1 rfl h8 h9 hc1 hc2 hP hD hS hl (fun H locs hP hD hS => K v_hasImage v_now_rows v_now_cols v_now_high v_now_wide v_now_folds v_now_wrong v_now_more v_now_rowOf v_now_colOf v_now_below v_now_face v_now_worn v_now_last v_now_bend v_now_tall v_kept_rows v_kept_cols v_kept_high v_kept_wide v_kept_folds v_kept_wrong v_kept_more v_kept_rowOf v_kept_colOf v_kept_below v_kept_face v_kept_worn v_kept_last v_kept_bend v_kept_tall v_wearing_size v_wearing_stepCount v_wearing_draftCount v_wearing_place v_wearing_fault v_wearing_stacked v_wearing_tape v_wearing_steps v_wearing_draft v_wearing_stack v_planned_size v_planned_trial_rows v_planned_trial_cols v_planned_trial_high v_planned_trial_wide v_planned_trial_folds v_planned_trial_wrong v_planned_trial_more v_planned_trial_rowOf v_planned_trial_colOf v_planned_trial_below v_planned_trial_face v_planned_trial_worn v_planned_trial_last v_planned_trial_bend v_planned_trial_tall v_planned_lines v_planned_ways v_search_found v_search_wrong v_search_more v_search_folds v_search_wanted v_search_levels0_rows v_search_levels0_cols v_search_levels0_high v_search_levels0_wide v_search_levels0_folds v_search_levels0_wrong v_search_levels0_more v_search_levels0_rowOf v_search_levels0_colOf v_search_levels0_below v_search_levels0_face v_search_levels0_worn v_search_levels0_last v_search_levels0_bend v_search_levels0_tall v_search_levels1_rows v_search_levels1_cols v_search_levels1_high v_search_levels1_wide v_search_levels1_folds v_search_levels1_wrong v_search_levels1_more v_search_levels1_rowOf v_search_levels1_colOf v_search_levels1_below v_search_levels1_face v_search_levels1_worn v_search_levels1_last v_search_levels1_bend v_search_levels1_tall v_search_levels2_rows v_search_levels2_cols v_search_levels2_high v_search_levels2_wide v_search_levels2_folds v_search_levels2_wrong v_search_levels2_more v_search_levels2_rowOf v_search_levels2_colOf v_search_levels2_below v_search_levels2_face v_search_levels2_worn v_search_levels2_last v_search_levels2_bend v_search_levels2_tall v_search_levels3_rows v_search_levels3_cols v_search_levels3_high v_search_levels3_wide v_search_levels3_folds v_search_levels3_wrong v_search_levels3_more v_search_levels3_rowOf v_search_levels3_colOf v_search_levels3_below v_search_levels3_face v_search_levels3_worn v_search_levels3_last v_search_levels3_bend v_search_levels3_tall v_search_path v_search_best v_strip_list v_strip_found v_strip_at v_changes_value v_changes_done v_changes_size v_changes_before v_changes_after v_foldings_size v_foldings_ran v_foldings_number v_foldings_kinds v_foldings_trace v_shelves0_holds v_shelves0_body v_shelves0_sort v_shelves0_size v_shelves0_items v_shelves1_holds v_shelves1_body v_shelves1_sort v_shelves1_size v_shelves1_items v_shelves2_holds v_shelves2_body v_shelves2_sort v_shelves2_size v_shelves2_items v_shelves3_holds v_shelves3_body v_shelves3_sort v_shelves3_size v_shelves3_items v_shelves4_holds v_shelves4_body v_shelves4_sort v_shelves4_size v_shelves4_items v_shelves5_holds v_shelves5_body v_shelves5_sort v_shelves5_size v_shelves5_items m_keptMany m_done m_rowsOf m_columnsOf m_folded m_wronged m_tapeMany m_textMany m_base m_at m_ends m_fault m_opened m_bentMany m_bentWrong m_moreWorn m_planned m_allWrong m_allWorn m_z m_wishedField m_isFound m_bestWrong m_bestWorn m_bestMany m_soughtBy m_sought m_soughtAt m_foundMany m_foundOrder m_isKept m_imageRows m_imageColumns m_imageFolded m_imageWronged m_bodies m_ran m_ownKind m_ownNumber m_limit m_changeWas m_changeIs m_shapeRows m_shapeColumns m_row m_column m_below m_face m_worn m_lastBend m_tape m_text m_names m_bends m_high m_to m_pileSize m_planLine m_planWay m_way1 m_bestWay m_order1 m_placeIn m_bodyKind m_trace m_shelf m_many m_items m_carried H locs u_0 u_1 u_2 u_3 u_4 u_5 u_6 u_7 u_8 u_9 u_10 u_11 u_12 u_13 u_14 u_15 u_16 u_17 u_18 t_0 t_1 t_2 t_3 t_4 t_5 t_6 t_7 hr_0 hr_1 hP hD hS)
set_option maxHeartbeats 8000000 in
set_option maxRecDepth 100000 in
theorem ls_11 {p : Program} {l : Launch} {e : Env} {s : State} {m : MethodId} {below : List Frame} {meth : Method} {c : Code} {D : va_G} {cI cL cS cH : ClassId} {bb : Nat} {a b : Nat → Nat} {cells slots : Nat} {Q : State → Prop} {L : Nat} {xs : Nat → Int32} {x3 : Int32} {ls : Array Slot} (C0 : mm_Cx p s m #[Value.ref bb] meth c RL code 4 ret D (mm_T cI cL cS cH) (fun q => s.heap.size ≤ q)) (hX : va_X bb L xs s s.heap) (hbl : bb < s.heap.size) (hi_1 : vp_in (x3 + (1 : Int32)) L) (hi_2 : vp_in (x3 + (2 : Int32)) L) (hc1 : cells ≤ room_1.cells) (hc2 : slots ≤ room_1.slots) (hl : lv_has ls 4 [(0, .ref bb), (1, .ref (a 0)), (2, .ref (b 0)), (3, .int x3)]) (K : lw_St p l e s m below meth c D cI cL cS cH bb a b cells slots Q 1391 ls) : lw_St p l e s m below meth c D cI cL cS cH bb a b cells slots Q 477 ls := by
  intro v_hasImage v_now_rows v_now_cols v_now_high v_now_wide v_now_folds v_now_wrong v_now_more v_now_rowOf v_now_colOf v_now_below v_now_face v_now_worn v_now_last v_now_bend v_now_tall v_kept_rows v_kept_cols v_kept_high v_kept_wide v_kept_folds v_kept_wrong v_kept_more v_kept_rowOf v_kept_colOf v_kept_below v_kept_face v_kept_worn v_kept_last v_kept_bend v_kept_tall v_wearing_size v_wearing_stepCount v_wearing_draftCount v_wearing_place v_wearing_fault v_wearing_stacked v_wearing_tape v_wearing_steps v_wearing_draft v_wearing_stack v_planned_size v_planned_trial_rows v_planned_trial_cols v_planned_trial_high v_planned_trial_wide v_planned_trial_folds v_planned_trial_wrong v_planned_trial_more v_planned_trial_rowOf v_planned_trial_colOf v_planned_trial_below v_planned_trial_face v_planned_trial_worn v_planned_trial_last v_planned_trial_bend v_planned_trial_tall v_planned_lines v_planned_ways v_search_found v_search_wrong v_search_more v_search_folds v_search_wanted v_search_levels0_rows v_search_levels0_cols v_search_levels0_high v_search_levels0_wide v_search_levels0_folds v_search_levels0_wrong v_search_levels0_more v_search_levels0_rowOf v_search_levels0_colOf v_search_levels0_below v_search_levels0_face v_search_levels0_worn v_search_levels0_last v_search_levels0_bend v_search_levels0_tall v_search_levels1_rows v_search_levels1_cols v_search_levels1_high v_search_levels1_wide v_search_levels1_folds v_search_levels1_wrong v_search_levels1_more v_search_levels1_rowOf v_search_levels1_colOf v_search_levels1_below v_search_levels1_face v_search_levels1_worn v_search_levels1_last v_search_levels1_bend v_search_levels1_tall v_search_levels2_rows v_search_levels2_cols v_search_levels2_high v_search_levels2_wide v_search_levels2_folds v_search_levels2_wrong v_search_levels2_more v_search_levels2_rowOf v_search_levels2_colOf v_search_levels2_below v_search_levels2_face v_search_levels2_worn v_search_levels2_last v_search_levels2_bend v_search_levels2_tall v_search_levels3_rows v_search_levels3_cols v_search_levels3_high v_search_levels3_wide v_search_levels3_folds v_search_levels3_wrong v_search_levels3_more v_search_levels3_rowOf v_search_levels3_colOf v_search_levels3_below v_search_levels3_face v_search_levels3_worn v_search_levels3_last v_search_levels3_bend v_search_levels3_tall v_search_path v_search_best v_strip_list v_strip_found v_strip_at v_changes_value v_changes_done v_changes_size v_changes_before v_changes_after v_foldings_size v_foldings_ran v_foldings_number v_foldings_kinds v_foldings_trace v_shelves0_holds v_shelves0_body v_shelves0_sort v_shelves0_size v_shelves0_items v_shelves1_holds v_shelves1_body v_shelves1_sort v_shelves1_size v_shelves1_items v_shelves2_holds v_shelves2_body v_shelves2_sort v_shelves2_size v_shelves2_items v_shelves3_holds v_shelves3_body v_shelves3_sort v_shelves3_size v_shelves3_items v_shelves4_holds v_shelves4_body v_shelves4_sort v_shelves4_size v_shelves4_items v_shelves5_holds v_shelves5_body v_shelves5_sort v_shelves5_size v_shelves5_items m_keptMany m_done m_rowsOf m_columnsOf m_folded m_wronged m_tapeMany m_textMany m_base m_at m_ends m_fault m_opened m_bentMany m_bentWrong m_moreWorn m_planned m_allWrong m_allWorn m_z m_wishedField m_isFound m_bestWrong m_bestWorn m_bestMany m_soughtBy m_sought m_soughtAt m_foundMany m_foundOrder m_isKept m_imageRows m_imageColumns m_imageFolded m_imageWronged m_bodies m_ran m_ownKind m_ownNumber m_limit m_changeWas m_changeIs m_shapeRows m_shapeColumns m_row m_column m_below m_face m_worn m_lastBend m_tape m_text m_names m_bends m_high m_to m_pileSize m_planLine m_planWay m_way1 m_bestWay m_order1 m_placeIn m_bodyKind m_trace m_shelf m_many m_items m_carried H locs u_0 u_1 u_2 u_3 u_4 u_5 u_6 u_7 u_8 u_9 u_10 u_11 u_12 u_13 u_14 u_15 u_16 u_17 u_18 t_0 t_1 t_2 t_3 t_4 t_5 t_6 t_7 hr_0 hr_1 hP hD hS
  obtain ⟨⟨r8, p_planned_size, p_planned_lines, p_planned_ways⟩, h8, q8⟩ := st8_plan (x1 := (xs (x3 + (1 : Int32)).toNatClampNeg)) (x2 := (xs (x3 + (2 : Int32)).toNatClampNeg)) u_3
  have y_0 : gi_pl p_planned_size p_planned_lines p_planned_ways := q8
  obtain ⟨⟨r9, q_planned, q_planLine, q_planWay⟩, h9, q9⟩ := st9_plan (x1 := (xs (x3 + (1 : Int32)).toNatClampNeg)) (x2 := (xs (x3 + (2 : Int32)).toNatClampNeg)) t_3
  have z_0 : gm_pl q_planned q_planLine q_planWay := q9
  exact lc_11 C0 hX hbl hi_1 rfl hi_2 rfl h8 h9 hc1 hc2 hP hD hS hl (fun H locs hP hD hS => K v_hasImage v_now_rows v_now_cols v_now_high v_now_wide v_now_folds v_now_wrong v_now_more v_now_rowOf v_now_colOf v_now_below v_now_face v_now_worn v_now_last v_now_bend v_now_tall v_kept_rows v_kept_cols v_kept_high v_kept_wide v_kept_folds v_kept_wrong v_kept_more v_kept_rowOf v_kept_colOf v_kept_below v_kept_face v_kept_worn v_kept_last v_kept_bend v_kept_tall v_wearing_size v_wearing_stepCount v_wearing_draftCount v_wearing_place v_wearing_fault v_wearing_stacked v_wearing_tape v_wearing_steps v_wearing_draft v_wearing_stack p_planned_size v_planned_trial_rows v_planned_trial_cols v_planned_trial_high v_planned_trial_wide v_planned_trial_folds v_planned_trial_wrong v_planned_trial_more v_planned_trial_rowOf v_planned_trial_colOf v_planned_trial_below v_planned_trial_face v_planned_trial_worn v_planned_trial_last v_planned_trial_bend v_planned_trial_tall p_planned_lines p_planned_ways v_search_found v_search_wrong v_search_more v_search_folds v_search_wanted v_search_levels0_rows v_search_levels0_cols v_search_levels0_high v_search_levels0_wide v_search_levels0_folds v_search_levels0_wrong v_search_levels0_more v_search_levels0_rowOf v_search_levels0_colOf v_search_levels0_below v_search_levels0_face v_search_levels0_worn v_search_levels0_last v_search_levels0_bend v_search_levels0_tall v_search_levels1_rows v_search_levels1_cols v_search_levels1_high v_search_levels1_wide v_search_levels1_folds v_search_levels1_wrong v_search_levels1_more v_search_levels1_rowOf v_search_levels1_colOf v_search_levels1_below v_search_levels1_face v_search_levels1_worn v_search_levels1_last v_search_levels1_bend v_search_levels1_tall v_search_levels2_rows v_search_levels2_cols v_search_levels2_high v_search_levels2_wide v_search_levels2_folds v_search_levels2_wrong v_search_levels2_more v_search_levels2_rowOf v_search_levels2_colOf v_search_levels2_below v_search_levels2_face v_search_levels2_worn v_search_levels2_last v_search_levels2_bend v_search_levels2_tall v_search_levels3_rows v_search_levels3_cols v_search_levels3_high v_search_levels3_wide v_search_levels3_folds v_search_levels3_wrong v_search_levels3_more v_search_levels3_rowOf v_search_levels3_colOf v_search_levels3_below v_search_levels3_face v_search_levels3_worn v_search_levels3_last v_search_levels3_bend v_search_levels3_tall v_search_path v_search_best v_strip_list v_strip_found v_strip_at v_changes_value v_changes_done v_changes_size v_changes_before v_changes_after v_foldings_size v_foldings_ran v_foldings_number v_foldings_kinds v_foldings_trace v_shelves0_holds v_shelves0_body v_shelves0_sort v_shelves0_size v_shelves0_items v_shelves1_holds v_shelves1_body v_shelves1_sort v_shelves1_size v_shelves1_items v_shelves2_holds v_shelves2_body v_shelves2_sort v_shelves2_size v_shelves2_items v_shelves3_holds v_shelves3_body v_shelves3_sort v_shelves3_size v_shelves3_items v_shelves4_holds v_shelves4_body v_shelves4_sort v_shelves4_size v_shelves4_items v_shelves5_holds v_shelves5_body v_shelves5_sort v_shelves5_size v_shelves5_items m_keptMany m_done m_rowsOf m_columnsOf m_folded m_wronged m_tapeMany m_textMany m_base m_at m_ends m_fault m_opened m_bentMany m_bentWrong m_moreWorn q_planned m_allWrong m_allWorn m_z m_wishedField m_isFound m_bestWrong m_bestWorn m_bestMany m_soughtBy m_sought m_soughtAt m_foundMany m_foundOrder m_isKept m_imageRows m_imageColumns m_imageFolded m_imageWronged m_bodies m_ran m_ownKind m_ownNumber m_limit m_changeWas m_changeIs m_shapeRows m_shapeColumns m_row m_column m_below m_face m_worn m_lastBend m_tape m_text m_names m_bends m_high m_to m_pileSize q_planLine q_planWay m_way1 m_bestWay m_order1 m_placeIn m_bodyKind m_trace m_shelf m_many m_items m_carried H locs u_0 u_1 u_2 y_0 u_4 u_5 u_6 u_7 u_8 u_9 u_10 u_11 u_12 u_13 u_14 u_15 u_16 u_17 u_18 t_0 t_1 t_2 z_0 t_4 t_5 t_6 t_7 hr_0 hr_1 hP hD hS)
set_option maxHeartbeats 8000000 in
set_option maxRecDepth 100000 in
theorem ls_12 {p : Program} {l : Launch} {e : Env} {s : State} {m : MethodId} {below : List Frame} {meth : Method} {c : Code} {D : va_G} {cI cL cS cH : ClassId} {bb : Nat} {a b : Nat → Nat} {cells slots : Nat} {Q : State → Prop} {L : Nat} {xs : Nat → Int32} {x3 : Int32} {ls : Array Slot} (C0 : mm_Cx p s m #[Value.ref bb] meth c RL code 4 ret D (mm_T cI cL cS cH) (fun q => s.heap.size ≤ q)) (hX : va_X bb L xs s s.heap) (hbl : bb < s.heap.size) (hi_1 : vp_in (x3 + (1 : Int32)) L) (hi_2 : vp_in (x3 + (2 : Int32)) L) (hi_3 : vp_in (x3 + (3 : Int32)) L) (hc1 : cells ≤ room_1.cells) (hc2 : slots ≤ room_1.slots) (hl : lv_has ls 4 [(0, .ref bb), (1, .ref (a 0)), (2, .ref (b 0)), (3, .int x3)]) (K : lw_St p l e s m below meth c D cI cL cS cH bb a b cells slots Q 1391 ls) : lw_St p l e s m below meth c D cI cL cS cH bb a b cells slots Q 510 ls := by
  intro v_hasImage v_now_rows v_now_cols v_now_high v_now_wide v_now_folds v_now_wrong v_now_more v_now_rowOf v_now_colOf v_now_below v_now_face v_now_worn v_now_last v_now_bend v_now_tall v_kept_rows v_kept_cols v_kept_high v_kept_wide v_kept_folds v_kept_wrong v_kept_more v_kept_rowOf v_kept_colOf v_kept_below v_kept_face v_kept_worn v_kept_last v_kept_bend v_kept_tall v_wearing_size v_wearing_stepCount v_wearing_draftCount v_wearing_place v_wearing_fault v_wearing_stacked v_wearing_tape v_wearing_steps v_wearing_draft v_wearing_stack v_planned_size v_planned_trial_rows v_planned_trial_cols v_planned_trial_high v_planned_trial_wide v_planned_trial_folds v_planned_trial_wrong v_planned_trial_more v_planned_trial_rowOf v_planned_trial_colOf v_planned_trial_below v_planned_trial_face v_planned_trial_worn v_planned_trial_last v_planned_trial_bend v_planned_trial_tall v_planned_lines v_planned_ways v_search_found v_search_wrong v_search_more v_search_folds v_search_wanted v_search_levels0_rows v_search_levels0_cols v_search_levels0_high v_search_levels0_wide v_search_levels0_folds v_search_levels0_wrong v_search_levels0_more v_search_levels0_rowOf v_search_levels0_colOf v_search_levels0_below v_search_levels0_face v_search_levels0_worn v_search_levels0_last v_search_levels0_bend v_search_levels0_tall v_search_levels1_rows v_search_levels1_cols v_search_levels1_high v_search_levels1_wide v_search_levels1_folds v_search_levels1_wrong v_search_levels1_more v_search_levels1_rowOf v_search_levels1_colOf v_search_levels1_below v_search_levels1_face v_search_levels1_worn v_search_levels1_last v_search_levels1_bend v_search_levels1_tall v_search_levels2_rows v_search_levels2_cols v_search_levels2_high v_search_levels2_wide v_search_levels2_folds v_search_levels2_wrong v_search_levels2_more v_search_levels2_rowOf v_search_levels2_colOf v_search_levels2_below v_search_levels2_face v_search_levels2_worn v_search_levels2_last v_search_levels2_bend v_search_levels2_tall v_search_levels3_rows v_search_levels3_cols v_search_levels3_high v_search_levels3_wide v_search_levels3_folds v_search_levels3_wrong v_search_levels3_more v_search_levels3_rowOf v_search_levels3_colOf v_search_levels3_below v_search_levels3_face v_search_levels3_worn v_search_levels3_last v_search_levels3_bend v_search_levels3_tall v_search_path v_search_best v_strip_list v_strip_found v_strip_at v_changes_value v_changes_done v_changes_size v_changes_before v_changes_after v_foldings_size v_foldings_ran v_foldings_number v_foldings_kinds v_foldings_trace v_shelves0_holds v_shelves0_body v_shelves0_sort v_shelves0_size v_shelves0_items v_shelves1_holds v_shelves1_body v_shelves1_sort v_shelves1_size v_shelves1_items v_shelves2_holds v_shelves2_body v_shelves2_sort v_shelves2_size v_shelves2_items v_shelves3_holds v_shelves3_body v_shelves3_sort v_shelves3_size v_shelves3_items v_shelves4_holds v_shelves4_body v_shelves4_sort v_shelves4_size v_shelves4_items v_shelves5_holds v_shelves5_body v_shelves5_sort v_shelves5_size v_shelves5_items m_keptMany m_done m_rowsOf m_columnsOf m_folded m_wronged m_tapeMany m_textMany m_base m_at m_ends m_fault m_opened m_bentMany m_bentWrong m_moreWorn m_planned m_allWrong m_allWorn m_z m_wishedField m_isFound m_bestWrong m_bestWorn m_bestMany m_soughtBy m_sought m_soughtAt m_foundMany m_foundOrder m_isKept m_imageRows m_imageColumns m_imageFolded m_imageWronged m_bodies m_ran m_ownKind m_ownNumber m_limit m_changeWas m_changeIs m_shapeRows m_shapeColumns m_row m_column m_below m_face m_worn m_lastBend m_tape m_text m_names m_bends m_high m_to m_pileSize m_planLine m_planWay m_way1 m_bestWay m_order1 m_placeIn m_bodyKind m_trace m_shelf m_many m_items m_carried H locs u_0 u_1 u_2 u_3 u_4 u_5 u_6 u_7 u_8 u_9 u_10 u_11 u_12 u_13 u_14 u_15 u_16 u_17 u_18 t_0 t_1 t_2 t_3 t_4 t_5 t_6 t_7 hr_0 hr_1 hP hD hS
  obtain ⟨⟨r8, p_planned_size, p_planned_lines, p_planned_ways⟩, h8, q8⟩ := st8_plans (x1 := (xs (x3 + (1 : Int32)).toNatClampNeg)) (x2 := (xs (x3 + (2 : Int32)).toNatClampNeg)) (x3 := (xs (x3 + (3 : Int32)).toNatClampNeg)) (v_shelves0_holds := v_shelves0_holds) (v_shelves0_sort := v_shelves0_sort) (v_shelves1_holds := v_shelves1_holds) (v_shelves1_sort := v_shelves1_sort) (v_shelves2_holds := v_shelves2_holds) (v_shelves2_sort := v_shelves2_sort) (v_shelves3_holds := v_shelves3_holds) (v_shelves3_sort := v_shelves3_sort) (v_shelves4_holds := v_shelves4_holds) (v_shelves4_sort := v_shelves4_sort) (v_shelves5_holds := v_shelves5_holds) (v_shelves5_sort := v_shelves5_sort) u_3 u_4 u_5 u_6 u_7 u_8 u_9
  have y_0 : gi_pl p_planned_size p_planned_lines p_planned_ways := q8
  obtain ⟨⟨r9, q_planned, q_planLine, q_planWay⟩, h9, q9⟩ := st9_plans (x1 := (xs (x3 + (1 : Int32)).toNatClampNeg)) (x2 := (xs (x3 + (2 : Int32)).toNatClampNeg)) (x3 := (xs (x3 + (3 : Int32)).toNatClampNeg)) t_3 t_7
  have z_0 : gm_pl q_planned q_planLine q_planWay := q9
  exact lc_12 C0 hX hbl hi_1 rfl hi_2 rfl hi_3 rfl h8 h9 hc1 hc2 hP hD hS hl (fun H locs hP hD hS => K v_hasImage v_now_rows v_now_cols v_now_high v_now_wide v_now_folds v_now_wrong v_now_more v_now_rowOf v_now_colOf v_now_below v_now_face v_now_worn v_now_last v_now_bend v_now_tall v_kept_rows v_kept_cols v_kept_high v_kept_wide v_kept_folds v_kept_wrong v_kept_more v_kept_rowOf v_kept_colOf v_kept_below v_kept_face v_kept_worn v_kept_last v_kept_bend v_kept_tall v_wearing_size v_wearing_stepCount v_wearing_draftCount v_wearing_place v_wearing_fault v_wearing_stacked v_wearing_tape v_wearing_steps v_wearing_draft v_wearing_stack p_planned_size v_planned_trial_rows v_planned_trial_cols v_planned_trial_high v_planned_trial_wide v_planned_trial_folds v_planned_trial_wrong v_planned_trial_more v_planned_trial_rowOf v_planned_trial_colOf v_planned_trial_below v_planned_trial_face v_planned_trial_worn v_planned_trial_last v_planned_trial_bend v_planned_trial_tall p_planned_lines p_planned_ways v_search_found v_search_wrong v_search_more v_search_folds v_search_wanted v_search_levels0_rows v_search_levels0_cols v_search_levels0_high v_search_levels0_wide v_search_levels0_folds v_search_levels0_wrong v_search_levels0_more v_search_levels0_rowOf v_search_levels0_colOf v_search_levels0_below v_search_levels0_face v_search_levels0_worn v_search_levels0_last v_search_levels0_bend v_search_levels0_tall v_search_levels1_rows v_search_levels1_cols v_search_levels1_high v_search_levels1_wide v_search_levels1_folds v_search_levels1_wrong v_search_levels1_more v_search_levels1_rowOf v_search_levels1_colOf v_search_levels1_below v_search_levels1_face v_search_levels1_worn v_search_levels1_last v_search_levels1_bend v_search_levels1_tall v_search_levels2_rows v_search_levels2_cols v_search_levels2_high v_search_levels2_wide v_search_levels2_folds v_search_levels2_wrong v_search_levels2_more v_search_levels2_rowOf v_search_levels2_colOf v_search_levels2_below v_search_levels2_face v_search_levels2_worn v_search_levels2_last v_search_levels2_bend v_search_levels2_tall v_search_levels3_rows v_search_levels3_cols v_search_levels3_high v_search_levels3_wide v_search_levels3_folds v_search_levels3_wrong v_search_levels3_more v_search_levels3_rowOf v_search_levels3_colOf v_search_levels3_below v_search_levels3_face v_search_levels3_worn v_search_levels3_last v_search_levels3_bend v_search_levels3_tall v_search_path v_search_best v_strip_list v_strip_found v_strip_at v_changes_value v_changes_done v_changes_size v_changes_before v_changes_after v_foldings_size v_foldings_ran v_foldings_number v_foldings_kinds v_foldings_trace v_shelves0_holds v_shelves0_body v_shelves0_sort v_shelves0_size v_shelves0_items v_shelves1_holds v_shelves1_body v_shelves1_sort v_shelves1_size v_shelves1_items v_shelves2_holds v_shelves2_body v_shelves2_sort v_shelves2_size v_shelves2_items v_shelves3_holds v_shelves3_body v_shelves3_sort v_shelves3_size v_shelves3_items v_shelves4_holds v_shelves4_body v_shelves4_sort v_shelves4_size v_shelves4_items v_shelves5_holds v_shelves5_body v_shelves5_sort v_shelves5_size v_shelves5_items m_keptMany m_done m_rowsOf m_columnsOf m_folded m_wronged m_tapeMany m_textMany m_base m_at m_ends m_fault m_opened m_bentMany m_bentWrong m_moreWorn q_planned m_allWrong m_allWorn m_z m_wishedField m_isFound m_bestWrong m_bestWorn m_bestMany m_soughtBy m_sought m_soughtAt m_foundMany m_foundOrder m_isKept m_imageRows m_imageColumns m_imageFolded m_imageWronged m_bodies m_ran m_ownKind m_ownNumber m_limit m_changeWas m_changeIs m_shapeRows m_shapeColumns m_row m_column m_below m_face m_worn m_lastBend m_tape m_text m_names m_bends m_high m_to m_pileSize q_planLine q_planWay m_way1 m_bestWay m_order1 m_placeIn m_bodyKind m_trace m_shelf m_many m_items m_carried H locs u_0 u_1 u_2 y_0 u_4 u_5 u_6 u_7 u_8 u_9 u_10 u_11 u_12 u_13 u_14 u_15 u_16 u_17 u_18 t_0 t_1 t_2 z_0 t_4 t_5 t_6 t_7 hr_0 hr_1 hP hD hS)
set_option maxHeartbeats 8000000 in
set_option maxRecDepth 100000 in
theorem ls_13 {p : Program} {l : Launch} {e : Env} {s : State} {m : MethodId} {below : List Frame} {meth : Method} {c : Code} {D : va_G} {cI cL cS cH : ClassId} {bb : Nat} {a b : Nat → Nat} {cells slots : Nat} {Q : State → Prop} {L : Nat} {xs : Nat → Int32} {x3 : Int32} {ls : Array Slot} (C0 : mm_Cx p s m #[Value.ref bb] meth c RL code 4 ret D (mm_T cI cL cS cH) (fun q => s.heap.size ≤ q)) (hX : va_X bb L xs s s.heap) (hbl : bb < s.heap.size) (hi_1 : vp_in (x3 + (1 : Int32)) L) (hc1 : cells ≤ room_1.cells) (hc2 : slots ≤ room_1.slots) (hl : lv_has ls 4 [(0, .ref bb), (1, .ref (a 0)), (2, .ref (b 0)), (3, .int x3)]) (K : lw_St p l e s m below meth c D cI cL cS cH bb a b cells slots Q 1391 ls) : lw_St p l e s m below meth c D cI cL cS cH bb a b cells slots Q 553 ls := by
  intro v_hasImage v_now_rows v_now_cols v_now_high v_now_wide v_now_folds v_now_wrong v_now_more v_now_rowOf v_now_colOf v_now_below v_now_face v_now_worn v_now_last v_now_bend v_now_tall v_kept_rows v_kept_cols v_kept_high v_kept_wide v_kept_folds v_kept_wrong v_kept_more v_kept_rowOf v_kept_colOf v_kept_below v_kept_face v_kept_worn v_kept_last v_kept_bend v_kept_tall v_wearing_size v_wearing_stepCount v_wearing_draftCount v_wearing_place v_wearing_fault v_wearing_stacked v_wearing_tape v_wearing_steps v_wearing_draft v_wearing_stack v_planned_size v_planned_trial_rows v_planned_trial_cols v_planned_trial_high v_planned_trial_wide v_planned_trial_folds v_planned_trial_wrong v_planned_trial_more v_planned_trial_rowOf v_planned_trial_colOf v_planned_trial_below v_planned_trial_face v_planned_trial_worn v_planned_trial_last v_planned_trial_bend v_planned_trial_tall v_planned_lines v_planned_ways v_search_found v_search_wrong v_search_more v_search_folds v_search_wanted v_search_levels0_rows v_search_levels0_cols v_search_levels0_high v_search_levels0_wide v_search_levels0_folds v_search_levels0_wrong v_search_levels0_more v_search_levels0_rowOf v_search_levels0_colOf v_search_levels0_below v_search_levels0_face v_search_levels0_worn v_search_levels0_last v_search_levels0_bend v_search_levels0_tall v_search_levels1_rows v_search_levels1_cols v_search_levels1_high v_search_levels1_wide v_search_levels1_folds v_search_levels1_wrong v_search_levels1_more v_search_levels1_rowOf v_search_levels1_colOf v_search_levels1_below v_search_levels1_face v_search_levels1_worn v_search_levels1_last v_search_levels1_bend v_search_levels1_tall v_search_levels2_rows v_search_levels2_cols v_search_levels2_high v_search_levels2_wide v_search_levels2_folds v_search_levels2_wrong v_search_levels2_more v_search_levels2_rowOf v_search_levels2_colOf v_search_levels2_below v_search_levels2_face v_search_levels2_worn v_search_levels2_last v_search_levels2_bend v_search_levels2_tall v_search_levels3_rows v_search_levels3_cols v_search_levels3_high v_search_levels3_wide v_search_levels3_folds v_search_levels3_wrong v_search_levels3_more v_search_levels3_rowOf v_search_levels3_colOf v_search_levels3_below v_search_levels3_face v_search_levels3_worn v_search_levels3_last v_search_levels3_bend v_search_levels3_tall v_search_path v_search_best v_strip_list v_strip_found v_strip_at v_changes_value v_changes_done v_changes_size v_changes_before v_changes_after v_foldings_size v_foldings_ran v_foldings_number v_foldings_kinds v_foldings_trace v_shelves0_holds v_shelves0_body v_shelves0_sort v_shelves0_size v_shelves0_items v_shelves1_holds v_shelves1_body v_shelves1_sort v_shelves1_size v_shelves1_items v_shelves2_holds v_shelves2_body v_shelves2_sort v_shelves2_size v_shelves2_items v_shelves3_holds v_shelves3_body v_shelves3_sort v_shelves3_size v_shelves3_items v_shelves4_holds v_shelves4_body v_shelves4_sort v_shelves4_size v_shelves4_items v_shelves5_holds v_shelves5_body v_shelves5_sort v_shelves5_size v_shelves5_items m_keptMany m_done m_rowsOf m_columnsOf m_folded m_wronged m_tapeMany m_textMany m_base m_at m_ends m_fault m_opened m_bentMany m_bentWrong m_moreWorn m_planned m_allWrong m_allWorn m_z m_wishedField m_isFound m_bestWrong m_bestWorn m_bestMany m_soughtBy m_sought m_soughtAt m_foundMany m_foundOrder m_isKept m_imageRows m_imageColumns m_imageFolded m_imageWronged m_bodies m_ran m_ownKind m_ownNumber m_limit m_changeWas m_changeIs m_shapeRows m_shapeColumns m_row m_column m_below m_face m_worn m_lastBend m_tape m_text m_names m_bends m_high m_to m_pileSize m_planLine m_planWay m_way1 m_bestWay m_order1 m_placeIn m_bodyKind m_trace m_shelf m_many m_items m_carried H locs u_0 u_1 u_2 u_3 u_4 u_5 u_6 u_7 u_8 u_9 u_10 u_11 u_12 u_13 u_14 u_15 u_16 u_17 u_18 t_0 t_1 t_2 t_3 t_4 t_5 t_6 t_7 hr_0 hr_1 hP hD hS
  obtain ⟨⟨r8, p_wearing_stacked, p_wearing_stack, p_planned_trial_rows, p_planned_trial_cols, p_planned_trial_high, p_planned_trial_wide, p_planned_trial_folds, p_planned_trial_wrong, p_planned_trial_more, p_planned_trial_rowOf, p_planned_trial_colOf, p_planned_trial_below, p_planned_trial_face, p_planned_trial_worn, p_planned_trial_last, p_planned_trial_bend, p_planned_trial_tall⟩, h8, q8⟩ := st8_cost (x1 := (xs (x3 + (1 : Int32)).toNatClampNeg)) (v_now_folds := v_now_folds) (v_now_wrong := v_now_wrong) (v_now_more := v_now_more) (v_wearing_stacked := v_wearing_stacked) (v_planned_trial_folds := v_planned_trial_folds) (v_planned_trial_wrong := v_planned_trial_wrong) (v_planned_trial_more := v_planned_trial_more) (v_changes_value := v_changes_value) u_0 u_2 u_3 u_10
  have j8 : gi_la v_wearing_size v_wearing_stepCount v_wearing_draftCount v_wearing_tape v_wearing_steps v_wearing_draft p_wearing_stack ∧ gi_sh p_planned_trial_rows p_planned_trial_cols p_planned_trial_high p_planned_trial_wide p_planned_trial_rowOf p_planned_trial_colOf p_planned_trial_below p_planned_trial_face p_planned_trial_worn p_planned_trial_last p_planned_trial_bend p_planned_trial_tall := q8
  obtain ⟨y_0, y_1⟩ := j8
  obtain ⟨⟨r9, q_base, q_at, q_ends, q_fault, q_opened, q_bentMany, q_bentWrong, q_moreWorn, q_allWrong, q_allWorn, q_z, q_shapeRows, q_shapeColumns, q_row, q_column, q_below, q_face, q_worn, q_lastBend, q_names, q_bends, q_high, q_to, q_pileSize⟩, h9, q9⟩ := st9_cost (x1 := (xs (x3 + (1 : Int32)).toNatClampNeg)) (v_base := m_base) (v_at := m_at) (v_ends := m_ends) (v_fault := m_fault) (v_opened := m_opened) (v_bentMany := m_bentMany) (v_bentWrong := m_bentWrong) (v_moreWorn := m_moreWorn) (v_allWrong := m_allWrong) (v_allWorn := m_allWorn) (v_z := m_z) t_0 t_1 t_2 t_3
  have j9 : gm_sh m_rowsOf m_columnsOf m_isKept m_imageRows m_imageColumns q_shapeRows q_shapeColumns q_row q_column q_below q_face q_worn q_lastBend ∧ gm_tx m_tapeMany m_textMany m_tape m_text q_names q_bends q_high q_to q_pileSize := q9
  obtain ⟨z_0, z_1⟩ := j9
  have w_0 := fk_cost_ge t_0 t_1 t_2 t_3 hr_0 h9
  exact lc_13 C0 hX hbl hi_1 rfl h8 h9 hc1 hc2 hP hD hS hl (fun H locs hP hD hS => K v_hasImage v_now_rows v_now_cols v_now_high v_now_wide v_now_folds v_now_wrong v_now_more v_now_rowOf v_now_colOf v_now_below v_now_face v_now_worn v_now_last v_now_bend v_now_tall v_kept_rows v_kept_cols v_kept_high v_kept_wide v_kept_folds v_kept_wrong v_kept_more v_kept_rowOf v_kept_colOf v_kept_below v_kept_face v_kept_worn v_kept_last v_kept_bend v_kept_tall v_wearing_size v_wearing_stepCount v_wearing_draftCount v_wearing_place v_wearing_fault p_wearing_stacked v_wearing_tape v_wearing_steps v_wearing_draft p_wearing_stack v_planned_size p_planned_trial_rows p_planned_trial_cols p_planned_trial_high p_planned_trial_wide p_planned_trial_folds p_planned_trial_wrong p_planned_trial_more p_planned_trial_rowOf p_planned_trial_colOf p_planned_trial_below p_planned_trial_face p_planned_trial_worn p_planned_trial_last p_planned_trial_bend p_planned_trial_tall v_planned_lines v_planned_ways v_search_found v_search_wrong v_search_more v_search_folds v_search_wanted v_search_levels0_rows v_search_levels0_cols v_search_levels0_high v_search_levels0_wide v_search_levels0_folds v_search_levels0_wrong v_search_levels0_more v_search_levels0_rowOf v_search_levels0_colOf v_search_levels0_below v_search_levels0_face v_search_levels0_worn v_search_levels0_last v_search_levels0_bend v_search_levels0_tall v_search_levels1_rows v_search_levels1_cols v_search_levels1_high v_search_levels1_wide v_search_levels1_folds v_search_levels1_wrong v_search_levels1_more v_search_levels1_rowOf v_search_levels1_colOf v_search_levels1_below v_search_levels1_face v_search_levels1_worn v_search_levels1_last v_search_levels1_bend v_search_levels1_tall v_search_levels2_rows v_search_levels2_cols v_search_levels2_high v_search_levels2_wide v_search_levels2_folds v_search_levels2_wrong v_search_levels2_more v_search_levels2_rowOf v_search_levels2_colOf v_search_levels2_below v_search_levels2_face v_search_levels2_worn v_search_levels2_last v_search_levels2_bend v_search_levels2_tall v_search_levels3_rows v_search_levels3_cols v_search_levels3_high v_search_levels3_wide v_search_levels3_folds v_search_levels3_wrong v_search_levels3_more v_search_levels3_rowOf v_search_levels3_colOf v_search_levels3_below v_search_levels3_face v_search_levels3_worn v_search_levels3_last v_search_levels3_bend v_search_levels3_tall v_search_path v_search_best v_strip_list v_strip_found v_strip_at v_changes_value v_changes_done v_changes_size v_changes_before v_changes_after v_foldings_size v_foldings_ran v_foldings_number v_foldings_kinds v_foldings_trace v_shelves0_holds v_shelves0_body v_shelves0_sort v_shelves0_size v_shelves0_items v_shelves1_holds v_shelves1_body v_shelves1_sort v_shelves1_size v_shelves1_items v_shelves2_holds v_shelves2_body v_shelves2_sort v_shelves2_size v_shelves2_items v_shelves3_holds v_shelves3_body v_shelves3_sort v_shelves3_size v_shelves3_items v_shelves4_holds v_shelves4_body v_shelves4_sort v_shelves4_size v_shelves4_items v_shelves5_holds v_shelves5_body v_shelves5_sort v_shelves5_size v_shelves5_items m_keptMany m_done m_rowsOf m_columnsOf m_folded m_wronged m_tapeMany m_textMany q_base q_at q_ends q_fault q_opened q_bentMany q_bentWrong q_moreWorn m_planned q_allWrong q_allWorn q_z m_wishedField m_isFound m_bestWrong m_bestWorn m_bestMany m_soughtBy m_sought m_soughtAt m_foundMany m_foundOrder m_isKept m_imageRows m_imageColumns m_imageFolded m_imageWronged m_bodies m_ran m_ownKind m_ownNumber m_limit m_changeWas m_changeIs q_shapeRows q_shapeColumns q_row q_column q_below q_face q_worn q_lastBend m_tape m_text q_names q_bends q_high q_to q_pileSize m_planLine m_planWay m_way1 m_bestWay m_order1 m_placeIn m_bodyKind m_trace m_shelf m_many m_items m_carried H locs u_0 u_1 y_0 u_3 u_4 u_5 u_6 u_7 u_8 u_9 y_1 u_11 u_12 u_13 u_14 u_15 u_16 u_17 u_18 t_0 z_0 z_1 t_3 t_4 t_5 t_6 t_7 w_0 hr_1 hP hD hS)
set_option maxHeartbeats 8000000 in
set_option maxRecDepth 100000 in
theorem ls_14 {p : Program} {l : Launch} {e : Env} {s : State} {m : MethodId} {below : List Frame} {meth : Method} {c : Code} {D : va_G} {cI cL cS cH : ClassId} {bb : Nat} {a b : Nat → Nat} {cells slots : Nat} {Q : State → Prop} {L : Nat} {xs : Nat → Int32} {x3 : Int32} {ls : Array Slot} (C0 : mm_Cx p s m #[Value.ref bb] meth c RL code 4 ret D (mm_T cI cL cS cH) (fun q => s.heap.size ≤ q)) (hX : va_X bb L xs s s.heap) (hbl : bb < s.heap.size) (hi_1 : vp_in (x3 + (1 : Int32)) L) (hi_2 : vp_in (x3 + (2 : Int32)) L) (hc1 : cells ≤ room_1.cells) (hc2 : slots ≤ room_1.slots) (hl : lv_has ls 4 [(0, .ref bb), (1, .ref (a 0)), (2, .ref (b 0)), (3, .int x3)]) (K : lw_St p l e s m below meth c D cI cL cS cH bb a b cells slots Q 1391 ls) : lw_St p l e s m below meth c D cI cL cS cH bb a b cells slots Q 576 ls := by
  intro v_hasImage v_now_rows v_now_cols v_now_high v_now_wide v_now_folds v_now_wrong v_now_more v_now_rowOf v_now_colOf v_now_below v_now_face v_now_worn v_now_last v_now_bend v_now_tall v_kept_rows v_kept_cols v_kept_high v_kept_wide v_kept_folds v_kept_wrong v_kept_more v_kept_rowOf v_kept_colOf v_kept_below v_kept_face v_kept_worn v_kept_last v_kept_bend v_kept_tall v_wearing_size v_wearing_stepCount v_wearing_draftCount v_wearing_place v_wearing_fault v_wearing_stacked v_wearing_tape v_wearing_steps v_wearing_draft v_wearing_stack v_planned_size v_planned_trial_rows v_planned_trial_cols v_planned_trial_high v_planned_trial_wide v_planned_trial_folds v_planned_trial_wrong v_planned_trial_more v_planned_trial_rowOf v_planned_trial_colOf v_planned_trial_below v_planned_trial_face v_planned_trial_worn v_planned_trial_last v_planned_trial_bend v_planned_trial_tall v_planned_lines v_planned_ways v_search_found v_search_wrong v_search_more v_search_folds v_search_wanted v_search_levels0_rows v_search_levels0_cols v_search_levels0_high v_search_levels0_wide v_search_levels0_folds v_search_levels0_wrong v_search_levels0_more v_search_levels0_rowOf v_search_levels0_colOf v_search_levels0_below v_search_levels0_face v_search_levels0_worn v_search_levels0_last v_search_levels0_bend v_search_levels0_tall v_search_levels1_rows v_search_levels1_cols v_search_levels1_high v_search_levels1_wide v_search_levels1_folds v_search_levels1_wrong v_search_levels1_more v_search_levels1_rowOf v_search_levels1_colOf v_search_levels1_below v_search_levels1_face v_search_levels1_worn v_search_levels1_last v_search_levels1_bend v_search_levels1_tall v_search_levels2_rows v_search_levels2_cols v_search_levels2_high v_search_levels2_wide v_search_levels2_folds v_search_levels2_wrong v_search_levels2_more v_search_levels2_rowOf v_search_levels2_colOf v_search_levels2_below v_search_levels2_face v_search_levels2_worn v_search_levels2_last v_search_levels2_bend v_search_levels2_tall v_search_levels3_rows v_search_levels3_cols v_search_levels3_high v_search_levels3_wide v_search_levels3_folds v_search_levels3_wrong v_search_levels3_more v_search_levels3_rowOf v_search_levels3_colOf v_search_levels3_below v_search_levels3_face v_search_levels3_worn v_search_levels3_last v_search_levels3_bend v_search_levels3_tall v_search_path v_search_best v_strip_list v_strip_found v_strip_at v_changes_value v_changes_done v_changes_size v_changes_before v_changes_after v_foldings_size v_foldings_ran v_foldings_number v_foldings_kinds v_foldings_trace v_shelves0_holds v_shelves0_body v_shelves0_sort v_shelves0_size v_shelves0_items v_shelves1_holds v_shelves1_body v_shelves1_sort v_shelves1_size v_shelves1_items v_shelves2_holds v_shelves2_body v_shelves2_sort v_shelves2_size v_shelves2_items v_shelves3_holds v_shelves3_body v_shelves3_sort v_shelves3_size v_shelves3_items v_shelves4_holds v_shelves4_body v_shelves4_sort v_shelves4_size v_shelves4_items v_shelves5_holds v_shelves5_body v_shelves5_sort v_shelves5_size v_shelves5_items m_keptMany m_done m_rowsOf m_columnsOf m_folded m_wronged m_tapeMany m_textMany m_base m_at m_ends m_fault m_opened m_bentMany m_bentWrong m_moreWorn m_planned m_allWrong m_allWorn m_z m_wishedField m_isFound m_bestWrong m_bestWorn m_bestMany m_soughtBy m_sought m_soughtAt m_foundMany m_foundOrder m_isKept m_imageRows m_imageColumns m_imageFolded m_imageWronged m_bodies m_ran m_ownKind m_ownNumber m_limit m_changeWas m_changeIs m_shapeRows m_shapeColumns m_row m_column m_below m_face m_worn m_lastBend m_tape m_text m_names m_bends m_high m_to m_pileSize m_planLine m_planWay m_way1 m_bestWay m_order1 m_placeIn m_bodyKind m_trace m_shelf m_many m_items m_carried H locs u_0 u_1 u_2 u_3 u_4 u_5 u_6 u_7 u_8 u_9 u_10 u_11 u_12 u_13 u_14 u_15 u_16 u_17 u_18 t_0 t_1 t_2 t_3 t_4 t_5 t_6 t_7 hr_0 hr_1 hP hD hS
  obtain ⟨⟨r8, p_wearing_stacked, p_wearing_stack, p_planned_trial_rows, p_planned_trial_cols, p_planned_trial_high, p_planned_trial_wide, p_planned_trial_folds, p_planned_trial_wrong, p_planned_trial_more, p_planned_trial_rowOf, p_planned_trial_colOf, p_planned_trial_below, p_planned_trial_face, p_planned_trial_worn, p_planned_trial_last, p_planned_trial_bend, p_planned_trial_tall⟩, h8, q8⟩ := st8_lies (x1 := (xs (x3 + (1 : Int32)).toNatClampNeg)) (x2 := (xs (x3 + (2 : Int32)).toNatClampNeg)) (v_now_folds := v_now_folds) (v_now_wrong := v_now_wrong) (v_now_more := v_now_more) (v_wearing_stacked := v_wearing_stacked) (v_planned_trial_folds := v_planned_trial_folds) (v_planned_trial_wrong := v_planned_trial_wrong) (v_planned_trial_more := v_planned_trial_more) (v_changes_value := v_changes_value) u_0 u_2 u_3 u_10
  have j8 : gi_la v_wearing_size v_wearing_stepCount v_wearing_draftCount v_wearing_tape v_wearing_steps v_wearing_draft p_wearing_stack ∧ gi_sh p_planned_trial_rows p_planned_trial_cols p_planned_trial_high p_planned_trial_wide p_planned_trial_rowOf p_planned_trial_colOf p_planned_trial_below p_planned_trial_face p_planned_trial_worn p_planned_trial_last p_planned_trial_bend p_planned_trial_tall := q8
  obtain ⟨y_0, y_1⟩ := j8
  obtain ⟨⟨r9, q_base, q_at, q_ends, q_fault, q_opened, q_bentMany, q_bentWrong, q_moreWorn, q_allWrong, q_allWorn, q_z, q_shapeRows, q_shapeColumns, q_row, q_column, q_below, q_face, q_worn, q_lastBend, q_names, q_bends, q_high, q_to, q_pileSize⟩, h9, q9⟩ := st9_lies (x1 := (xs (x3 + (1 : Int32)).toNatClampNeg)) (x2 := (xs (x3 + (2 : Int32)).toNatClampNeg)) (v_base := m_base) (v_at := m_at) (v_ends := m_ends) (v_fault := m_fault) (v_opened := m_opened) (v_bentMany := m_bentMany) (v_bentWrong := m_bentWrong) (v_moreWorn := m_moreWorn) (v_allWrong := m_allWrong) (v_allWorn := m_allWorn) (v_z := m_z) t_0 t_1 t_2 t_3
  have j9 : gm_sh m_rowsOf m_columnsOf m_isKept m_imageRows m_imageColumns q_shapeRows q_shapeColumns q_row q_column q_below q_face q_worn q_lastBend ∧ gm_tx m_tapeMany m_textMany m_tape m_text q_names q_bends q_high q_to q_pileSize := q9
  obtain ⟨z_0, z_1⟩ := j9
  have w_0 := fk_lies_ge t_0 t_1 t_2 t_3 hr_0 h9
  exact lc_14 C0 hX hbl hi_1 rfl hi_2 rfl h8 h9 hc1 hc2 hP hD hS hl (fun H locs hP hD hS => K v_hasImage v_now_rows v_now_cols v_now_high v_now_wide v_now_folds v_now_wrong v_now_more v_now_rowOf v_now_colOf v_now_below v_now_face v_now_worn v_now_last v_now_bend v_now_tall v_kept_rows v_kept_cols v_kept_high v_kept_wide v_kept_folds v_kept_wrong v_kept_more v_kept_rowOf v_kept_colOf v_kept_below v_kept_face v_kept_worn v_kept_last v_kept_bend v_kept_tall v_wearing_size v_wearing_stepCount v_wearing_draftCount v_wearing_place v_wearing_fault p_wearing_stacked v_wearing_tape v_wearing_steps v_wearing_draft p_wearing_stack v_planned_size p_planned_trial_rows p_planned_trial_cols p_planned_trial_high p_planned_trial_wide p_planned_trial_folds p_planned_trial_wrong p_planned_trial_more p_planned_trial_rowOf p_planned_trial_colOf p_planned_trial_below p_planned_trial_face p_planned_trial_worn p_planned_trial_last p_planned_trial_bend p_planned_trial_tall v_planned_lines v_planned_ways v_search_found v_search_wrong v_search_more v_search_folds v_search_wanted v_search_levels0_rows v_search_levels0_cols v_search_levels0_high v_search_levels0_wide v_search_levels0_folds v_search_levels0_wrong v_search_levels0_more v_search_levels0_rowOf v_search_levels0_colOf v_search_levels0_below v_search_levels0_face v_search_levels0_worn v_search_levels0_last v_search_levels0_bend v_search_levels0_tall v_search_levels1_rows v_search_levels1_cols v_search_levels1_high v_search_levels1_wide v_search_levels1_folds v_search_levels1_wrong v_search_levels1_more v_search_levels1_rowOf v_search_levels1_colOf v_search_levels1_below v_search_levels1_face v_search_levels1_worn v_search_levels1_last v_search_levels1_bend v_search_levels1_tall v_search_levels2_rows v_search_levels2_cols v_search_levels2_high v_search_levels2_wide v_search_levels2_folds v_search_levels2_wrong v_search_levels2_more v_search_levels2_rowOf v_search_levels2_colOf v_search_levels2_below v_search_levels2_face v_search_levels2_worn v_search_levels2_last v_search_levels2_bend v_search_levels2_tall v_search_levels3_rows v_search_levels3_cols v_search_levels3_high v_search_levels3_wide v_search_levels3_folds v_search_levels3_wrong v_search_levels3_more v_search_levels3_rowOf v_search_levels3_colOf v_search_levels3_below v_search_levels3_face v_search_levels3_worn v_search_levels3_last v_search_levels3_bend v_search_levels3_tall v_search_path v_search_best v_strip_list v_strip_found v_strip_at v_changes_value v_changes_done v_changes_size v_changes_before v_changes_after v_foldings_size v_foldings_ran v_foldings_number v_foldings_kinds v_foldings_trace v_shelves0_holds v_shelves0_body v_shelves0_sort v_shelves0_size v_shelves0_items v_shelves1_holds v_shelves1_body v_shelves1_sort v_shelves1_size v_shelves1_items v_shelves2_holds v_shelves2_body v_shelves2_sort v_shelves2_size v_shelves2_items v_shelves3_holds v_shelves3_body v_shelves3_sort v_shelves3_size v_shelves3_items v_shelves4_holds v_shelves4_body v_shelves4_sort v_shelves4_size v_shelves4_items v_shelves5_holds v_shelves5_body v_shelves5_sort v_shelves5_size v_shelves5_items m_keptMany m_done m_rowsOf m_columnsOf m_folded m_wronged m_tapeMany m_textMany q_base q_at q_ends q_fault q_opened q_bentMany q_bentWrong q_moreWorn m_planned q_allWrong q_allWorn q_z m_wishedField m_isFound m_bestWrong m_bestWorn m_bestMany m_soughtBy m_sought m_soughtAt m_foundMany m_foundOrder m_isKept m_imageRows m_imageColumns m_imageFolded m_imageWronged m_bodies m_ran m_ownKind m_ownNumber m_limit m_changeWas m_changeIs q_shapeRows q_shapeColumns q_row q_column q_below q_face q_worn q_lastBend m_tape m_text q_names q_bends q_high q_to q_pileSize m_planLine m_planWay m_way1 m_bestWay m_order1 m_placeIn m_bodyKind m_trace m_shelf m_many m_items m_carried H locs u_0 u_1 y_0 u_3 u_4 u_5 u_6 u_7 u_8 u_9 y_1 u_11 u_12 u_13 u_14 u_15 u_16 u_17 u_18 t_0 z_0 z_1 t_3 t_4 t_5 t_6 t_7 w_0 hr_1 hP hD hS)
set_option maxHeartbeats 8000000 in
set_option maxRecDepth 100000 in
theorem ls_15 {p : Program} {l : Launch} {e : Env} {s : State} {m : MethodId} {below : List Frame} {meth : Method} {c : Code} {D : va_G} {cI cL cS cH : ClassId} {bb : Nat} {a b : Nat → Nat} {cells slots : Nat} {Q : State → Prop} {L : Nat} {xs : Nat → Int32} {x3 : Int32} {ls : Array Slot} (C0 : mm_Cx p s m #[Value.ref bb] meth c RL code 4 ret D (mm_T cI cL cS cH) (fun q => s.heap.size ≤ q)) (hX : va_X bb L xs s s.heap) (hbl : bb < s.heap.size) (hi_1 : vp_in (x3 + (1 : Int32)) L) (hi_2 : vp_in (x3 + (2 : Int32)) L) (hc1 : cells ≤ room_1.cells) (hc2 : slots ≤ room_1.slots) (hl : lv_has ls 4 [(0, .ref bb), (1, .ref (a 0)), (2, .ref (b 0)), (3, .int x3)]) (K : lw_St p l e s m below meth c D cI cL cS cH bb a b cells slots Q 1391 ls) : lw_St p l e s m below meth c D cI cL cS cH bb a b cells slots Q 609 ls := by
  intro v_hasImage v_now_rows v_now_cols v_now_high v_now_wide v_now_folds v_now_wrong v_now_more v_now_rowOf v_now_colOf v_now_below v_now_face v_now_worn v_now_last v_now_bend v_now_tall v_kept_rows v_kept_cols v_kept_high v_kept_wide v_kept_folds v_kept_wrong v_kept_more v_kept_rowOf v_kept_colOf v_kept_below v_kept_face v_kept_worn v_kept_last v_kept_bend v_kept_tall v_wearing_size v_wearing_stepCount v_wearing_draftCount v_wearing_place v_wearing_fault v_wearing_stacked v_wearing_tape v_wearing_steps v_wearing_draft v_wearing_stack v_planned_size v_planned_trial_rows v_planned_trial_cols v_planned_trial_high v_planned_trial_wide v_planned_trial_folds v_planned_trial_wrong v_planned_trial_more v_planned_trial_rowOf v_planned_trial_colOf v_planned_trial_below v_planned_trial_face v_planned_trial_worn v_planned_trial_last v_planned_trial_bend v_planned_trial_tall v_planned_lines v_planned_ways v_search_found v_search_wrong v_search_more v_search_folds v_search_wanted v_search_levels0_rows v_search_levels0_cols v_search_levels0_high v_search_levels0_wide v_search_levels0_folds v_search_levels0_wrong v_search_levels0_more v_search_levels0_rowOf v_search_levels0_colOf v_search_levels0_below v_search_levels0_face v_search_levels0_worn v_search_levels0_last v_search_levels0_bend v_search_levels0_tall v_search_levels1_rows v_search_levels1_cols v_search_levels1_high v_search_levels1_wide v_search_levels1_folds v_search_levels1_wrong v_search_levels1_more v_search_levels1_rowOf v_search_levels1_colOf v_search_levels1_below v_search_levels1_face v_search_levels1_worn v_search_levels1_last v_search_levels1_bend v_search_levels1_tall v_search_levels2_rows v_search_levels2_cols v_search_levels2_high v_search_levels2_wide v_search_levels2_folds v_search_levels2_wrong v_search_levels2_more v_search_levels2_rowOf v_search_levels2_colOf v_search_levels2_below v_search_levels2_face v_search_levels2_worn v_search_levels2_last v_search_levels2_bend v_search_levels2_tall v_search_levels3_rows v_search_levels3_cols v_search_levels3_high v_search_levels3_wide v_search_levels3_folds v_search_levels3_wrong v_search_levels3_more v_search_levels3_rowOf v_search_levels3_colOf v_search_levels3_below v_search_levels3_face v_search_levels3_worn v_search_levels3_last v_search_levels3_bend v_search_levels3_tall v_search_path v_search_best v_strip_list v_strip_found v_strip_at v_changes_value v_changes_done v_changes_size v_changes_before v_changes_after v_foldings_size v_foldings_ran v_foldings_number v_foldings_kinds v_foldings_trace v_shelves0_holds v_shelves0_body v_shelves0_sort v_shelves0_size v_shelves0_items v_shelves1_holds v_shelves1_body v_shelves1_sort v_shelves1_size v_shelves1_items v_shelves2_holds v_shelves2_body v_shelves2_sort v_shelves2_size v_shelves2_items v_shelves3_holds v_shelves3_body v_shelves3_sort v_shelves3_size v_shelves3_items v_shelves4_holds v_shelves4_body v_shelves4_sort v_shelves4_size v_shelves4_items v_shelves5_holds v_shelves5_body v_shelves5_sort v_shelves5_size v_shelves5_items m_keptMany m_done m_rowsOf m_columnsOf m_folded m_wronged m_tapeMany m_textMany m_base m_at m_ends m_fault m_opened m_bentMany m_bentWrong m_moreWorn m_planned m_allWrong m_allWorn m_z m_wishedField m_isFound m_bestWrong m_bestWorn m_bestMany m_soughtBy m_sought m_soughtAt m_foundMany m_foundOrder m_isKept m_imageRows m_imageColumns m_imageFolded m_imageWronged m_bodies m_ran m_ownKind m_ownNumber m_limit m_changeWas m_changeIs m_shapeRows m_shapeColumns m_row m_column m_below m_face m_worn m_lastBend m_tape m_text m_names m_bends m_high m_to m_pileSize m_planLine m_planWay m_way1 m_bestWay m_order1 m_placeIn m_bodyKind m_trace m_shelf m_many m_items m_carried H locs u_0 u_1 u_2 u_3 u_4 u_5 u_6 u_7 u_8 u_9 u_10 u_11 u_12 u_13 u_14 u_15 u_16 u_17 u_18 t_0 t_1 t_2 t_3 t_4 t_5 t_6 t_7 hr_0 hr_1 hP hD hS
  obtain ⟨⟨r8, p_wearing_stacked, p_wearing_stack, p_planned_trial_rows, p_planned_trial_cols, p_planned_trial_high, p_planned_trial_wide, p_planned_trial_folds, p_planned_trial_wrong, p_planned_trial_more, p_planned_trial_rowOf, p_planned_trial_colOf, p_planned_trial_below, p_planned_trial_face, p_planned_trial_worn, p_planned_trial_last, p_planned_trial_bend, p_planned_trial_tall⟩, h8, q8⟩ := st8_top (x1 := (xs (x3 + (1 : Int32)).toNatClampNeg)) (x2 := (xs (x3 + (2 : Int32)).toNatClampNeg)) (v_now_folds := v_now_folds) (v_now_wrong := v_now_wrong) (v_now_more := v_now_more) (v_wearing_stacked := v_wearing_stacked) (v_planned_trial_folds := v_planned_trial_folds) (v_planned_trial_wrong := v_planned_trial_wrong) (v_planned_trial_more := v_planned_trial_more) (v_changes_value := v_changes_value) u_0 u_2 u_3 u_10
  have j8 : gi_la v_wearing_size v_wearing_stepCount v_wearing_draftCount v_wearing_tape v_wearing_steps v_wearing_draft p_wearing_stack ∧ gi_sh p_planned_trial_rows p_planned_trial_cols p_planned_trial_high p_planned_trial_wide p_planned_trial_rowOf p_planned_trial_colOf p_planned_trial_below p_planned_trial_face p_planned_trial_worn p_planned_trial_last p_planned_trial_bend p_planned_trial_tall := q8
  obtain ⟨y_0, y_1⟩ := j8
  obtain ⟨⟨r9, q_base, q_at, q_ends, q_fault, q_opened, q_bentMany, q_bentWrong, q_moreWorn, q_allWrong, q_allWorn, q_z, q_shapeRows, q_shapeColumns, q_row, q_column, q_below, q_face, q_worn, q_lastBend, q_names, q_bends, q_high, q_to, q_pileSize⟩, h9, q9⟩ := st9_top (x1 := (xs (x3 + (1 : Int32)).toNatClampNeg)) (x2 := (xs (x3 + (2 : Int32)).toNatClampNeg)) (v_base := m_base) (v_at := m_at) (v_ends := m_ends) (v_fault := m_fault) (v_opened := m_opened) (v_bentMany := m_bentMany) (v_bentWrong := m_bentWrong) (v_moreWorn := m_moreWorn) (v_allWrong := m_allWrong) (v_allWorn := m_allWorn) (v_z := m_z) t_0 t_1 t_2 t_3
  have j9 : gm_sh m_rowsOf m_columnsOf m_isKept m_imageRows m_imageColumns q_shapeRows q_shapeColumns q_row q_column q_below q_face q_worn q_lastBend ∧ gm_tx m_tapeMany m_textMany m_tape m_text q_names q_bends q_high q_to q_pileSize := q9
  obtain ⟨z_0, z_1⟩ := j9
  have w_0 := fk_top_ge t_0 t_1 t_2 t_3 hr_0 h9
  exact lc_15 C0 hX hbl hi_1 rfl hi_2 rfl h8 h9 hc1 hc2 hP hD hS hl (fun H locs hP hD hS => K v_hasImage v_now_rows v_now_cols v_now_high v_now_wide v_now_folds v_now_wrong v_now_more v_now_rowOf v_now_colOf v_now_below v_now_face v_now_worn v_now_last v_now_bend v_now_tall v_kept_rows v_kept_cols v_kept_high v_kept_wide v_kept_folds v_kept_wrong v_kept_more v_kept_rowOf v_kept_colOf v_kept_below v_kept_face v_kept_worn v_kept_last v_kept_bend v_kept_tall v_wearing_size v_wearing_stepCount v_wearing_draftCount v_wearing_place v_wearing_fault p_wearing_stacked v_wearing_tape v_wearing_steps v_wearing_draft p_wearing_stack v_planned_size p_planned_trial_rows p_planned_trial_cols p_planned_trial_high p_planned_trial_wide p_planned_trial_folds p_planned_trial_wrong p_planned_trial_more p_planned_trial_rowOf p_planned_trial_colOf p_planned_trial_below p_planned_trial_face p_planned_trial_worn p_planned_trial_last p_planned_trial_bend p_planned_trial_tall v_planned_lines v_planned_ways v_search_found v_search_wrong v_search_more v_search_folds v_search_wanted v_search_levels0_rows v_search_levels0_cols v_search_levels0_high v_search_levels0_wide v_search_levels0_folds v_search_levels0_wrong v_search_levels0_more v_search_levels0_rowOf v_search_levels0_colOf v_search_levels0_below v_search_levels0_face v_search_levels0_worn v_search_levels0_last v_search_levels0_bend v_search_levels0_tall v_search_levels1_rows v_search_levels1_cols v_search_levels1_high v_search_levels1_wide v_search_levels1_folds v_search_levels1_wrong v_search_levels1_more v_search_levels1_rowOf v_search_levels1_colOf v_search_levels1_below v_search_levels1_face v_search_levels1_worn v_search_levels1_last v_search_levels1_bend v_search_levels1_tall v_search_levels2_rows v_search_levels2_cols v_search_levels2_high v_search_levels2_wide v_search_levels2_folds v_search_levels2_wrong v_search_levels2_more v_search_levels2_rowOf v_search_levels2_colOf v_search_levels2_below v_search_levels2_face v_search_levels2_worn v_search_levels2_last v_search_levels2_bend v_search_levels2_tall v_search_levels3_rows v_search_levels3_cols v_search_levels3_high v_search_levels3_wide v_search_levels3_folds v_search_levels3_wrong v_search_levels3_more v_search_levels3_rowOf v_search_levels3_colOf v_search_levels3_below v_search_levels3_face v_search_levels3_worn v_search_levels3_last v_search_levels3_bend v_search_levels3_tall v_search_path v_search_best v_strip_list v_strip_found v_strip_at v_changes_value v_changes_done v_changes_size v_changes_before v_changes_after v_foldings_size v_foldings_ran v_foldings_number v_foldings_kinds v_foldings_trace v_shelves0_holds v_shelves0_body v_shelves0_sort v_shelves0_size v_shelves0_items v_shelves1_holds v_shelves1_body v_shelves1_sort v_shelves1_size v_shelves1_items v_shelves2_holds v_shelves2_body v_shelves2_sort v_shelves2_size v_shelves2_items v_shelves3_holds v_shelves3_body v_shelves3_sort v_shelves3_size v_shelves3_items v_shelves4_holds v_shelves4_body v_shelves4_sort v_shelves4_size v_shelves4_items v_shelves5_holds v_shelves5_body v_shelves5_sort v_shelves5_size v_shelves5_items m_keptMany m_done m_rowsOf m_columnsOf m_folded m_wronged m_tapeMany m_textMany q_base q_at q_ends q_fault q_opened q_bentMany q_bentWrong q_moreWorn m_planned q_allWrong q_allWorn q_z m_wishedField m_isFound m_bestWrong m_bestWorn m_bestMany m_soughtBy m_sought m_soughtAt m_foundMany m_foundOrder m_isKept m_imageRows m_imageColumns m_imageFolded m_imageWronged m_bodies m_ran m_ownKind m_ownNumber m_limit m_changeWas m_changeIs q_shapeRows q_shapeColumns q_row q_column q_below q_face q_worn q_lastBend m_tape m_text q_names q_bends q_high q_to q_pileSize m_planLine m_planWay m_way1 m_bestWay m_order1 m_placeIn m_bodyKind m_trace m_shelf m_many m_items m_carried H locs u_0 u_1 y_0 u_3 u_4 u_5 u_6 u_7 u_8 u_9 y_1 u_11 u_12 u_13 u_14 u_15 u_16 u_17 u_18 t_0 z_0 z_1 t_3 t_4 t_5 t_6 t_7 w_0 hr_1 hP hD hS)
end
section
/-! The law's cases, over every state -/
set_option maxHeartbeats 8000000 in
set_option maxRecDepth 100000 in
theorem ls_16 {p : Program} {l : Launch} {e : Env} {s : State} {m : MethodId} {below : List Frame} {meth : Method} {c : Code} {D : va_G} {cI cL cS cH : ClassId} {bb : Nat} {a b : Nat → Nat} {cells slots : Nat} {Q : State → Prop} {L : Nat} {xs : Nat → Int32} {x3 : Int32} {ls : Array Slot} (C0 : mm_Cx p s m #[Value.ref bb] meth c RL code 4 ret D (mm_T cI cL cS cH) (fun q => s.heap.size ≤ q)) (hX : va_X bb L xs s s.heap) (hbl : bb < s.heap.size) (hi_1 : vp_in (x3 + (1 : Int32)) L) (hi_2 : vp_in (x3 + (2 : Int32)) L) (hc1 : cells ≤ room_1.cells) (hc2 : slots ≤ room_1.slots) (hl : lv_has ls 4 [(0, .ref bb), (1, .ref (a 0)), (2, .ref (b 0)), (3, .int x3)]) (K : lw_St p l e s m below meth c D cI cL cS cH bb a b cells slots Q 1391 ls) : lw_St p l e s m below meth c D cI cL cS cH bb a b cells slots Q 642 ls := by
  intro v_hasImage v_now_rows v_now_cols v_now_high v_now_wide v_now_folds v_now_wrong v_now_more v_now_rowOf v_now_colOf v_now_below v_now_face v_now_worn v_now_last v_now_bend v_now_tall v_kept_rows v_kept_cols v_kept_high v_kept_wide v_kept_folds v_kept_wrong v_kept_more v_kept_rowOf v_kept_colOf v_kept_below v_kept_face v_kept_worn v_kept_last v_kept_bend v_kept_tall v_wearing_size v_wearing_stepCount v_wearing_draftCount v_wearing_place v_wearing_fault v_wearing_stacked v_wearing_tape v_wearing_steps v_wearing_draft v_wearing_stack v_planned_size v_planned_trial_rows v_planned_trial_cols v_planned_trial_high v_planned_trial_wide v_planned_trial_folds v_planned_trial_wrong v_planned_trial_more v_planned_trial_rowOf v_planned_trial_colOf v_planned_trial_below v_planned_trial_face v_planned_trial_worn v_planned_trial_last v_planned_trial_bend v_planned_trial_tall v_planned_lines v_planned_ways v_search_found v_search_wrong v_search_more v_search_folds v_search_wanted v_search_levels0_rows v_search_levels0_cols v_search_levels0_high v_search_levels0_wide v_search_levels0_folds v_search_levels0_wrong v_search_levels0_more v_search_levels0_rowOf v_search_levels0_colOf v_search_levels0_below v_search_levels0_face v_search_levels0_worn v_search_levels0_last v_search_levels0_bend v_search_levels0_tall v_search_levels1_rows v_search_levels1_cols v_search_levels1_high v_search_levels1_wide v_search_levels1_folds v_search_levels1_wrong v_search_levels1_more v_search_levels1_rowOf v_search_levels1_colOf v_search_levels1_below v_search_levels1_face v_search_levels1_worn v_search_levels1_last v_search_levels1_bend v_search_levels1_tall v_search_levels2_rows v_search_levels2_cols v_search_levels2_high v_search_levels2_wide v_search_levels2_folds v_search_levels2_wrong v_search_levels2_more v_search_levels2_rowOf v_search_levels2_colOf v_search_levels2_below v_search_levels2_face v_search_levels2_worn v_search_levels2_last v_search_levels2_bend v_search_levels2_tall v_search_levels3_rows v_search_levels3_cols v_search_levels3_high v_search_levels3_wide v_search_levels3_folds v_search_levels3_wrong v_search_levels3_more v_search_levels3_rowOf v_search_levels3_colOf v_search_levels3_below v_search_levels3_face v_search_levels3_worn v_search_levels3_last v_search_levels3_bend v_search_levels3_tall v_search_path v_search_best v_strip_list v_strip_found v_strip_at v_changes_value v_changes_done v_changes_size v_changes_before v_changes_after v_foldings_size v_foldings_ran v_foldings_number v_foldings_kinds v_foldings_trace v_shelves0_holds v_shelves0_body v_shelves0_sort v_shelves0_size v_shelves0_items v_shelves1_holds v_shelves1_body v_shelves1_sort v_shelves1_size v_shelves1_items v_shelves2_holds v_shelves2_body v_shelves2_sort v_shelves2_size v_shelves2_items v_shelves3_holds v_shelves3_body v_shelves3_sort v_shelves3_size v_shelves3_items v_shelves4_holds v_shelves4_body v_shelves4_sort v_shelves4_size v_shelves4_items v_shelves5_holds v_shelves5_body v_shelves5_sort v_shelves5_size v_shelves5_items m_keptMany m_done m_rowsOf m_columnsOf m_folded m_wronged m_tapeMany m_textMany m_base m_at m_ends m_fault m_opened m_bentMany m_bentWrong m_moreWorn m_planned m_allWrong m_allWorn m_z m_wishedField m_isFound m_bestWrong m_bestWorn m_bestMany m_soughtBy m_sought m_soughtAt m_foundMany m_foundOrder m_isKept m_imageRows m_imageColumns m_imageFolded m_imageWronged m_bodies m_ran m_ownKind m_ownNumber m_limit m_changeWas m_changeIs m_shapeRows m_shapeColumns m_row m_column m_below m_face m_worn m_lastBend m_tape m_text m_names m_bends m_high m_to m_pileSize m_planLine m_planWay m_way1 m_bestWay m_order1 m_placeIn m_bodyKind m_trace m_shelf m_many m_items m_carried H locs u_0 u_1 u_2 u_3 u_4 u_5 u_6 u_7 u_8 u_9 u_10 u_11 u_12 u_13 u_14 u_15 u_16 u_17 u_18 t_0 t_1 t_2 t_3 t_4 t_5 t_6 t_7 hr_0 hr_1 hP hD hS
  obtain ⟨⟨r8, p_wearing_stacked, p_wearing_stack, p_planned_trial_rows, p_planned_trial_cols, p_planned_trial_high, p_planned_trial_wide, p_planned_trial_folds, p_planned_trial_wrong, p_planned_trial_more, p_planned_trial_rowOf, p_planned_trial_colOf, p_planned_trial_below, p_planned_trial_face, p_planned_trial_worn, p_planned_trial_last, p_planned_trial_bend, p_planned_trial_tall⟩, h8, q8⟩ := st8_beside (x1 := (xs (x3 + (1 : Int32)).toNatClampNeg)) (x2 := (xs (x3 + (2 : Int32)).toNatClampNeg)) (v_now_folds := v_now_folds) (v_now_wrong := v_now_wrong) (v_now_more := v_now_more) (v_wearing_stacked := v_wearing_stacked) (v_planned_trial_folds := v_planned_trial_folds) (v_planned_trial_wrong := v_planned_trial_wrong) (v_planned_trial_more := v_planned_trial_more) (v_changes_value := v_changes_value) u_0 u_2 u_3 u_10
  have j8 : gi_la v_wearing_size v_wearing_stepCount v_wearing_draftCount v_wearing_tape v_wearing_steps v_wearing_draft p_wearing_stack ∧ gi_sh p_planned_trial_rows p_planned_trial_cols p_planned_trial_high p_planned_trial_wide p_planned_trial_rowOf p_planned_trial_colOf p_planned_trial_below p_planned_trial_face p_planned_trial_worn p_planned_trial_last p_planned_trial_bend p_planned_trial_tall := q8
  obtain ⟨y_0, y_1⟩ := j8
  obtain ⟨⟨r9, q_base, q_at, q_ends, q_fault, q_opened, q_bentMany, q_bentWrong, q_moreWorn, q_allWrong, q_allWorn, q_z, q_shapeRows, q_shapeColumns, q_row, q_column, q_below, q_face, q_worn, q_lastBend, q_names, q_bends, q_high, q_to, q_pileSize⟩, h9, q9⟩ := st9_beside (x1 := (xs (x3 + (1 : Int32)).toNatClampNeg)) (x2 := (xs (x3 + (2 : Int32)).toNatClampNeg)) (v_base := m_base) (v_at := m_at) (v_ends := m_ends) (v_fault := m_fault) (v_opened := m_opened) (v_bentMany := m_bentMany) (v_bentWrong := m_bentWrong) (v_moreWorn := m_moreWorn) (v_allWrong := m_allWrong) (v_allWorn := m_allWorn) (v_z := m_z) t_0 t_1 t_2 t_3
  have j9 : gm_sh m_rowsOf m_columnsOf m_isKept m_imageRows m_imageColumns q_shapeRows q_shapeColumns q_row q_column q_below q_face q_worn q_lastBend ∧ gm_tx m_tapeMany m_textMany m_tape m_text q_names q_bends q_high q_to q_pileSize := q9
  obtain ⟨z_0, z_1⟩ := j9
  have w_0 := fk_beside_ge t_0 t_1 t_2 t_3 hr_0 h9
  exact lc_16 C0 hX hbl hi_1 rfl hi_2 rfl h8 h9 hc1 hc2 hP hD hS hl (fun H locs hP hD hS => K v_hasImage v_now_rows v_now_cols v_now_high v_now_wide v_now_folds v_now_wrong v_now_more v_now_rowOf v_now_colOf v_now_below v_now_face v_now_worn v_now_last v_now_bend v_now_tall v_kept_rows v_kept_cols v_kept_high v_kept_wide v_kept_folds v_kept_wrong v_kept_more v_kept_rowOf v_kept_colOf v_kept_below v_kept_face v_kept_worn v_kept_last v_kept_bend v_kept_tall v_wearing_size v_wearing_stepCount v_wearing_draftCount v_wearing_place v_wearing_fault p_wearing_stacked v_wearing_tape v_wearing_steps v_wearing_draft p_wearing_stack v_planned_size p_planned_trial_rows p_planned_trial_cols p_planned_trial_high p_planned_trial_wide p_planned_trial_folds p_planned_trial_wrong p_planned_trial_more p_planned_trial_rowOf p_planned_trial_colOf p_planned_trial_below p_planned_trial_face p_planned_trial_worn p_planned_trial_last p_planned_trial_bend p_planned_trial_tall v_planned_lines v_planned_ways v_search_found v_search_wrong v_search_more v_search_folds v_search_wanted v_search_levels0_rows v_search_levels0_cols v_search_levels0_high v_search_levels0_wide v_search_levels0_folds v_search_levels0_wrong v_search_levels0_more v_search_levels0_rowOf v_search_levels0_colOf v_search_levels0_below v_search_levels0_face v_search_levels0_worn v_search_levels0_last v_search_levels0_bend v_search_levels0_tall v_search_levels1_rows v_search_levels1_cols v_search_levels1_high v_search_levels1_wide v_search_levels1_folds v_search_levels1_wrong v_search_levels1_more v_search_levels1_rowOf v_search_levels1_colOf v_search_levels1_below v_search_levels1_face v_search_levels1_worn v_search_levels1_last v_search_levels1_bend v_search_levels1_tall v_search_levels2_rows v_search_levels2_cols v_search_levels2_high v_search_levels2_wide v_search_levels2_folds v_search_levels2_wrong v_search_levels2_more v_search_levels2_rowOf v_search_levels2_colOf v_search_levels2_below v_search_levels2_face v_search_levels2_worn v_search_levels2_last v_search_levels2_bend v_search_levels2_tall v_search_levels3_rows v_search_levels3_cols v_search_levels3_high v_search_levels3_wide v_search_levels3_folds v_search_levels3_wrong v_search_levels3_more v_search_levels3_rowOf v_search_levels3_colOf v_search_levels3_below v_search_levels3_face v_search_levels3_worn v_search_levels3_last v_search_levels3_bend v_search_levels3_tall v_search_path v_search_best v_strip_list v_strip_found v_strip_at v_changes_value v_changes_done v_changes_size v_changes_before v_changes_after v_foldings_size v_foldings_ran v_foldings_number v_foldings_kinds v_foldings_trace v_shelves0_holds v_shelves0_body v_shelves0_sort v_shelves0_size v_shelves0_items v_shelves1_holds v_shelves1_body v_shelves1_sort v_shelves1_size v_shelves1_items v_shelves2_holds v_shelves2_body v_shelves2_sort v_shelves2_size v_shelves2_items v_shelves3_holds v_shelves3_body v_shelves3_sort v_shelves3_size v_shelves3_items v_shelves4_holds v_shelves4_body v_shelves4_sort v_shelves4_size v_shelves4_items v_shelves5_holds v_shelves5_body v_shelves5_sort v_shelves5_size v_shelves5_items m_keptMany m_done m_rowsOf m_columnsOf m_folded m_wronged m_tapeMany m_textMany q_base q_at q_ends q_fault q_opened q_bentMany q_bentWrong q_moreWorn m_planned q_allWrong q_allWorn q_z m_wishedField m_isFound m_bestWrong m_bestWorn m_bestMany m_soughtBy m_sought m_soughtAt m_foundMany m_foundOrder m_isKept m_imageRows m_imageColumns m_imageFolded m_imageWronged m_bodies m_ran m_ownKind m_ownNumber m_limit m_changeWas m_changeIs q_shapeRows q_shapeColumns q_row q_column q_below q_face q_worn q_lastBend m_tape m_text q_names q_bends q_high q_to q_pileSize m_planLine m_planWay m_way1 m_bestWay m_order1 m_placeIn m_bodyKind m_trace m_shelf m_many m_items m_carried H locs u_0 u_1 y_0 u_3 u_4 u_5 u_6 u_7 u_8 u_9 y_1 u_11 u_12 u_13 u_14 u_15 u_16 u_17 u_18 t_0 z_0 z_1 t_3 t_4 t_5 t_6 t_7 w_0 hr_1 hP hD hS)
set_option maxHeartbeats 8000000 in
set_option maxRecDepth 100000 in
theorem ls_17 {p : Program} {l : Launch} {e : Env} {s : State} {m : MethodId} {below : List Frame} {meth : Method} {c : Code} {D : va_G} {cI cL cS cH : ClassId} {bb : Nat} {a b : Nat → Nat} {cells slots : Nat} {Q : State → Prop} {L : Nat} {xs : Nat → Int32} {x3 : Int32} {ls : Array Slot} (C0 : mm_Cx p s m #[Value.ref bb] meth c RL code 4 ret D (mm_T cI cL cS cH) (fun q => s.heap.size ≤ q)) (hX : va_X bb L xs s s.heap) (hbl : bb < s.heap.size) (hi_1 : vp_in (x3 + (1 : Int32)) L) (hi_2 : vp_in (x3 + (2 : Int32)) L) (hc1 : cells ≤ room_1.cells) (hc2 : slots ≤ room_1.slots) (hl : lv_has ls 4 [(0, .ref bb), (1, .ref (a 0)), (2, .ref (b 0)), (3, .int x3)]) (K : lw_St p l e s m below meth c D cI cL cS cH bb a b cells slots Q 1391 ls) : lw_St p l e s m below meth c D cI cL cS cH bb a b cells slots Q 675 ls := by
  intro v_hasImage v_now_rows v_now_cols v_now_high v_now_wide v_now_folds v_now_wrong v_now_more v_now_rowOf v_now_colOf v_now_below v_now_face v_now_worn v_now_last v_now_bend v_now_tall v_kept_rows v_kept_cols v_kept_high v_kept_wide v_kept_folds v_kept_wrong v_kept_more v_kept_rowOf v_kept_colOf v_kept_below v_kept_face v_kept_worn v_kept_last v_kept_bend v_kept_tall v_wearing_size v_wearing_stepCount v_wearing_draftCount v_wearing_place v_wearing_fault v_wearing_stacked v_wearing_tape v_wearing_steps v_wearing_draft v_wearing_stack v_planned_size v_planned_trial_rows v_planned_trial_cols v_planned_trial_high v_planned_trial_wide v_planned_trial_folds v_planned_trial_wrong v_planned_trial_more v_planned_trial_rowOf v_planned_trial_colOf v_planned_trial_below v_planned_trial_face v_planned_trial_worn v_planned_trial_last v_planned_trial_bend v_planned_trial_tall v_planned_lines v_planned_ways v_search_found v_search_wrong v_search_more v_search_folds v_search_wanted v_search_levels0_rows v_search_levels0_cols v_search_levels0_high v_search_levels0_wide v_search_levels0_folds v_search_levels0_wrong v_search_levels0_more v_search_levels0_rowOf v_search_levels0_colOf v_search_levels0_below v_search_levels0_face v_search_levels0_worn v_search_levels0_last v_search_levels0_bend v_search_levels0_tall v_search_levels1_rows v_search_levels1_cols v_search_levels1_high v_search_levels1_wide v_search_levels1_folds v_search_levels1_wrong v_search_levels1_more v_search_levels1_rowOf v_search_levels1_colOf v_search_levels1_below v_search_levels1_face v_search_levels1_worn v_search_levels1_last v_search_levels1_bend v_search_levels1_tall v_search_levels2_rows v_search_levels2_cols v_search_levels2_high v_search_levels2_wide v_search_levels2_folds v_search_levels2_wrong v_search_levels2_more v_search_levels2_rowOf v_search_levels2_colOf v_search_levels2_below v_search_levels2_face v_search_levels2_worn v_search_levels2_last v_search_levels2_bend v_search_levels2_tall v_search_levels3_rows v_search_levels3_cols v_search_levels3_high v_search_levels3_wide v_search_levels3_folds v_search_levels3_wrong v_search_levels3_more v_search_levels3_rowOf v_search_levels3_colOf v_search_levels3_below v_search_levels3_face v_search_levels3_worn v_search_levels3_last v_search_levels3_bend v_search_levels3_tall v_search_path v_search_best v_strip_list v_strip_found v_strip_at v_changes_value v_changes_done v_changes_size v_changes_before v_changes_after v_foldings_size v_foldings_ran v_foldings_number v_foldings_kinds v_foldings_trace v_shelves0_holds v_shelves0_body v_shelves0_sort v_shelves0_size v_shelves0_items v_shelves1_holds v_shelves1_body v_shelves1_sort v_shelves1_size v_shelves1_items v_shelves2_holds v_shelves2_body v_shelves2_sort v_shelves2_size v_shelves2_items v_shelves3_holds v_shelves3_body v_shelves3_sort v_shelves3_size v_shelves3_items v_shelves4_holds v_shelves4_body v_shelves4_sort v_shelves4_size v_shelves4_items v_shelves5_holds v_shelves5_body v_shelves5_sort v_shelves5_size v_shelves5_items m_keptMany m_done m_rowsOf m_columnsOf m_folded m_wronged m_tapeMany m_textMany m_base m_at m_ends m_fault m_opened m_bentMany m_bentWrong m_moreWorn m_planned m_allWrong m_allWorn m_z m_wishedField m_isFound m_bestWrong m_bestWorn m_bestMany m_soughtBy m_sought m_soughtAt m_foundMany m_foundOrder m_isKept m_imageRows m_imageColumns m_imageFolded m_imageWronged m_bodies m_ran m_ownKind m_ownNumber m_limit m_changeWas m_changeIs m_shapeRows m_shapeColumns m_row m_column m_below m_face m_worn m_lastBend m_tape m_text m_names m_bends m_high m_to m_pileSize m_planLine m_planWay m_way1 m_bestWay m_order1 m_placeIn m_bodyKind m_trace m_shelf m_many m_items m_carried H locs u_0 u_1 u_2 u_3 u_4 u_5 u_6 u_7 u_8 u_9 u_10 u_11 u_12 u_13 u_14 u_15 u_16 u_17 u_18 t_0 t_1 t_2 t_3 t_4 t_5 t_6 t_7 hr_0 hr_1 hP hD hS
  obtain ⟨⟨r8, p_search_found, p_search_wrong, p_search_more, p_search_folds, p_search_wanted, p_search_levels0_rows, p_search_levels0_cols, p_search_levels0_high, p_search_levels0_wide, p_search_levels0_folds, p_search_levels0_wrong, p_search_levels0_more, p_search_levels0_rowOf, p_search_levels0_colOf, p_search_levels0_below, p_search_levels0_face, p_search_levels0_worn, p_search_levels0_last, p_search_levels1_rows, p_search_levels1_cols, p_search_levels1_high, p_search_levels1_wide, p_search_levels1_folds, p_search_levels1_wrong, p_search_levels1_more, p_search_levels1_rowOf, p_search_levels1_colOf, p_search_levels1_below, p_search_levels1_face, p_search_levels1_worn, p_search_levels1_last, p_search_levels1_tall, p_search_levels2_rows, p_search_levels2_cols, p_search_levels2_high, p_search_levels2_wide, p_search_levels2_folds, p_search_levels2_wrong, p_search_levels2_more, p_search_levels2_rowOf, p_search_levels2_colOf, p_search_levels2_below, p_search_levels2_face, p_search_levels2_worn, p_search_levels2_last, p_search_levels2_tall, p_search_levels3_rows, p_search_levels3_cols, p_search_levels3_high, p_search_levels3_wide, p_search_levels3_folds, p_search_levels3_wrong, p_search_levels3_more, p_search_levels3_rowOf, p_search_levels3_colOf, p_search_levels3_below, p_search_levels3_face, p_search_levels3_worn, p_search_levels3_last, p_search_levels3_tall, p_search_path, p_search_best⟩, h8, q8⟩ := st8_wished (x1 := (xs (x3 + (1 : Int32)).toNatClampNeg)) (x2 := (xs (x3 + (2 : Int32)).toNatClampNeg)) (v_now_folds := v_now_folds) (v_now_wrong := v_now_wrong) (v_now_more := v_now_more) (v_search_found := v_search_found) (v_search_wrong := v_search_wrong) (v_search_more := v_search_more) (v_search_wanted := v_search_wanted) (v_search_levels0_folds := v_search_levels0_folds) (v_search_levels0_wrong := v_search_levels0_wrong) (v_search_levels0_more := v_search_levels0_more) (v_search_levels1_folds := v_search_levels1_folds) (v_search_levels1_wrong := v_search_levels1_wrong) (v_search_levels1_more := v_search_levels1_more) (v_search_levels2_folds := v_search_levels2_folds) (v_search_levels2_wrong := v_search_levels2_wrong) (v_search_levels2_more := v_search_levels2_more) (v_search_levels3_folds := v_search_levels3_folds) (v_search_levels3_wrong := v_search_levels3_wrong) (v_search_levels3_more := v_search_levels3_more) u_0 u_11 u_12 u_13 u_14 u_15
  have j8 : gi_se p_search_folds p_search_path p_search_best ∧ gi_sh p_search_levels0_rows p_search_levels0_cols p_search_levels0_high p_search_levels0_wide p_search_levels0_rowOf p_search_levels0_colOf p_search_levels0_below p_search_levels0_face p_search_levels0_worn p_search_levels0_last v_search_levels0_bend v_search_levels0_tall ∧ gi_sh p_search_levels1_rows p_search_levels1_cols p_search_levels1_high p_search_levels1_wide p_search_levels1_rowOf p_search_levels1_colOf p_search_levels1_below p_search_levels1_face p_search_levels1_worn p_search_levels1_last v_search_levels1_bend p_search_levels1_tall ∧ gi_sh p_search_levels2_rows p_search_levels2_cols p_search_levels2_high p_search_levels2_wide p_search_levels2_rowOf p_search_levels2_colOf p_search_levels2_below p_search_levels2_face p_search_levels2_worn p_search_levels2_last v_search_levels2_bend p_search_levels2_tall ∧ gi_sh p_search_levels3_rows p_search_levels3_cols p_search_levels3_high p_search_levels3_wide p_search_levels3_rowOf p_search_levels3_colOf p_search_levels3_below p_search_levels3_face p_search_levels3_worn p_search_levels3_last v_search_levels3_bend p_search_levels3_tall := q8
  obtain ⟨y_0, y_1, y_2, y_3, y_4⟩ := j8
  obtain ⟨⟨r9, q_base, q_at, q_ends, q_fault, q_opened, q_bentMany, q_bentWrong, q_moreWorn, q_wishedField, q_isFound, q_bestWrong, q_bestWorn, q_bestMany, q_shapeRows, q_shapeColumns, q_row, q_column, q_below, q_face, q_worn, q_lastBend, q_names, q_bends, q_high, q_to, q_pileSize, q_way1, q_bestWay⟩, h9, q9⟩ := st9_wished (x1 := (xs (x3 + (1 : Int32)).toNatClampNeg)) (x2 := (xs (x3 + (2 : Int32)).toNatClampNeg)) (v_base := m_base) (v_at := m_at) (v_ends := m_ends) (v_fault := m_fault) (v_opened := m_opened) (v_bentMany := m_bentMany) (v_bentWrong := m_bentWrong) (v_moreWorn := m_moreWorn) (v_wishedField := m_wishedField) (v_isFound := m_isFound) (v_bestWrong := m_bestWrong) (v_bestWorn := m_bestWorn) t_0 t_1 t_2 t_4
  have j9 : gm_sh m_rowsOf m_columnsOf m_isKept m_imageRows m_imageColumns q_shapeRows q_shapeColumns q_row q_column q_below q_face q_worn q_lastBend ∧ gm_tx m_tapeMany m_textMany m_tape m_text q_names q_bends q_high q_to q_pileSize ∧ gm_se q_bestMany q_way1 q_bestWay := q9
  obtain ⟨z_0, z_1, z_2⟩ := j9
  have w_0 := fk_wished_ge t_0 t_1 t_2 t_4 hr_0 h9
  exact lc_17 C0 hX hbl hi_1 rfl hi_2 rfl h8 h9 hc1 hc2 hP hD hS hl (fun H locs hP hD hS => K v_hasImage v_now_rows v_now_cols v_now_high v_now_wide v_now_folds v_now_wrong v_now_more v_now_rowOf v_now_colOf v_now_below v_now_face v_now_worn v_now_last v_now_bend v_now_tall v_kept_rows v_kept_cols v_kept_high v_kept_wide v_kept_folds v_kept_wrong v_kept_more v_kept_rowOf v_kept_colOf v_kept_below v_kept_face v_kept_worn v_kept_last v_kept_bend v_kept_tall v_wearing_size v_wearing_stepCount v_wearing_draftCount v_wearing_place v_wearing_fault v_wearing_stacked v_wearing_tape v_wearing_steps v_wearing_draft v_wearing_stack v_planned_size v_planned_trial_rows v_planned_trial_cols v_planned_trial_high v_planned_trial_wide v_planned_trial_folds v_planned_trial_wrong v_planned_trial_more v_planned_trial_rowOf v_planned_trial_colOf v_planned_trial_below v_planned_trial_face v_planned_trial_worn v_planned_trial_last v_planned_trial_bend v_planned_trial_tall v_planned_lines v_planned_ways p_search_found p_search_wrong p_search_more p_search_folds p_search_wanted p_search_levels0_rows p_search_levels0_cols p_search_levels0_high p_search_levels0_wide p_search_levels0_folds p_search_levels0_wrong p_search_levels0_more p_search_levels0_rowOf p_search_levels0_colOf p_search_levels0_below p_search_levels0_face p_search_levels0_worn p_search_levels0_last v_search_levels0_bend v_search_levels0_tall p_search_levels1_rows p_search_levels1_cols p_search_levels1_high p_search_levels1_wide p_search_levels1_folds p_search_levels1_wrong p_search_levels1_more p_search_levels1_rowOf p_search_levels1_colOf p_search_levels1_below p_search_levels1_face p_search_levels1_worn p_search_levels1_last v_search_levels1_bend p_search_levels1_tall p_search_levels2_rows p_search_levels2_cols p_search_levels2_high p_search_levels2_wide p_search_levels2_folds p_search_levels2_wrong p_search_levels2_more p_search_levels2_rowOf p_search_levels2_colOf p_search_levels2_below p_search_levels2_face p_search_levels2_worn p_search_levels2_last v_search_levels2_bend p_search_levels2_tall p_search_levels3_rows p_search_levels3_cols p_search_levels3_high p_search_levels3_wide p_search_levels3_folds p_search_levels3_wrong p_search_levels3_more p_search_levels3_rowOf p_search_levels3_colOf p_search_levels3_below p_search_levels3_face p_search_levels3_worn p_search_levels3_last v_search_levels3_bend p_search_levels3_tall p_search_path p_search_best v_strip_list v_strip_found v_strip_at v_changes_value v_changes_done v_changes_size v_changes_before v_changes_after v_foldings_size v_foldings_ran v_foldings_number v_foldings_kinds v_foldings_trace v_shelves0_holds v_shelves0_body v_shelves0_sort v_shelves0_size v_shelves0_items v_shelves1_holds v_shelves1_body v_shelves1_sort v_shelves1_size v_shelves1_items v_shelves2_holds v_shelves2_body v_shelves2_sort v_shelves2_size v_shelves2_items v_shelves3_holds v_shelves3_body v_shelves3_sort v_shelves3_size v_shelves3_items v_shelves4_holds v_shelves4_body v_shelves4_sort v_shelves4_size v_shelves4_items v_shelves5_holds v_shelves5_body v_shelves5_sort v_shelves5_size v_shelves5_items m_keptMany m_done m_rowsOf m_columnsOf m_folded m_wronged m_tapeMany m_textMany q_base q_at q_ends q_fault q_opened q_bentMany q_bentWrong q_moreWorn m_planned m_allWrong m_allWorn m_z q_wishedField q_isFound q_bestWrong q_bestWorn q_bestMany m_soughtBy m_sought m_soughtAt m_foundMany m_foundOrder m_isKept m_imageRows m_imageColumns m_imageFolded m_imageWronged m_bodies m_ran m_ownKind m_ownNumber m_limit m_changeWas m_changeIs q_shapeRows q_shapeColumns q_row q_column q_below q_face q_worn q_lastBend m_tape m_text q_names q_bends q_high q_to q_pileSize m_planLine m_planWay q_way1 q_bestWay m_order1 m_placeIn m_bodyKind m_trace m_shelf m_many m_items m_carried H locs u_0 u_1 u_2 u_3 u_4 u_5 u_6 u_7 u_8 u_9 u_10 y_0 y_1 y_2 y_3 y_4 u_16 u_17 u_18 t_0 z_0 z_1 t_3 z_2 t_5 t_6 t_7 w_0 hr_1 hP hD hS)
set_option maxHeartbeats 8000000 in
set_option maxRecDepth 100000 in
theorem ls_18 {p : Program} {l : Launch} {e : Env} {s : State} {m : MethodId} {below : List Frame} {meth : Method} {c : Code} {D : va_G} {cI cL cS cH : ClassId} {bb : Nat} {a b : Nat → Nat} {cells slots : Nat} {Q : State → Prop} {L : Nat} {xs : Nat → Int32} {x3 : Int32} {ls : Array Slot} (C0 : mm_Cx p s m #[Value.ref bb] meth c RL code 4 ret D (mm_T cI cL cS cH) (fun q => s.heap.size ≤ q)) (hX : va_X bb L xs s s.heap) (hbl : bb < s.heap.size) (hi_1 : vp_in (x3 + (1 : Int32)) L) (hc1 : cells ≤ room_1.cells) (hc2 : slots ≤ room_1.slots) (hl : lv_has ls 4 [(0, .ref bb), (1, .ref (a 0)), (2, .ref (b 0)), (3, .int x3)]) (K : lw_St p l e s m below meth c D cI cL cS cH bb a b cells slots Q 1391 ls) : lw_St p l e s m below meth c D cI cL cS cH bb a b cells slots Q 708 ls := by
  intro v_hasImage v_now_rows v_now_cols v_now_high v_now_wide v_now_folds v_now_wrong v_now_more v_now_rowOf v_now_colOf v_now_below v_now_face v_now_worn v_now_last v_now_bend v_now_tall v_kept_rows v_kept_cols v_kept_high v_kept_wide v_kept_folds v_kept_wrong v_kept_more v_kept_rowOf v_kept_colOf v_kept_below v_kept_face v_kept_worn v_kept_last v_kept_bend v_kept_tall v_wearing_size v_wearing_stepCount v_wearing_draftCount v_wearing_place v_wearing_fault v_wearing_stacked v_wearing_tape v_wearing_steps v_wearing_draft v_wearing_stack v_planned_size v_planned_trial_rows v_planned_trial_cols v_planned_trial_high v_planned_trial_wide v_planned_trial_folds v_planned_trial_wrong v_planned_trial_more v_planned_trial_rowOf v_planned_trial_colOf v_planned_trial_below v_planned_trial_face v_planned_trial_worn v_planned_trial_last v_planned_trial_bend v_planned_trial_tall v_planned_lines v_planned_ways v_search_found v_search_wrong v_search_more v_search_folds v_search_wanted v_search_levels0_rows v_search_levels0_cols v_search_levels0_high v_search_levels0_wide v_search_levels0_folds v_search_levels0_wrong v_search_levels0_more v_search_levels0_rowOf v_search_levels0_colOf v_search_levels0_below v_search_levels0_face v_search_levels0_worn v_search_levels0_last v_search_levels0_bend v_search_levels0_tall v_search_levels1_rows v_search_levels1_cols v_search_levels1_high v_search_levels1_wide v_search_levels1_folds v_search_levels1_wrong v_search_levels1_more v_search_levels1_rowOf v_search_levels1_colOf v_search_levels1_below v_search_levels1_face v_search_levels1_worn v_search_levels1_last v_search_levels1_bend v_search_levels1_tall v_search_levels2_rows v_search_levels2_cols v_search_levels2_high v_search_levels2_wide v_search_levels2_folds v_search_levels2_wrong v_search_levels2_more v_search_levels2_rowOf v_search_levels2_colOf v_search_levels2_below v_search_levels2_face v_search_levels2_worn v_search_levels2_last v_search_levels2_bend v_search_levels2_tall v_search_levels3_rows v_search_levels3_cols v_search_levels3_high v_search_levels3_wide v_search_levels3_folds v_search_levels3_wrong v_search_levels3_more v_search_levels3_rowOf v_search_levels3_colOf v_search_levels3_below v_search_levels3_face v_search_levels3_worn v_search_levels3_last v_search_levels3_bend v_search_levels3_tall v_search_path v_search_best v_strip_list v_strip_found v_strip_at v_changes_value v_changes_done v_changes_size v_changes_before v_changes_after v_foldings_size v_foldings_ran v_foldings_number v_foldings_kinds v_foldings_trace v_shelves0_holds v_shelves0_body v_shelves0_sort v_shelves0_size v_shelves0_items v_shelves1_holds v_shelves1_body v_shelves1_sort v_shelves1_size v_shelves1_items v_shelves2_holds v_shelves2_body v_shelves2_sort v_shelves2_size v_shelves2_items v_shelves3_holds v_shelves3_body v_shelves3_sort v_shelves3_size v_shelves3_items v_shelves4_holds v_shelves4_body v_shelves4_sort v_shelves4_size v_shelves4_items v_shelves5_holds v_shelves5_body v_shelves5_sort v_shelves5_size v_shelves5_items m_keptMany m_done m_rowsOf m_columnsOf m_folded m_wronged m_tapeMany m_textMany m_base m_at m_ends m_fault m_opened m_bentMany m_bentWrong m_moreWorn m_planned m_allWrong m_allWorn m_z m_wishedField m_isFound m_bestWrong m_bestWorn m_bestMany m_soughtBy m_sought m_soughtAt m_foundMany m_foundOrder m_isKept m_imageRows m_imageColumns m_imageFolded m_imageWronged m_bodies m_ran m_ownKind m_ownNumber m_limit m_changeWas m_changeIs m_shapeRows m_shapeColumns m_row m_column m_below m_face m_worn m_lastBend m_tape m_text m_names m_bends m_high m_to m_pileSize m_planLine m_planWay m_way1 m_bestWay m_order1 m_placeIn m_bodyKind m_trace m_shelf m_many m_items m_carried H locs u_0 u_1 u_2 u_3 u_4 u_5 u_6 u_7 u_8 u_9 u_10 u_11 u_12 u_13 u_14 u_15 u_16 u_17 u_18 t_0 t_1 t_2 t_3 t_4 t_5 t_6 t_7 hr_0 hr_1 hP hD hS
  obtain ⟨⟨r8, p_wearing_stacked, p_wearing_stack, p_search_found, p_search_wrong, p_search_more, p_search_folds, p_search_wanted, p_search_levels0_rows, p_search_levels0_cols, p_search_levels0_high, p_search_levels0_wide, p_search_levels0_folds, p_search_levels0_wrong, p_search_levels0_more, p_search_levels0_rowOf, p_search_levels0_colOf, p_search_levels0_below, p_search_levels0_face, p_search_levels0_worn, p_search_levels0_last, p_search_levels1_rows, p_search_levels1_cols, p_search_levels1_high, p_search_levels1_wide, p_search_levels1_folds, p_search_levels1_wrong, p_search_levels1_more, p_search_levels1_rowOf, p_search_levels1_colOf, p_search_levels1_below, p_search_levels1_face, p_search_levels1_worn, p_search_levels1_last, p_search_levels1_bend, p_search_levels1_tall, p_search_levels2_rows, p_search_levels2_cols, p_search_levels2_high, p_search_levels2_wide, p_search_levels2_folds, p_search_levels2_wrong, p_search_levels2_more, p_search_levels2_rowOf, p_search_levels2_colOf, p_search_levels2_below, p_search_levels2_face, p_search_levels2_worn, p_search_levels2_last, p_search_levels2_bend, p_search_levels2_tall, p_search_levels3_rows, p_search_levels3_cols, p_search_levels3_high, p_search_levels3_wide, p_search_levels3_folds, p_search_levels3_wrong, p_search_levels3_more, p_search_levels3_rowOf, p_search_levels3_colOf, p_search_levels3_below, p_search_levels3_face, p_search_levels3_worn, p_search_levels3_last, p_search_levels3_bend, p_search_levels3_tall, p_search_path, p_search_best⟩, h8, q8⟩ := st8_right (x1 := (xs (x3 + (1 : Int32)).toNatClampNeg)) (v_now_folds := v_now_folds) (v_now_wrong := v_now_wrong) (v_now_more := v_now_more) (v_wearing_stacked := v_wearing_stacked) (v_search_found := v_search_found) (v_search_wrong := v_search_wrong) (v_search_more := v_search_more) (v_search_wanted := v_search_wanted) (v_search_levels0_folds := v_search_levels0_folds) (v_search_levels0_wrong := v_search_levels0_wrong) (v_search_levels0_more := v_search_levels0_more) (v_search_levels1_folds := v_search_levels1_folds) (v_search_levels1_wrong := v_search_levels1_wrong) (v_search_levels1_more := v_search_levels1_more) (v_search_levels2_folds := v_search_levels2_folds) (v_search_levels2_wrong := v_search_levels2_wrong) (v_search_levels2_more := v_search_levels2_more) (v_search_levels3_folds := v_search_levels3_folds) (v_search_levels3_wrong := v_search_levels3_wrong) (v_search_levels3_more := v_search_levels3_more) (v_changes_value := v_changes_value) u_0 u_2 u_11 u_12 u_13 u_14 u_15
  have j8 : gi_la v_wearing_size v_wearing_stepCount v_wearing_draftCount v_wearing_tape v_wearing_steps v_wearing_draft p_wearing_stack ∧ gi_se p_search_folds p_search_path p_search_best ∧ gi_sh p_search_levels0_rows p_search_levels0_cols p_search_levels0_high p_search_levels0_wide p_search_levels0_rowOf p_search_levels0_colOf p_search_levels0_below p_search_levels0_face p_search_levels0_worn p_search_levels0_last v_search_levels0_bend v_search_levels0_tall ∧ gi_sh p_search_levels1_rows p_search_levels1_cols p_search_levels1_high p_search_levels1_wide p_search_levels1_rowOf p_search_levels1_colOf p_search_levels1_below p_search_levels1_face p_search_levels1_worn p_search_levels1_last p_search_levels1_bend p_search_levels1_tall ∧ gi_sh p_search_levels2_rows p_search_levels2_cols p_search_levels2_high p_search_levels2_wide p_search_levels2_rowOf p_search_levels2_colOf p_search_levels2_below p_search_levels2_face p_search_levels2_worn p_search_levels2_last p_search_levels2_bend p_search_levels2_tall ∧ gi_sh p_search_levels3_rows p_search_levels3_cols p_search_levels3_high p_search_levels3_wide p_search_levels3_rowOf p_search_levels3_colOf p_search_levels3_below p_search_levels3_face p_search_levels3_worn p_search_levels3_last p_search_levels3_bend p_search_levels3_tall := q8
  obtain ⟨y_0, y_1, y_2, y_3, y_4, y_5⟩ := j8
  obtain ⟨⟨r9, q_base, q_at, q_ends, q_fault, q_opened, q_bentMany, q_bentWrong, q_moreWorn, q_wishedField, q_isFound, q_bestWrong, q_bestWorn, q_bestMany, q_shapeRows, q_shapeColumns, q_row, q_column, q_below, q_face, q_worn, q_lastBend, q_names, q_bends, q_high, q_to, q_pileSize, q_way1, q_bestWay⟩, h9, q9⟩ := st9_right (x1 := (xs (x3 + (1 : Int32)).toNatClampNeg)) (v_base := m_base) (v_at := m_at) (v_ends := m_ends) (v_fault := m_fault) (v_opened := m_opened) (v_bentMany := m_bentMany) (v_bentWrong := m_bentWrong) (v_moreWorn := m_moreWorn) (v_wishedField := m_wishedField) (v_isFound := m_isFound) (v_bestWrong := m_bestWrong) (v_bestWorn := m_bestWorn) t_0 t_1 t_2 t_4
  have j9 : gm_sh m_rowsOf m_columnsOf m_isKept m_imageRows m_imageColumns q_shapeRows q_shapeColumns q_row q_column q_below q_face q_worn q_lastBend ∧ gm_tx m_tapeMany m_textMany m_tape m_text q_names q_bends q_high q_to q_pileSize ∧ gm_se q_bestMany q_way1 q_bestWay := q9
  obtain ⟨z_0, z_1, z_2⟩ := j9
  have w_0 := fk_right_ge t_0 t_1 t_2 t_4 hr_0 h9
  exact lc_18 C0 hX hbl hi_1 rfl h8 h9 hc1 hc2 hP hD hS hl (fun H locs hP hD hS => K v_hasImage v_now_rows v_now_cols v_now_high v_now_wide v_now_folds v_now_wrong v_now_more v_now_rowOf v_now_colOf v_now_below v_now_face v_now_worn v_now_last v_now_bend v_now_tall v_kept_rows v_kept_cols v_kept_high v_kept_wide v_kept_folds v_kept_wrong v_kept_more v_kept_rowOf v_kept_colOf v_kept_below v_kept_face v_kept_worn v_kept_last v_kept_bend v_kept_tall v_wearing_size v_wearing_stepCount v_wearing_draftCount v_wearing_place v_wearing_fault p_wearing_stacked v_wearing_tape v_wearing_steps v_wearing_draft p_wearing_stack v_planned_size v_planned_trial_rows v_planned_trial_cols v_planned_trial_high v_planned_trial_wide v_planned_trial_folds v_planned_trial_wrong v_planned_trial_more v_planned_trial_rowOf v_planned_trial_colOf v_planned_trial_below v_planned_trial_face v_planned_trial_worn v_planned_trial_last v_planned_trial_bend v_planned_trial_tall v_planned_lines v_planned_ways p_search_found p_search_wrong p_search_more p_search_folds p_search_wanted p_search_levels0_rows p_search_levels0_cols p_search_levels0_high p_search_levels0_wide p_search_levels0_folds p_search_levels0_wrong p_search_levels0_more p_search_levels0_rowOf p_search_levels0_colOf p_search_levels0_below p_search_levels0_face p_search_levels0_worn p_search_levels0_last v_search_levels0_bend v_search_levels0_tall p_search_levels1_rows p_search_levels1_cols p_search_levels1_high p_search_levels1_wide p_search_levels1_folds p_search_levels1_wrong p_search_levels1_more p_search_levels1_rowOf p_search_levels1_colOf p_search_levels1_below p_search_levels1_face p_search_levels1_worn p_search_levels1_last p_search_levels1_bend p_search_levels1_tall p_search_levels2_rows p_search_levels2_cols p_search_levels2_high p_search_levels2_wide p_search_levels2_folds p_search_levels2_wrong p_search_levels2_more p_search_levels2_rowOf p_search_levels2_colOf p_search_levels2_below p_search_levels2_face p_search_levels2_worn p_search_levels2_last p_search_levels2_bend p_search_levels2_tall p_search_levels3_rows p_search_levels3_cols p_search_levels3_high p_search_levels3_wide p_search_levels3_folds p_search_levels3_wrong p_search_levels3_more p_search_levels3_rowOf p_search_levels3_colOf p_search_levels3_below p_search_levels3_face p_search_levels3_worn p_search_levels3_last p_search_levels3_bend p_search_levels3_tall p_search_path p_search_best v_strip_list v_strip_found v_strip_at v_changes_value v_changes_done v_changes_size v_changes_before v_changes_after v_foldings_size v_foldings_ran v_foldings_number v_foldings_kinds v_foldings_trace v_shelves0_holds v_shelves0_body v_shelves0_sort v_shelves0_size v_shelves0_items v_shelves1_holds v_shelves1_body v_shelves1_sort v_shelves1_size v_shelves1_items v_shelves2_holds v_shelves2_body v_shelves2_sort v_shelves2_size v_shelves2_items v_shelves3_holds v_shelves3_body v_shelves3_sort v_shelves3_size v_shelves3_items v_shelves4_holds v_shelves4_body v_shelves4_sort v_shelves4_size v_shelves4_items v_shelves5_holds v_shelves5_body v_shelves5_sort v_shelves5_size v_shelves5_items m_keptMany m_done m_rowsOf m_columnsOf m_folded m_wronged m_tapeMany m_textMany q_base q_at q_ends q_fault q_opened q_bentMany q_bentWrong q_moreWorn m_planned m_allWrong m_allWorn m_z q_wishedField q_isFound q_bestWrong q_bestWorn q_bestMany m_soughtBy m_sought m_soughtAt m_foundMany m_foundOrder m_isKept m_imageRows m_imageColumns m_imageFolded m_imageWronged m_bodies m_ran m_ownKind m_ownNumber m_limit m_changeWas m_changeIs q_shapeRows q_shapeColumns q_row q_column q_below q_face q_worn q_lastBend m_tape m_text q_names q_bends q_high q_to q_pileSize m_planLine m_planWay q_way1 q_bestWay m_order1 m_placeIn m_bodyKind m_trace m_shelf m_many m_items m_carried H locs u_0 u_1 y_0 u_3 u_4 u_5 u_6 u_7 u_8 u_9 u_10 y_1 y_2 y_3 y_4 y_5 u_16 u_17 u_18 t_0 z_0 z_1 t_3 z_2 t_5 t_6 t_7 w_0 hr_1 hP hD hS)
set_option maxHeartbeats 8000000 in
set_option maxRecDepth 100000 in
theorem ls_19 {p : Program} {l : Launch} {e : Env} {s : State} {m : MethodId} {below : List Frame} {meth : Method} {c : Code} {D : va_G} {cI cL cS cH : ClassId} {bb : Nat} {a b : Nat → Nat} {cells slots : Nat} {Q : State → Prop} {L : Nat} {xs : Nat → Int32} {x3 : Int32} {ls : Array Slot} (C0 : mm_Cx p s m #[Value.ref bb] meth c RL code 4 ret D (mm_T cI cL cS cH) (fun q => s.heap.size ≤ q)) (hX : va_X bb L xs s s.heap) (hbl : bb < s.heap.size) (hi_1 : vp_in (x3 + (1 : Int32)) L) (hi_2 : vp_in (x3 + (2 : Int32)) L) (hi_3 : vp_in (x3 + (3 : Int32)) L) (hc1 : cells ≤ room_1.cells) (hc2 : slots ≤ room_1.slots) (hl : lv_has ls 4 [(0, .ref bb), (1, .ref (a 0)), (2, .ref (b 0)), (3, .int x3)]) (K : lw_St p l e s m below meth c D cI cL cS cH bb a b cells slots Q 1391 ls) : lw_St p l e s m below meth c D cI cL cS cH bb a b cells slots Q 731 ls := by
  intro v_hasImage v_now_rows v_now_cols v_now_high v_now_wide v_now_folds v_now_wrong v_now_more v_now_rowOf v_now_colOf v_now_below v_now_face v_now_worn v_now_last v_now_bend v_now_tall v_kept_rows v_kept_cols v_kept_high v_kept_wide v_kept_folds v_kept_wrong v_kept_more v_kept_rowOf v_kept_colOf v_kept_below v_kept_face v_kept_worn v_kept_last v_kept_bend v_kept_tall v_wearing_size v_wearing_stepCount v_wearing_draftCount v_wearing_place v_wearing_fault v_wearing_stacked v_wearing_tape v_wearing_steps v_wearing_draft v_wearing_stack v_planned_size v_planned_trial_rows v_planned_trial_cols v_planned_trial_high v_planned_trial_wide v_planned_trial_folds v_planned_trial_wrong v_planned_trial_more v_planned_trial_rowOf v_planned_trial_colOf v_planned_trial_below v_planned_trial_face v_planned_trial_worn v_planned_trial_last v_planned_trial_bend v_planned_trial_tall v_planned_lines v_planned_ways v_search_found v_search_wrong v_search_more v_search_folds v_search_wanted v_search_levels0_rows v_search_levels0_cols v_search_levels0_high v_search_levels0_wide v_search_levels0_folds v_search_levels0_wrong v_search_levels0_more v_search_levels0_rowOf v_search_levels0_colOf v_search_levels0_below v_search_levels0_face v_search_levels0_worn v_search_levels0_last v_search_levels0_bend v_search_levels0_tall v_search_levels1_rows v_search_levels1_cols v_search_levels1_high v_search_levels1_wide v_search_levels1_folds v_search_levels1_wrong v_search_levels1_more v_search_levels1_rowOf v_search_levels1_colOf v_search_levels1_below v_search_levels1_face v_search_levels1_worn v_search_levels1_last v_search_levels1_bend v_search_levels1_tall v_search_levels2_rows v_search_levels2_cols v_search_levels2_high v_search_levels2_wide v_search_levels2_folds v_search_levels2_wrong v_search_levels2_more v_search_levels2_rowOf v_search_levels2_colOf v_search_levels2_below v_search_levels2_face v_search_levels2_worn v_search_levels2_last v_search_levels2_bend v_search_levels2_tall v_search_levels3_rows v_search_levels3_cols v_search_levels3_high v_search_levels3_wide v_search_levels3_folds v_search_levels3_wrong v_search_levels3_more v_search_levels3_rowOf v_search_levels3_colOf v_search_levels3_below v_search_levels3_face v_search_levels3_worn v_search_levels3_last v_search_levels3_bend v_search_levels3_tall v_search_path v_search_best v_strip_list v_strip_found v_strip_at v_changes_value v_changes_done v_changes_size v_changes_before v_changes_after v_foldings_size v_foldings_ran v_foldings_number v_foldings_kinds v_foldings_trace v_shelves0_holds v_shelves0_body v_shelves0_sort v_shelves0_size v_shelves0_items v_shelves1_holds v_shelves1_body v_shelves1_sort v_shelves1_size v_shelves1_items v_shelves2_holds v_shelves2_body v_shelves2_sort v_shelves2_size v_shelves2_items v_shelves3_holds v_shelves3_body v_shelves3_sort v_shelves3_size v_shelves3_items v_shelves4_holds v_shelves4_body v_shelves4_sort v_shelves4_size v_shelves4_items v_shelves5_holds v_shelves5_body v_shelves5_sort v_shelves5_size v_shelves5_items m_keptMany m_done m_rowsOf m_columnsOf m_folded m_wronged m_tapeMany m_textMany m_base m_at m_ends m_fault m_opened m_bentMany m_bentWrong m_moreWorn m_planned m_allWrong m_allWorn m_z m_wishedField m_isFound m_bestWrong m_bestWorn m_bestMany m_soughtBy m_sought m_soughtAt m_foundMany m_foundOrder m_isKept m_imageRows m_imageColumns m_imageFolded m_imageWronged m_bodies m_ran m_ownKind m_ownNumber m_limit m_changeWas m_changeIs m_shapeRows m_shapeColumns m_row m_column m_below m_face m_worn m_lastBend m_tape m_text m_names m_bends m_high m_to m_pileSize m_planLine m_planWay m_way1 m_bestWay m_order1 m_placeIn m_bodyKind m_trace m_shelf m_many m_items m_carried H locs u_0 u_1 u_2 u_3 u_4 u_5 u_6 u_7 u_8 u_9 u_10 u_11 u_12 u_13 u_14 u_15 u_16 u_17 u_18 t_0 t_1 t_2 t_3 t_4 t_5 t_6 t_7 hr_0 hr_1 hP hD hS
  obtain ⟨⟨r8, p_wearing_stacked, p_wearing_stack, p_planned_trial_rows, p_planned_trial_cols, p_planned_trial_high, p_planned_trial_wide, p_planned_trial_folds, p_planned_trial_wrong, p_planned_trial_more, p_planned_trial_rowOf, p_planned_trial_colOf, p_planned_trial_below, p_planned_trial_face, p_planned_trial_worn, p_planned_trial_last, p_planned_trial_bend, p_planned_trial_tall⟩, h8, q8⟩ := st8_wind (x1 := (xs (x3 + (1 : Int32)).toNatClampNeg)) (x2 := (xs (x3 + (2 : Int32)).toNatClampNeg)) (x3 := (xs (x3 + (3 : Int32)).toNatClampNeg)) (v_now_folds := v_now_folds) (v_now_wrong := v_now_wrong) (v_now_more := v_now_more) (v_wearing_stacked := v_wearing_stacked) (v_planned_trial_folds := v_planned_trial_folds) (v_planned_trial_wrong := v_planned_trial_wrong) (v_planned_trial_more := v_planned_trial_more) (v_changes_value := v_changes_value) u_0 u_2 u_3 u_10
  have j8 : gi_la v_wearing_size v_wearing_stepCount v_wearing_draftCount v_wearing_tape v_wearing_steps v_wearing_draft p_wearing_stack ∧ gi_sh p_planned_trial_rows p_planned_trial_cols p_planned_trial_high p_planned_trial_wide p_planned_trial_rowOf p_planned_trial_colOf p_planned_trial_below p_planned_trial_face p_planned_trial_worn p_planned_trial_last p_planned_trial_bend p_planned_trial_tall := q8
  obtain ⟨y_0, y_1⟩ := j8
  obtain ⟨⟨r9, q_base, q_at, q_ends, q_fault, q_opened, q_bentMany, q_bentWrong, q_moreWorn, q_allWrong, q_allWorn, q_z, q_shapeRows, q_shapeColumns, q_row, q_column, q_below, q_face, q_worn, q_lastBend, q_names, q_bends, q_high, q_to, q_pileSize⟩, h9, q9⟩ := st9_wind (x1 := (xs (x3 + (1 : Int32)).toNatClampNeg)) (x2 := (xs (x3 + (2 : Int32)).toNatClampNeg)) (x3 := (xs (x3 + (3 : Int32)).toNatClampNeg)) (v_base := m_base) (v_at := m_at) (v_ends := m_ends) (v_fault := m_fault) (v_opened := m_opened) (v_bentMany := m_bentMany) (v_bentWrong := m_bentWrong) (v_moreWorn := m_moreWorn) (v_allWrong := m_allWrong) (v_allWorn := m_allWorn) (v_z := m_z) t_0 t_1 t_2 t_3
  have j9 : gm_sh m_rowsOf m_columnsOf m_isKept m_imageRows m_imageColumns q_shapeRows q_shapeColumns q_row q_column q_below q_face q_worn q_lastBend ∧ gm_tx m_tapeMany m_textMany m_tape m_text q_names q_bends q_high q_to q_pileSize := q9
  obtain ⟨z_0, z_1⟩ := j9
  have w_0 := fk_wind_ge t_0 t_1 t_2 t_3 hr_0 h9
  exact lc_19 C0 hX hbl hi_1 rfl hi_2 rfl hi_3 rfl h8 h9 hc1 hc2 hP hD hS hl (fun H locs hP hD hS => K v_hasImage v_now_rows v_now_cols v_now_high v_now_wide v_now_folds v_now_wrong v_now_more v_now_rowOf v_now_colOf v_now_below v_now_face v_now_worn v_now_last v_now_bend v_now_tall v_kept_rows v_kept_cols v_kept_high v_kept_wide v_kept_folds v_kept_wrong v_kept_more v_kept_rowOf v_kept_colOf v_kept_below v_kept_face v_kept_worn v_kept_last v_kept_bend v_kept_tall v_wearing_size v_wearing_stepCount v_wearing_draftCount v_wearing_place v_wearing_fault p_wearing_stacked v_wearing_tape v_wearing_steps v_wearing_draft p_wearing_stack v_planned_size p_planned_trial_rows p_planned_trial_cols p_planned_trial_high p_planned_trial_wide p_planned_trial_folds p_planned_trial_wrong p_planned_trial_more p_planned_trial_rowOf p_planned_trial_colOf p_planned_trial_below p_planned_trial_face p_planned_trial_worn p_planned_trial_last p_planned_trial_bend p_planned_trial_tall v_planned_lines v_planned_ways v_search_found v_search_wrong v_search_more v_search_folds v_search_wanted v_search_levels0_rows v_search_levels0_cols v_search_levels0_high v_search_levels0_wide v_search_levels0_folds v_search_levels0_wrong v_search_levels0_more v_search_levels0_rowOf v_search_levels0_colOf v_search_levels0_below v_search_levels0_face v_search_levels0_worn v_search_levels0_last v_search_levels0_bend v_search_levels0_tall v_search_levels1_rows v_search_levels1_cols v_search_levels1_high v_search_levels1_wide v_search_levels1_folds v_search_levels1_wrong v_search_levels1_more v_search_levels1_rowOf v_search_levels1_colOf v_search_levels1_below v_search_levels1_face v_search_levels1_worn v_search_levels1_last v_search_levels1_bend v_search_levels1_tall v_search_levels2_rows v_search_levels2_cols v_search_levels2_high v_search_levels2_wide v_search_levels2_folds v_search_levels2_wrong v_search_levels2_more v_search_levels2_rowOf v_search_levels2_colOf v_search_levels2_below v_search_levels2_face v_search_levels2_worn v_search_levels2_last v_search_levels2_bend v_search_levels2_tall v_search_levels3_rows v_search_levels3_cols v_search_levels3_high v_search_levels3_wide v_search_levels3_folds v_search_levels3_wrong v_search_levels3_more v_search_levels3_rowOf v_search_levels3_colOf v_search_levels3_below v_search_levels3_face v_search_levels3_worn v_search_levels3_last v_search_levels3_bend v_search_levels3_tall v_search_path v_search_best v_strip_list v_strip_found v_strip_at v_changes_value v_changes_done v_changes_size v_changes_before v_changes_after v_foldings_size v_foldings_ran v_foldings_number v_foldings_kinds v_foldings_trace v_shelves0_holds v_shelves0_body v_shelves0_sort v_shelves0_size v_shelves0_items v_shelves1_holds v_shelves1_body v_shelves1_sort v_shelves1_size v_shelves1_items v_shelves2_holds v_shelves2_body v_shelves2_sort v_shelves2_size v_shelves2_items v_shelves3_holds v_shelves3_body v_shelves3_sort v_shelves3_size v_shelves3_items v_shelves4_holds v_shelves4_body v_shelves4_sort v_shelves4_size v_shelves4_items v_shelves5_holds v_shelves5_body v_shelves5_sort v_shelves5_size v_shelves5_items m_keptMany m_done m_rowsOf m_columnsOf m_folded m_wronged m_tapeMany m_textMany q_base q_at q_ends q_fault q_opened q_bentMany q_bentWrong q_moreWorn m_planned q_allWrong q_allWorn q_z m_wishedField m_isFound m_bestWrong m_bestWorn m_bestMany m_soughtBy m_sought m_soughtAt m_foundMany m_foundOrder m_isKept m_imageRows m_imageColumns m_imageFolded m_imageWronged m_bodies m_ran m_ownKind m_ownNumber m_limit m_changeWas m_changeIs q_shapeRows q_shapeColumns q_row q_column q_below q_face q_worn q_lastBend m_tape m_text q_names q_bends q_high q_to q_pileSize m_planLine m_planWay m_way1 m_bestWay m_order1 m_placeIn m_bodyKind m_trace m_shelf m_many m_items m_carried H locs u_0 u_1 y_0 u_3 u_4 u_5 u_6 u_7 u_8 u_9 y_1 u_11 u_12 u_13 u_14 u_15 u_16 u_17 u_18 t_0 z_0 z_1 t_3 t_4 t_5 t_6 t_7 w_0 hr_1 hP hD hS)
set_option maxHeartbeats 8000000 in
set_option maxRecDepth 100000 in
theorem ls_20 {p : Program} {l : Launch} {e : Env} {s : State} {m : MethodId} {below : List Frame} {meth : Method} {c : Code} {D : va_G} {cI cL cS cH : ClassId} {bb : Nat} {a b : Nat → Nat} {cells slots : Nat} {Q : State → Prop} {L : Nat} {xs : Nat → Int32} {x3 : Int32} {ls : Array Slot} (C0 : mm_Cx p s m #[Value.ref bb] meth c RL code 4 ret D (mm_T cI cL cS cH) (fun q => s.heap.size ≤ q)) (hX : va_X bb L xs s s.heap) (hbl : bb < s.heap.size) (hi_1 : vp_in (x3 + (1 : Int32)) L) (hi_2 : vp_in (x3 + (2 : Int32)) L) (hc1 : cells ≤ room_1.cells) (hc2 : slots ≤ room_1.slots) (hl : lv_has ls 4 [(0, .ref bb), (1, .ref (a 0)), (2, .ref (b 0)), (3, .int x3)]) (K : lw_St p l e s m below meth c D cI cL cS cH bb a b cells slots Q 1391 ls) : lw_St p l e s m below meth c D cI cL cS cH bb a b cells slots Q 774 ls := by
  intro v_hasImage v_now_rows v_now_cols v_now_high v_now_wide v_now_folds v_now_wrong v_now_more v_now_rowOf v_now_colOf v_now_below v_now_face v_now_worn v_now_last v_now_bend v_now_tall v_kept_rows v_kept_cols v_kept_high v_kept_wide v_kept_folds v_kept_wrong v_kept_more v_kept_rowOf v_kept_colOf v_kept_below v_kept_face v_kept_worn v_kept_last v_kept_bend v_kept_tall v_wearing_size v_wearing_stepCount v_wearing_draftCount v_wearing_place v_wearing_fault v_wearing_stacked v_wearing_tape v_wearing_steps v_wearing_draft v_wearing_stack v_planned_size v_planned_trial_rows v_planned_trial_cols v_planned_trial_high v_planned_trial_wide v_planned_trial_folds v_planned_trial_wrong v_planned_trial_more v_planned_trial_rowOf v_planned_trial_colOf v_planned_trial_below v_planned_trial_face v_planned_trial_worn v_planned_trial_last v_planned_trial_bend v_planned_trial_tall v_planned_lines v_planned_ways v_search_found v_search_wrong v_search_more v_search_folds v_search_wanted v_search_levels0_rows v_search_levels0_cols v_search_levels0_high v_search_levels0_wide v_search_levels0_folds v_search_levels0_wrong v_search_levels0_more v_search_levels0_rowOf v_search_levels0_colOf v_search_levels0_below v_search_levels0_face v_search_levels0_worn v_search_levels0_last v_search_levels0_bend v_search_levels0_tall v_search_levels1_rows v_search_levels1_cols v_search_levels1_high v_search_levels1_wide v_search_levels1_folds v_search_levels1_wrong v_search_levels1_more v_search_levels1_rowOf v_search_levels1_colOf v_search_levels1_below v_search_levels1_face v_search_levels1_worn v_search_levels1_last v_search_levels1_bend v_search_levels1_tall v_search_levels2_rows v_search_levels2_cols v_search_levels2_high v_search_levels2_wide v_search_levels2_folds v_search_levels2_wrong v_search_levels2_more v_search_levels2_rowOf v_search_levels2_colOf v_search_levels2_below v_search_levels2_face v_search_levels2_worn v_search_levels2_last v_search_levels2_bend v_search_levels2_tall v_search_levels3_rows v_search_levels3_cols v_search_levels3_high v_search_levels3_wide v_search_levels3_folds v_search_levels3_wrong v_search_levels3_more v_search_levels3_rowOf v_search_levels3_colOf v_search_levels3_below v_search_levels3_face v_search_levels3_worn v_search_levels3_last v_search_levels3_bend v_search_levels3_tall v_search_path v_search_best v_strip_list v_strip_found v_strip_at v_changes_value v_changes_done v_changes_size v_changes_before v_changes_after v_foldings_size v_foldings_ran v_foldings_number v_foldings_kinds v_foldings_trace v_shelves0_holds v_shelves0_body v_shelves0_sort v_shelves0_size v_shelves0_items v_shelves1_holds v_shelves1_body v_shelves1_sort v_shelves1_size v_shelves1_items v_shelves2_holds v_shelves2_body v_shelves2_sort v_shelves2_size v_shelves2_items v_shelves3_holds v_shelves3_body v_shelves3_sort v_shelves3_size v_shelves3_items v_shelves4_holds v_shelves4_body v_shelves4_sort v_shelves4_size v_shelves4_items v_shelves5_holds v_shelves5_body v_shelves5_sort v_shelves5_size v_shelves5_items m_keptMany m_done m_rowsOf m_columnsOf m_folded m_wronged m_tapeMany m_textMany m_base m_at m_ends m_fault m_opened m_bentMany m_bentWrong m_moreWorn m_planned m_allWrong m_allWorn m_z m_wishedField m_isFound m_bestWrong m_bestWorn m_bestMany m_soughtBy m_sought m_soughtAt m_foundMany m_foundOrder m_isKept m_imageRows m_imageColumns m_imageFolded m_imageWronged m_bodies m_ran m_ownKind m_ownNumber m_limit m_changeWas m_changeIs m_shapeRows m_shapeColumns m_row m_column m_below m_face m_worn m_lastBend m_tape m_text m_names m_bends m_high m_to m_pileSize m_planLine m_planWay m_way1 m_bestWay m_order1 m_placeIn m_bodyKind m_trace m_shelf m_many m_items m_carried H locs u_0 u_1 u_2 u_3 u_4 u_5 u_6 u_7 u_8 u_9 u_10 u_11 u_12 u_13 u_14 u_15 u_16 u_17 u_18 t_0 t_1 t_2 t_3 t_4 t_5 t_6 t_7 hr_0 hr_1 hP hD hS
  obtain ⟨⟨r8, p_strip_at⟩, h8, q8⟩ := st8_crosses (x1 := (xs (x3 + (1 : Int32)).toNatClampNeg)) (x2 := (xs (x3 + (2 : Int32)).toNatClampNeg)) u_16
  have y_0 : gi_st p_strip_at v_strip_list v_strip_found := q8
  obtain ⟨⟨r9, q_order1, q_placeIn⟩, h9, q9⟩ := st9_crosses (x1 := (xs (x3 + (1 : Int32)).toNatClampNeg)) (x2 := (xs (x3 + (2 : Int32)).toNatClampNeg)) t_5
  have z_0 : gm_or q_order1 q_placeIn := q9
  exact lc_20 C0 hX hbl hi_1 rfl hi_2 rfl h8 h9 hc1 hc2 hP hD hS hl (fun H locs hP hD hS => K v_hasImage v_now_rows v_now_cols v_now_high v_now_wide v_now_folds v_now_wrong v_now_more v_now_rowOf v_now_colOf v_now_below v_now_face v_now_worn v_now_last v_now_bend v_now_tall v_kept_rows v_kept_cols v_kept_high v_kept_wide v_kept_folds v_kept_wrong v_kept_more v_kept_rowOf v_kept_colOf v_kept_below v_kept_face v_kept_worn v_kept_last v_kept_bend v_kept_tall v_wearing_size v_wearing_stepCount v_wearing_draftCount v_wearing_place v_wearing_fault v_wearing_stacked v_wearing_tape v_wearing_steps v_wearing_draft v_wearing_stack v_planned_size v_planned_trial_rows v_planned_trial_cols v_planned_trial_high v_planned_trial_wide v_planned_trial_folds v_planned_trial_wrong v_planned_trial_more v_planned_trial_rowOf v_planned_trial_colOf v_planned_trial_below v_planned_trial_face v_planned_trial_worn v_planned_trial_last v_planned_trial_bend v_planned_trial_tall v_planned_lines v_planned_ways v_search_found v_search_wrong v_search_more v_search_folds v_search_wanted v_search_levels0_rows v_search_levels0_cols v_search_levels0_high v_search_levels0_wide v_search_levels0_folds v_search_levels0_wrong v_search_levels0_more v_search_levels0_rowOf v_search_levels0_colOf v_search_levels0_below v_search_levels0_face v_search_levels0_worn v_search_levels0_last v_search_levels0_bend v_search_levels0_tall v_search_levels1_rows v_search_levels1_cols v_search_levels1_high v_search_levels1_wide v_search_levels1_folds v_search_levels1_wrong v_search_levels1_more v_search_levels1_rowOf v_search_levels1_colOf v_search_levels1_below v_search_levels1_face v_search_levels1_worn v_search_levels1_last v_search_levels1_bend v_search_levels1_tall v_search_levels2_rows v_search_levels2_cols v_search_levels2_high v_search_levels2_wide v_search_levels2_folds v_search_levels2_wrong v_search_levels2_more v_search_levels2_rowOf v_search_levels2_colOf v_search_levels2_below v_search_levels2_face v_search_levels2_worn v_search_levels2_last v_search_levels2_bend v_search_levels2_tall v_search_levels3_rows v_search_levels3_cols v_search_levels3_high v_search_levels3_wide v_search_levels3_folds v_search_levels3_wrong v_search_levels3_more v_search_levels3_rowOf v_search_levels3_colOf v_search_levels3_below v_search_levels3_face v_search_levels3_worn v_search_levels3_last v_search_levels3_bend v_search_levels3_tall v_search_path v_search_best v_strip_list v_strip_found p_strip_at v_changes_value v_changes_done v_changes_size v_changes_before v_changes_after v_foldings_size v_foldings_ran v_foldings_number v_foldings_kinds v_foldings_trace v_shelves0_holds v_shelves0_body v_shelves0_sort v_shelves0_size v_shelves0_items v_shelves1_holds v_shelves1_body v_shelves1_sort v_shelves1_size v_shelves1_items v_shelves2_holds v_shelves2_body v_shelves2_sort v_shelves2_size v_shelves2_items v_shelves3_holds v_shelves3_body v_shelves3_sort v_shelves3_size v_shelves3_items v_shelves4_holds v_shelves4_body v_shelves4_sort v_shelves4_size v_shelves4_items v_shelves5_holds v_shelves5_body v_shelves5_sort v_shelves5_size v_shelves5_items m_keptMany m_done m_rowsOf m_columnsOf m_folded m_wronged m_tapeMany m_textMany m_base m_at m_ends m_fault m_opened m_bentMany m_bentWrong m_moreWorn m_planned m_allWrong m_allWorn m_z m_wishedField m_isFound m_bestWrong m_bestWorn m_bestMany m_soughtBy m_sought m_soughtAt m_foundMany m_foundOrder m_isKept m_imageRows m_imageColumns m_imageFolded m_imageWronged m_bodies m_ran m_ownKind m_ownNumber m_limit m_changeWas m_changeIs m_shapeRows m_shapeColumns m_row m_column m_below m_face m_worn m_lastBend m_tape m_text m_names m_bends m_high m_to m_pileSize m_planLine m_planWay m_way1 m_bestWay q_order1 q_placeIn m_bodyKind m_trace m_shelf m_many m_items m_carried H locs u_0 u_1 u_2 u_3 u_4 u_5 u_6 u_7 u_8 u_9 u_10 u_11 u_12 u_13 u_14 u_15 y_0 u_17 u_18 t_0 t_1 t_2 t_3 t_4 z_0 t_6 t_7 hr_0 hr_1 hP hD hS)
set_option maxHeartbeats 8000000 in
set_option maxRecDepth 100000 in
theorem ls_21 {p : Program} {l : Launch} {e : Env} {s : State} {m : MethodId} {below : List Frame} {meth : Method} {c : Code} {D : va_G} {cI cL cS cH : ClassId} {bb : Nat} {a b : Nat → Nat} {cells slots : Nat} {Q : State → Prop} {L : Nat} {xs : Nat → Int32} {x3 : Int32} {ls : Array Slot} (C0 : mm_Cx p s m #[Value.ref bb] meth c RL code 4 ret D (mm_T cI cL cS cH) (fun q => s.heap.size ≤ q)) (hX : va_X bb L xs s s.heap) (hbl : bb < s.heap.size) (hi_1 : vp_in (x3 + (1 : Int32)) L) (hi_2 : vp_in (x3 + (2 : Int32)) L) (hc1 : cells ≤ room_1.cells) (hc2 : slots ≤ room_1.slots) (hl : lv_has ls 4 [(0, .ref bb), (1, .ref (a 0)), (2, .ref (b 0)), (3, .int x3)]) (K : lw_St p l e s m below meth c D cI cL cS cH bb a b cells slots Q 1391 ls) : lw_St p l e s m below meth c D cI cL cS cH bb a b cells slots Q 807 ls := by
  intro v_hasImage v_now_rows v_now_cols v_now_high v_now_wide v_now_folds v_now_wrong v_now_more v_now_rowOf v_now_colOf v_now_below v_now_face v_now_worn v_now_last v_now_bend v_now_tall v_kept_rows v_kept_cols v_kept_high v_kept_wide v_kept_folds v_kept_wrong v_kept_more v_kept_rowOf v_kept_colOf v_kept_below v_kept_face v_kept_worn v_kept_last v_kept_bend v_kept_tall v_wearing_size v_wearing_stepCount v_wearing_draftCount v_wearing_place v_wearing_fault v_wearing_stacked v_wearing_tape v_wearing_steps v_wearing_draft v_wearing_stack v_planned_size v_planned_trial_rows v_planned_trial_cols v_planned_trial_high v_planned_trial_wide v_planned_trial_folds v_planned_trial_wrong v_planned_trial_more v_planned_trial_rowOf v_planned_trial_colOf v_planned_trial_below v_planned_trial_face v_planned_trial_worn v_planned_trial_last v_planned_trial_bend v_planned_trial_tall v_planned_lines v_planned_ways v_search_found v_search_wrong v_search_more v_search_folds v_search_wanted v_search_levels0_rows v_search_levels0_cols v_search_levels0_high v_search_levels0_wide v_search_levels0_folds v_search_levels0_wrong v_search_levels0_more v_search_levels0_rowOf v_search_levels0_colOf v_search_levels0_below v_search_levels0_face v_search_levels0_worn v_search_levels0_last v_search_levels0_bend v_search_levels0_tall v_search_levels1_rows v_search_levels1_cols v_search_levels1_high v_search_levels1_wide v_search_levels1_folds v_search_levels1_wrong v_search_levels1_more v_search_levels1_rowOf v_search_levels1_colOf v_search_levels1_below v_search_levels1_face v_search_levels1_worn v_search_levels1_last v_search_levels1_bend v_search_levels1_tall v_search_levels2_rows v_search_levels2_cols v_search_levels2_high v_search_levels2_wide v_search_levels2_folds v_search_levels2_wrong v_search_levels2_more v_search_levels2_rowOf v_search_levels2_colOf v_search_levels2_below v_search_levels2_face v_search_levels2_worn v_search_levels2_last v_search_levels2_bend v_search_levels2_tall v_search_levels3_rows v_search_levels3_cols v_search_levels3_high v_search_levels3_wide v_search_levels3_folds v_search_levels3_wrong v_search_levels3_more v_search_levels3_rowOf v_search_levels3_colOf v_search_levels3_below v_search_levels3_face v_search_levels3_worn v_search_levels3_last v_search_levels3_bend v_search_levels3_tall v_search_path v_search_best v_strip_list v_strip_found v_strip_at v_changes_value v_changes_done v_changes_size v_changes_before v_changes_after v_foldings_size v_foldings_ran v_foldings_number v_foldings_kinds v_foldings_trace v_shelves0_holds v_shelves0_body v_shelves0_sort v_shelves0_size v_shelves0_items v_shelves1_holds v_shelves1_body v_shelves1_sort v_shelves1_size v_shelves1_items v_shelves2_holds v_shelves2_body v_shelves2_sort v_shelves2_size v_shelves2_items v_shelves3_holds v_shelves3_body v_shelves3_sort v_shelves3_size v_shelves3_items v_shelves4_holds v_shelves4_body v_shelves4_sort v_shelves4_size v_shelves4_items v_shelves5_holds v_shelves5_body v_shelves5_sort v_shelves5_size v_shelves5_items m_keptMany m_done m_rowsOf m_columnsOf m_folded m_wronged m_tapeMany m_textMany m_base m_at m_ends m_fault m_opened m_bentMany m_bentWrong m_moreWorn m_planned m_allWrong m_allWorn m_z m_wishedField m_isFound m_bestWrong m_bestWorn m_bestMany m_soughtBy m_sought m_soughtAt m_foundMany m_foundOrder m_isKept m_imageRows m_imageColumns m_imageFolded m_imageWronged m_bodies m_ran m_ownKind m_ownNumber m_limit m_changeWas m_changeIs m_shapeRows m_shapeColumns m_row m_column m_below m_face m_worn m_lastBend m_tape m_text m_names m_bends m_high m_to m_pileSize m_planLine m_planWay m_way1 m_bestWay m_order1 m_placeIn m_bodyKind m_trace m_shelf m_many m_items m_carried H locs u_0 u_1 u_2 u_3 u_4 u_5 u_6 u_7 u_8 u_9 u_10 u_11 u_12 u_13 u_14 u_15 u_16 u_17 u_18 t_0 t_1 t_2 t_3 t_4 t_5 t_6 t_7 hr_0 hr_1 hP hD hS
  obtain ⟨⟨r8, p_strip_list, p_strip_found, p_strip_at⟩, h8, q8⟩ := st8_orders (x1 := (xs (x3 + (1 : Int32)).toNatClampNeg)) (x2 := (xs (x3 + (2 : Int32)).toNatClampNeg)) u_16
  have y_0 : gi_st p_strip_at p_strip_list p_strip_found := q8
  obtain ⟨⟨r9, q_soughtBy, q_sought, q_soughtAt, q_foundMany, q_foundOrder, q_order1, q_placeIn⟩, h9, q9⟩ := st9_orders (x1 := (xs (x3 + (1 : Int32)).toNatClampNeg)) (x2 := (xs (x3 + (2 : Int32)).toNatClampNeg)) (v_soughtBy := m_soughtBy) (v_sought := m_sought) (v_soughtAt := m_soughtAt) (v_foundMany := m_foundMany) (v_foundOrder := m_foundOrder) t_5
  have z_0 : gm_or q_order1 q_placeIn := q9
  exact lc_21 C0 hX hbl hi_1 rfl hi_2 rfl h8 h9 hc1 hc2 hP hD hS hl (fun H locs hP hD hS => K v_hasImage v_now_rows v_now_cols v_now_high v_now_wide v_now_folds v_now_wrong v_now_more v_now_rowOf v_now_colOf v_now_below v_now_face v_now_worn v_now_last v_now_bend v_now_tall v_kept_rows v_kept_cols v_kept_high v_kept_wide v_kept_folds v_kept_wrong v_kept_more v_kept_rowOf v_kept_colOf v_kept_below v_kept_face v_kept_worn v_kept_last v_kept_bend v_kept_tall v_wearing_size v_wearing_stepCount v_wearing_draftCount v_wearing_place v_wearing_fault v_wearing_stacked v_wearing_tape v_wearing_steps v_wearing_draft v_wearing_stack v_planned_size v_planned_trial_rows v_planned_trial_cols v_planned_trial_high v_planned_trial_wide v_planned_trial_folds v_planned_trial_wrong v_planned_trial_more v_planned_trial_rowOf v_planned_trial_colOf v_planned_trial_below v_planned_trial_face v_planned_trial_worn v_planned_trial_last v_planned_trial_bend v_planned_trial_tall v_planned_lines v_planned_ways v_search_found v_search_wrong v_search_more v_search_folds v_search_wanted v_search_levels0_rows v_search_levels0_cols v_search_levels0_high v_search_levels0_wide v_search_levels0_folds v_search_levels0_wrong v_search_levels0_more v_search_levels0_rowOf v_search_levels0_colOf v_search_levels0_below v_search_levels0_face v_search_levels0_worn v_search_levels0_last v_search_levels0_bend v_search_levels0_tall v_search_levels1_rows v_search_levels1_cols v_search_levels1_high v_search_levels1_wide v_search_levels1_folds v_search_levels1_wrong v_search_levels1_more v_search_levels1_rowOf v_search_levels1_colOf v_search_levels1_below v_search_levels1_face v_search_levels1_worn v_search_levels1_last v_search_levels1_bend v_search_levels1_tall v_search_levels2_rows v_search_levels2_cols v_search_levels2_high v_search_levels2_wide v_search_levels2_folds v_search_levels2_wrong v_search_levels2_more v_search_levels2_rowOf v_search_levels2_colOf v_search_levels2_below v_search_levels2_face v_search_levels2_worn v_search_levels2_last v_search_levels2_bend v_search_levels2_tall v_search_levels3_rows v_search_levels3_cols v_search_levels3_high v_search_levels3_wide v_search_levels3_folds v_search_levels3_wrong v_search_levels3_more v_search_levels3_rowOf v_search_levels3_colOf v_search_levels3_below v_search_levels3_face v_search_levels3_worn v_search_levels3_last v_search_levels3_bend v_search_levels3_tall v_search_path v_search_best p_strip_list p_strip_found p_strip_at v_changes_value v_changes_done v_changes_size v_changes_before v_changes_after v_foldings_size v_foldings_ran v_foldings_number v_foldings_kinds v_foldings_trace v_shelves0_holds v_shelves0_body v_shelves0_sort v_shelves0_size v_shelves0_items v_shelves1_holds v_shelves1_body v_shelves1_sort v_shelves1_size v_shelves1_items v_shelves2_holds v_shelves2_body v_shelves2_sort v_shelves2_size v_shelves2_items v_shelves3_holds v_shelves3_body v_shelves3_sort v_shelves3_size v_shelves3_items v_shelves4_holds v_shelves4_body v_shelves4_sort v_shelves4_size v_shelves4_items v_shelves5_holds v_shelves5_body v_shelves5_sort v_shelves5_size v_shelves5_items m_keptMany m_done m_rowsOf m_columnsOf m_folded m_wronged m_tapeMany m_textMany m_base m_at m_ends m_fault m_opened m_bentMany m_bentWrong m_moreWorn m_planned m_allWrong m_allWorn m_z m_wishedField m_isFound m_bestWrong m_bestWorn m_bestMany q_soughtBy q_sought q_soughtAt q_foundMany q_foundOrder m_isKept m_imageRows m_imageColumns m_imageFolded m_imageWronged m_bodies m_ran m_ownKind m_ownNumber m_limit m_changeWas m_changeIs m_shapeRows m_shapeColumns m_row m_column m_below m_face m_worn m_lastBend m_tape m_text m_names m_bends m_high m_to m_pileSize m_planLine m_planWay m_way1 m_bestWay q_order1 q_placeIn m_bodyKind m_trace m_shelf m_many m_items m_carried H locs u_0 u_1 u_2 u_3 u_4 u_5 u_6 u_7 u_8 u_9 u_10 u_11 u_12 u_13 u_14 u_15 y_0 u_17 u_18 t_0 t_1 t_2 t_3 t_4 z_0 t_6 t_7 hr_0 hr_1 hP hD hS)
set_option maxHeartbeats 8000000 in
set_option maxRecDepth 100000 in
theorem ls_22 {p : Program} {l : Launch} {e : Env} {s : State} {m : MethodId} {below : List Frame} {meth : Method} {c : Code} {D : va_G} {cI cL cS cH : ClassId} {bb : Nat} {a b : Nat → Nat} {cells slots : Nat} {Q : State → Prop} {L : Nat} {xs : Nat → Int32} {x3 : Int32} {ls : Array Slot} (C0 : mm_Cx p s m #[Value.ref bb] meth c RL code 4 ret D (mm_T cI cL cS cH) (fun q => s.heap.size ≤ q)) (hX : va_X bb L xs s s.heap) (hbl : bb < s.heap.size) (hi_1 : vp_in (x3 + (1 : Int32)) L) (hi_2 : vp_in (x3 + (2 : Int32)) L) (hc1 : cells ≤ room_1.cells) (hc2 : slots ≤ room_1.slots) (hl : lv_has ls 4 [(0, .ref bb), (1, .ref (a 0)), (2, .ref (b 0)), (3, .int x3)]) (K : lw_St p l e s m below meth c D cI cL cS cH bb a b cells slots Q 1391 ls) : lw_St p l e s m below meth c D cI cL cS cH bb a b cells slots Q 840 ls := by
  intro v_hasImage v_now_rows v_now_cols v_now_high v_now_wide v_now_folds v_now_wrong v_now_more v_now_rowOf v_now_colOf v_now_below v_now_face v_now_worn v_now_last v_now_bend v_now_tall v_kept_rows v_kept_cols v_kept_high v_kept_wide v_kept_folds v_kept_wrong v_kept_more v_kept_rowOf v_kept_colOf v_kept_below v_kept_face v_kept_worn v_kept_last v_kept_bend v_kept_tall v_wearing_size v_wearing_stepCount v_wearing_draftCount v_wearing_place v_wearing_fault v_wearing_stacked v_wearing_tape v_wearing_steps v_wearing_draft v_wearing_stack v_planned_size v_planned_trial_rows v_planned_trial_cols v_planned_trial_high v_planned_trial_wide v_planned_trial_folds v_planned_trial_wrong v_planned_trial_more v_planned_trial_rowOf v_planned_trial_colOf v_planned_trial_below v_planned_trial_face v_planned_trial_worn v_planned_trial_last v_planned_trial_bend v_planned_trial_tall v_planned_lines v_planned_ways v_search_found v_search_wrong v_search_more v_search_folds v_search_wanted v_search_levels0_rows v_search_levels0_cols v_search_levels0_high v_search_levels0_wide v_search_levels0_folds v_search_levels0_wrong v_search_levels0_more v_search_levels0_rowOf v_search_levels0_colOf v_search_levels0_below v_search_levels0_face v_search_levels0_worn v_search_levels0_last v_search_levels0_bend v_search_levels0_tall v_search_levels1_rows v_search_levels1_cols v_search_levels1_high v_search_levels1_wide v_search_levels1_folds v_search_levels1_wrong v_search_levels1_more v_search_levels1_rowOf v_search_levels1_colOf v_search_levels1_below v_search_levels1_face v_search_levels1_worn v_search_levels1_last v_search_levels1_bend v_search_levels1_tall v_search_levels2_rows v_search_levels2_cols v_search_levels2_high v_search_levels2_wide v_search_levels2_folds v_search_levels2_wrong v_search_levels2_more v_search_levels2_rowOf v_search_levels2_colOf v_search_levels2_below v_search_levels2_face v_search_levels2_worn v_search_levels2_last v_search_levels2_bend v_search_levels2_tall v_search_levels3_rows v_search_levels3_cols v_search_levels3_high v_search_levels3_wide v_search_levels3_folds v_search_levels3_wrong v_search_levels3_more v_search_levels3_rowOf v_search_levels3_colOf v_search_levels3_below v_search_levels3_face v_search_levels3_worn v_search_levels3_last v_search_levels3_bend v_search_levels3_tall v_search_path v_search_best v_strip_list v_strip_found v_strip_at v_changes_value v_changes_done v_changes_size v_changes_before v_changes_after v_foldings_size v_foldings_ran v_foldings_number v_foldings_kinds v_foldings_trace v_shelves0_holds v_shelves0_body v_shelves0_sort v_shelves0_size v_shelves0_items v_shelves1_holds v_shelves1_body v_shelves1_sort v_shelves1_size v_shelves1_items v_shelves2_holds v_shelves2_body v_shelves2_sort v_shelves2_size v_shelves2_items v_shelves3_holds v_shelves3_body v_shelves3_sort v_shelves3_size v_shelves3_items v_shelves4_holds v_shelves4_body v_shelves4_sort v_shelves4_size v_shelves4_items v_shelves5_holds v_shelves5_body v_shelves5_sort v_shelves5_size v_shelves5_items m_keptMany m_done m_rowsOf m_columnsOf m_folded m_wronged m_tapeMany m_textMany m_base m_at m_ends m_fault m_opened m_bentMany m_bentWrong m_moreWorn m_planned m_allWrong m_allWorn m_z m_wishedField m_isFound m_bestWrong m_bestWorn m_bestMany m_soughtBy m_sought m_soughtAt m_foundMany m_foundOrder m_isKept m_imageRows m_imageColumns m_imageFolded m_imageWronged m_bodies m_ran m_ownKind m_ownNumber m_limit m_changeWas m_changeIs m_shapeRows m_shapeColumns m_row m_column m_below m_face m_worn m_lastBend m_tape m_text m_names m_bends m_high m_to m_pileSize m_planLine m_planWay m_way1 m_bestWay m_order1 m_placeIn m_bodyKind m_trace m_shelf m_many m_items m_carried H locs u_0 u_1 u_2 u_3 u_4 u_5 u_6 u_7 u_8 u_9 u_10 u_11 u_12 u_13 u_14 u_15 u_16 u_17 u_18 t_0 t_1 t_2 t_3 t_4 t_5 t_6 t_7 hr_0 hr_1 hP hD hS
  obtain ⟨⟨r8, p_strip_at⟩, h8, q8⟩ := st8_bends (x1 := (xs (x3 + (1 : Int32)).toNatClampNeg)) (x2 := (xs (x3 + (2 : Int32)).toNatClampNeg)) u_16
  have y_0 : gi_st p_strip_at v_strip_list v_strip_found := q8
  obtain ⟨⟨r9, q_order1, q_placeIn⟩, h9, q9⟩ := st9_bends (x1 := (xs (x3 + (1 : Int32)).toNatClampNeg)) (x2 := (xs (x3 + (2 : Int32)).toNatClampNeg)) t_5
  have z_0 : gm_or q_order1 q_placeIn := q9
  exact lc_22 C0 hX hbl hi_1 rfl hi_2 rfl h8 h9 hc1 hc2 hP hD hS hl (fun H locs hP hD hS => K v_hasImage v_now_rows v_now_cols v_now_high v_now_wide v_now_folds v_now_wrong v_now_more v_now_rowOf v_now_colOf v_now_below v_now_face v_now_worn v_now_last v_now_bend v_now_tall v_kept_rows v_kept_cols v_kept_high v_kept_wide v_kept_folds v_kept_wrong v_kept_more v_kept_rowOf v_kept_colOf v_kept_below v_kept_face v_kept_worn v_kept_last v_kept_bend v_kept_tall v_wearing_size v_wearing_stepCount v_wearing_draftCount v_wearing_place v_wearing_fault v_wearing_stacked v_wearing_tape v_wearing_steps v_wearing_draft v_wearing_stack v_planned_size v_planned_trial_rows v_planned_trial_cols v_planned_trial_high v_planned_trial_wide v_planned_trial_folds v_planned_trial_wrong v_planned_trial_more v_planned_trial_rowOf v_planned_trial_colOf v_planned_trial_below v_planned_trial_face v_planned_trial_worn v_planned_trial_last v_planned_trial_bend v_planned_trial_tall v_planned_lines v_planned_ways v_search_found v_search_wrong v_search_more v_search_folds v_search_wanted v_search_levels0_rows v_search_levels0_cols v_search_levels0_high v_search_levels0_wide v_search_levels0_folds v_search_levels0_wrong v_search_levels0_more v_search_levels0_rowOf v_search_levels0_colOf v_search_levels0_below v_search_levels0_face v_search_levels0_worn v_search_levels0_last v_search_levels0_bend v_search_levels0_tall v_search_levels1_rows v_search_levels1_cols v_search_levels1_high v_search_levels1_wide v_search_levels1_folds v_search_levels1_wrong v_search_levels1_more v_search_levels1_rowOf v_search_levels1_colOf v_search_levels1_below v_search_levels1_face v_search_levels1_worn v_search_levels1_last v_search_levels1_bend v_search_levels1_tall v_search_levels2_rows v_search_levels2_cols v_search_levels2_high v_search_levels2_wide v_search_levels2_folds v_search_levels2_wrong v_search_levels2_more v_search_levels2_rowOf v_search_levels2_colOf v_search_levels2_below v_search_levels2_face v_search_levels2_worn v_search_levels2_last v_search_levels2_bend v_search_levels2_tall v_search_levels3_rows v_search_levels3_cols v_search_levels3_high v_search_levels3_wide v_search_levels3_folds v_search_levels3_wrong v_search_levels3_more v_search_levels3_rowOf v_search_levels3_colOf v_search_levels3_below v_search_levels3_face v_search_levels3_worn v_search_levels3_last v_search_levels3_bend v_search_levels3_tall v_search_path v_search_best v_strip_list v_strip_found p_strip_at v_changes_value v_changes_done v_changes_size v_changes_before v_changes_after v_foldings_size v_foldings_ran v_foldings_number v_foldings_kinds v_foldings_trace v_shelves0_holds v_shelves0_body v_shelves0_sort v_shelves0_size v_shelves0_items v_shelves1_holds v_shelves1_body v_shelves1_sort v_shelves1_size v_shelves1_items v_shelves2_holds v_shelves2_body v_shelves2_sort v_shelves2_size v_shelves2_items v_shelves3_holds v_shelves3_body v_shelves3_sort v_shelves3_size v_shelves3_items v_shelves4_holds v_shelves4_body v_shelves4_sort v_shelves4_size v_shelves4_items v_shelves5_holds v_shelves5_body v_shelves5_sort v_shelves5_size v_shelves5_items m_keptMany m_done m_rowsOf m_columnsOf m_folded m_wronged m_tapeMany m_textMany m_base m_at m_ends m_fault m_opened m_bentMany m_bentWrong m_moreWorn m_planned m_allWrong m_allWorn m_z m_wishedField m_isFound m_bestWrong m_bestWorn m_bestMany m_soughtBy m_sought m_soughtAt m_foundMany m_foundOrder m_isKept m_imageRows m_imageColumns m_imageFolded m_imageWronged m_bodies m_ran m_ownKind m_ownNumber m_limit m_changeWas m_changeIs m_shapeRows m_shapeColumns m_row m_column m_below m_face m_worn m_lastBend m_tape m_text m_names m_bends m_high m_to m_pileSize m_planLine m_planWay m_way1 m_bestWay q_order1 q_placeIn m_bodyKind m_trace m_shelf m_many m_items m_carried H locs u_0 u_1 u_2 u_3 u_4 u_5 u_6 u_7 u_8 u_9 u_10 u_11 u_12 u_13 u_14 u_15 y_0 u_17 u_18 t_0 t_1 t_2 t_3 t_4 z_0 t_6 t_7 hr_0 hr_1 hP hD hS)
set_option maxHeartbeats 8000000 in
set_option maxRecDepth 100000 in
theorem ls_23 {p : Program} {l : Launch} {e : Env} {s : State} {m : MethodId} {below : List Frame} {meth : Method} {c : Code} {D : va_G} {cI cL cS cH : ClassId} {bb : Nat} {a b : Nat → Nat} {cells slots : Nat} {Q : State → Prop} {L : Nat} {xs : Nat → Int32} {x3 : Int32} {ls : Array Slot} (C0 : mm_Cx p s m #[Value.ref bb] meth c RL code 4 ret D (mm_T cI cL cS cH) (fun q => s.heap.size ≤ q)) (hX : va_X bb L xs s s.heap) (hbl : bb < s.heap.size) (hi_1 : vp_in (x3 + (1 : Int32)) L) (hi_2 : vp_in (x3 + (2 : Int32)) L) (hi_3 : vp_in (x3 + (3 : Int32)) L) (hc1 : cells ≤ room_1.cells) (hc2 : slots ≤ room_1.slots) (hl : lv_has ls 4 [(0, .ref bb), (1, .ref (a 0)), (2, .ref (b 0)), (3, .int x3)]) (K : lw_St p l e s m below meth c D cI cL cS cH bb a b cells slots Q 1391 ls) : lw_St p l e s m below meth c D cI cL cS cH bb a b cells slots Q 873 ls := by
  intro v_hasImage v_now_rows v_now_cols v_now_high v_now_wide v_now_folds v_now_wrong v_now_more v_now_rowOf v_now_colOf v_now_below v_now_face v_now_worn v_now_last v_now_bend v_now_tall v_kept_rows v_kept_cols v_kept_high v_kept_wide v_kept_folds v_kept_wrong v_kept_more v_kept_rowOf v_kept_colOf v_kept_below v_kept_face v_kept_worn v_kept_last v_kept_bend v_kept_tall v_wearing_size v_wearing_stepCount v_wearing_draftCount v_wearing_place v_wearing_fault v_wearing_stacked v_wearing_tape v_wearing_steps v_wearing_draft v_wearing_stack v_planned_size v_planned_trial_rows v_planned_trial_cols v_planned_trial_high v_planned_trial_wide v_planned_trial_folds v_planned_trial_wrong v_planned_trial_more v_planned_trial_rowOf v_planned_trial_colOf v_planned_trial_below v_planned_trial_face v_planned_trial_worn v_planned_trial_last v_planned_trial_bend v_planned_trial_tall v_planned_lines v_planned_ways v_search_found v_search_wrong v_search_more v_search_folds v_search_wanted v_search_levels0_rows v_search_levels0_cols v_search_levels0_high v_search_levels0_wide v_search_levels0_folds v_search_levels0_wrong v_search_levels0_more v_search_levels0_rowOf v_search_levels0_colOf v_search_levels0_below v_search_levels0_face v_search_levels0_worn v_search_levels0_last v_search_levels0_bend v_search_levels0_tall v_search_levels1_rows v_search_levels1_cols v_search_levels1_high v_search_levels1_wide v_search_levels1_folds v_search_levels1_wrong v_search_levels1_more v_search_levels1_rowOf v_search_levels1_colOf v_search_levels1_below v_search_levels1_face v_search_levels1_worn v_search_levels1_last v_search_levels1_bend v_search_levels1_tall v_search_levels2_rows v_search_levels2_cols v_search_levels2_high v_search_levels2_wide v_search_levels2_folds v_search_levels2_wrong v_search_levels2_more v_search_levels2_rowOf v_search_levels2_colOf v_search_levels2_below v_search_levels2_face v_search_levels2_worn v_search_levels2_last v_search_levels2_bend v_search_levels2_tall v_search_levels3_rows v_search_levels3_cols v_search_levels3_high v_search_levels3_wide v_search_levels3_folds v_search_levels3_wrong v_search_levels3_more v_search_levels3_rowOf v_search_levels3_colOf v_search_levels3_below v_search_levels3_face v_search_levels3_worn v_search_levels3_last v_search_levels3_bend v_search_levels3_tall v_search_path v_search_best v_strip_list v_strip_found v_strip_at v_changes_value v_changes_done v_changes_size v_changes_before v_changes_after v_foldings_size v_foldings_ran v_foldings_number v_foldings_kinds v_foldings_trace v_shelves0_holds v_shelves0_body v_shelves0_sort v_shelves0_size v_shelves0_items v_shelves1_holds v_shelves1_body v_shelves1_sort v_shelves1_size v_shelves1_items v_shelves2_holds v_shelves2_body v_shelves2_sort v_shelves2_size v_shelves2_items v_shelves3_holds v_shelves3_body v_shelves3_sort v_shelves3_size v_shelves3_items v_shelves4_holds v_shelves4_body v_shelves4_sort v_shelves4_size v_shelves4_items v_shelves5_holds v_shelves5_body v_shelves5_sort v_shelves5_size v_shelves5_items m_keptMany m_done m_rowsOf m_columnsOf m_folded m_wronged m_tapeMany m_textMany m_base m_at m_ends m_fault m_opened m_bentMany m_bentWrong m_moreWorn m_planned m_allWrong m_allWorn m_z m_wishedField m_isFound m_bestWrong m_bestWorn m_bestMany m_soughtBy m_sought m_soughtAt m_foundMany m_foundOrder m_isKept m_imageRows m_imageColumns m_imageFolded m_imageWronged m_bodies m_ran m_ownKind m_ownNumber m_limit m_changeWas m_changeIs m_shapeRows m_shapeColumns m_row m_column m_below m_face m_worn m_lastBend m_tape m_text m_names m_bends m_high m_to m_pileSize m_planLine m_planWay m_way1 m_bestWay m_order1 m_placeIn m_bodyKind m_trace m_shelf m_many m_items m_carried H locs u_0 u_1 u_2 u_3 u_4 u_5 u_6 u_7 u_8 u_9 u_10 u_11 u_12 u_13 u_14 u_15 u_16 u_17 u_18 t_0 t_1 t_2 t_3 t_4 t_5 t_6 t_7 hr_0 hr_1 hP hD hS
  obtain ⟨⟨r8, p_strip_list, p_strip_found, p_strip_at⟩, h8, q8⟩ := st8_by (x1 := (xs (x3 + (1 : Int32)).toNatClampNeg)) (x2 := (xs (x3 + (2 : Int32)).toNatClampNeg)) (x3 := (xs (x3 + (3 : Int32)).toNatClampNeg)) u_16
  have y_0 : gi_st p_strip_at p_strip_list p_strip_found := q8
  obtain ⟨⟨r9, q_soughtBy, q_sought, q_soughtAt, q_foundMany, q_foundOrder, q_order1, q_placeIn⟩, h9, q9⟩ := st9_by (x1 := (xs (x3 + (1 : Int32)).toNatClampNeg)) (x2 := (xs (x3 + (2 : Int32)).toNatClampNeg)) (x3 := (xs (x3 + (3 : Int32)).toNatClampNeg)) (v_soughtBy := m_soughtBy) (v_sought := m_sought) (v_soughtAt := m_soughtAt) (v_foundMany := m_foundMany) (v_foundOrder := m_foundOrder) t_5
  have z_0 : gm_or q_order1 q_placeIn := q9
  exact lc_23 C0 hX hbl hi_1 rfl hi_2 rfl hi_3 rfl h8 h9 hc1 hc2 hP hD hS hl (fun H locs hP hD hS => K v_hasImage v_now_rows v_now_cols v_now_high v_now_wide v_now_folds v_now_wrong v_now_more v_now_rowOf v_now_colOf v_now_below v_now_face v_now_worn v_now_last v_now_bend v_now_tall v_kept_rows v_kept_cols v_kept_high v_kept_wide v_kept_folds v_kept_wrong v_kept_more v_kept_rowOf v_kept_colOf v_kept_below v_kept_face v_kept_worn v_kept_last v_kept_bend v_kept_tall v_wearing_size v_wearing_stepCount v_wearing_draftCount v_wearing_place v_wearing_fault v_wearing_stacked v_wearing_tape v_wearing_steps v_wearing_draft v_wearing_stack v_planned_size v_planned_trial_rows v_planned_trial_cols v_planned_trial_high v_planned_trial_wide v_planned_trial_folds v_planned_trial_wrong v_planned_trial_more v_planned_trial_rowOf v_planned_trial_colOf v_planned_trial_below v_planned_trial_face v_planned_trial_worn v_planned_trial_last v_planned_trial_bend v_planned_trial_tall v_planned_lines v_planned_ways v_search_found v_search_wrong v_search_more v_search_folds v_search_wanted v_search_levels0_rows v_search_levels0_cols v_search_levels0_high v_search_levels0_wide v_search_levels0_folds v_search_levels0_wrong v_search_levels0_more v_search_levels0_rowOf v_search_levels0_colOf v_search_levels0_below v_search_levels0_face v_search_levels0_worn v_search_levels0_last v_search_levels0_bend v_search_levels0_tall v_search_levels1_rows v_search_levels1_cols v_search_levels1_high v_search_levels1_wide v_search_levels1_folds v_search_levels1_wrong v_search_levels1_more v_search_levels1_rowOf v_search_levels1_colOf v_search_levels1_below v_search_levels1_face v_search_levels1_worn v_search_levels1_last v_search_levels1_bend v_search_levels1_tall v_search_levels2_rows v_search_levels2_cols v_search_levels2_high v_search_levels2_wide v_search_levels2_folds v_search_levels2_wrong v_search_levels2_more v_search_levels2_rowOf v_search_levels2_colOf v_search_levels2_below v_search_levels2_face v_search_levels2_worn v_search_levels2_last v_search_levels2_bend v_search_levels2_tall v_search_levels3_rows v_search_levels3_cols v_search_levels3_high v_search_levels3_wide v_search_levels3_folds v_search_levels3_wrong v_search_levels3_more v_search_levels3_rowOf v_search_levels3_colOf v_search_levels3_below v_search_levels3_face v_search_levels3_worn v_search_levels3_last v_search_levels3_bend v_search_levels3_tall v_search_path v_search_best p_strip_list p_strip_found p_strip_at v_changes_value v_changes_done v_changes_size v_changes_before v_changes_after v_foldings_size v_foldings_ran v_foldings_number v_foldings_kinds v_foldings_trace v_shelves0_holds v_shelves0_body v_shelves0_sort v_shelves0_size v_shelves0_items v_shelves1_holds v_shelves1_body v_shelves1_sort v_shelves1_size v_shelves1_items v_shelves2_holds v_shelves2_body v_shelves2_sort v_shelves2_size v_shelves2_items v_shelves3_holds v_shelves3_body v_shelves3_sort v_shelves3_size v_shelves3_items v_shelves4_holds v_shelves4_body v_shelves4_sort v_shelves4_size v_shelves4_items v_shelves5_holds v_shelves5_body v_shelves5_sort v_shelves5_size v_shelves5_items m_keptMany m_done m_rowsOf m_columnsOf m_folded m_wronged m_tapeMany m_textMany m_base m_at m_ends m_fault m_opened m_bentMany m_bentWrong m_moreWorn m_planned m_allWrong m_allWorn m_z m_wishedField m_isFound m_bestWrong m_bestWorn m_bestMany q_soughtBy q_sought q_soughtAt q_foundMany q_foundOrder m_isKept m_imageRows m_imageColumns m_imageFolded m_imageWronged m_bodies m_ran m_ownKind m_ownNumber m_limit m_changeWas m_changeIs m_shapeRows m_shapeColumns m_row m_column m_below m_face m_worn m_lastBend m_tape m_text m_names m_bends m_high m_to m_pileSize m_planLine m_planWay m_way1 m_bestWay q_order1 q_placeIn m_bodyKind m_trace m_shelf m_many m_items m_carried H locs u_0 u_1 u_2 u_3 u_4 u_5 u_6 u_7 u_8 u_9 u_10 u_11 u_12 u_13 u_14 u_15 y_0 u_17 u_18 t_0 t_1 t_2 t_3 t_4 z_0 t_6 t_7 hr_0 hr_1 hP hD hS)
end
