section
/-! The geometry kept: sheet, fold, flat, image, back -/
set_option maxHeartbeats 4000000 in
set_option maxRecDepth 20000 in
theorem rs_sheet_ge {x1 : Int32} {v_now_rows : Int32} {v_now_cols : Int32} {v_now_high : Int32} {v_now_wide : Int32} {v_now_folds : Int32} {v_now_wrong : Int32} {v_now_more : Int32} {v_now_rowOf : List Int32} {v_now_colOf : List Int32} {v_now_below : List Int32} {v_now_face : List Int32} {v_now_worn : List Int32} {v_now_last : List Int32} {v_now_bend : List Int32} {v_now_tall : List Int32} {v_hasImage : Bool} {v_kept_rows : Int32} {v_kept_cols : Int32} {v_kept_high : Int32} {v_kept_wide : Int32} {v_kept_folds : Int32} {v_kept_rowOf : List Int32} {v_kept_colOf : List Int32} {v_kept_below : List Int32} {v_kept_face : List Int32} {m_rowsOf : Int32} {m_columnsOf : Int32} {m_folded : Int32} {m_wronged : Int32} {m_shapeRows : List Int32} {m_shapeColumns : List Int32} {m_row : List Int32} {m_column : List Int32} {m_below : List Int32} {m_face : List Int32} {m_worn : List Int32} {m_lastBend : List Int32} {m_isKept : Bool} {m_imageRows : Int32} {m_imageColumns : Int32} {m_imageFolded : Int32} (g8_0 : gi_sh v_now_rows v_now_cols v_now_high v_now_wide v_now_rowOf v_now_colOf v_now_below v_now_face v_now_worn v_now_last v_now_bend v_now_tall) (g9_0 : gm_sh m_rowsOf m_columnsOf m_isKept m_imageRows m_imageColumns m_shapeRows m_shapeColumns m_row m_column m_below m_face m_worn m_lastBend) (hr_0 : rl_ge v_now_rows v_now_cols v_now_high v_now_wide v_now_folds v_now_rowOf v_now_colOf v_now_below v_now_face v_hasImage v_kept_rows v_kept_cols v_kept_high v_kept_wide v_kept_folds v_kept_rowOf v_kept_colOf v_kept_below v_kept_face m_rowsOf m_columnsOf m_folded m_isKept m_imageRows m_imageColumns m_imageFolded m_shapeRows m_shapeColumns m_row m_column m_below m_face) : ∃ (r8 : Int32) (p_now_rows : Int32) (p_now_cols : Int32) (p_now_high : Int32) (p_now_wide : Int32) (p_now_folds : Int32) (p_now_wrong : Int32) (p_now_more : Int32) (p_now_rowOf : List Int32) (p_now_colOf : List Int32) (p_now_below : List Int32) (p_now_face : List Int32) (p_now_worn : List Int32) (p_now_last : List Int32) (r9 : Int32) (q_rowsOf : Int32) (q_columnsOf : Int32) (q_folded : Int32) (q_wronged : Int32) (q_shapeRows : List Int32) (q_shapeColumns : List Int32) (q_row : List Int32) (q_column : List Int32) (q_below : List Int32) (q_face : List Int32) (q_worn : List Int32) (q_lastBend : List Int32), fX8_sheet 700 x1 v_now_rows v_now_cols v_now_high v_now_wide v_now_folds v_now_wrong v_now_more v_now_rowOf v_now_colOf v_now_below v_now_face v_now_worn v_now_last = some (r8, p_now_rows, p_now_cols, p_now_high, p_now_wide, p_now_folds, p_now_wrong, p_now_more, p_now_rowOf, p_now_colOf, p_now_below, p_now_face, p_now_worn, p_now_last) ∧ fX9_sheet 700 x1 m_rowsOf m_columnsOf m_folded m_wronged m_shapeRows m_shapeColumns m_row m_column m_below m_face m_worn m_lastBend = some (r9, q_rowsOf, q_columnsOf, q_folded, q_wronged, q_shapeRows, q_shapeColumns, q_row, q_column, q_below, q_face, q_worn, q_lastBend) ∧ gi_sh p_now_rows p_now_cols p_now_high p_now_wide p_now_rowOf p_now_colOf p_now_below p_now_face p_now_worn p_now_last v_now_bend v_now_tall ∧ gm_sh q_rowsOf q_columnsOf m_isKept m_imageRows m_imageColumns q_shapeRows q_shapeColumns q_row q_column q_below q_face q_worn q_lastBend ∧ rl_ge p_now_rows p_now_cols p_now_high p_now_wide p_now_folds p_now_rowOf p_now_colOf p_now_below p_now_face v_hasImage v_kept_rows v_kept_cols v_kept_high v_kept_wide v_kept_folds v_kept_rowOf v_kept_colOf v_kept_below v_kept_face q_rowsOf q_columnsOf q_folded m_isKept m_imageRows m_imageColumns m_imageFolded q_shapeRows q_shapeColumns q_row q_column q_below q_face := by
  obtain ⟨⟨r8, p_now_rows, p_now_cols, p_now_high, p_now_wide, p_now_folds, p_now_wrong, p_now_more, p_now_rowOf, p_now_colOf, p_now_below, p_now_face, p_now_worn, p_now_last⟩, e8, -⟩ := st8_sheet (x1 := x1) (v_now_folds := v_now_folds) (v_now_wrong := v_now_wrong) (v_now_more := v_now_more) g8_0
  obtain ⟨⟨r9, q_rowsOf, q_columnsOf, q_folded, q_wronged, q_shapeRows, q_shapeColumns, q_row, q_column, q_below, q_face, q_worn, q_lastBend⟩, e9, -⟩ := st9_sheet (x1 := x1) (v_folded := m_folded) (v_wronged := m_wronged) g9_0
  have k8 := wp_get (st8_sheet g8_0) e8
  have k9 := wp_get (st9_sheet g9_0) e9
  obtain ⟨a0, a1, a2, a3, a4, a5, a6, a7, a8, a9, a10, a11, a12, a13, a14, a15, a16, a17⟩ := id g8_0
  obtain ⟨z0, z1, z2, z3, z4, z5, z6, z7, z8, z9, z10, z11, z12, z13⟩ := id g9_0
  have n0 : (0 : Int32).toInt = 0 := by decide
  have n5 : (5 : Int32).toInt = 5 := by decide
  have y0 : (0 : Int32).toInt.toNat = 0 := by decide
  have y5 : (5 : Int32).toInt.toNat = 5 := by decide
  obtain ⟨b1, b2, b3, b4, b5, b6⟩ := hr_0
  have R : rl_ge p_now_rows p_now_cols p_now_high p_now_wide p_now_folds p_now_rowOf p_now_colOf p_now_below p_now_face v_hasImage v_kept_rows v_kept_cols v_kept_high v_kept_wide v_kept_folds v_kept_rowOf v_kept_colOf v_kept_below v_kept_face q_rowsOf q_columnsOf q_folded m_isKept m_imageRows m_imageColumns m_imageFolded q_shapeRows q_shapeColumns q_row q_column q_below q_face := by
    rcases st_8 a8 a9 a10 a11 a12 a13 e8 with ⟨o8, h8⟩ | ⟨o8, h8⟩
    · rcases st_9 z6 z7 z8 z9 z10 z11 e9 with ⟨o9, h9⟩ | ⟨o9, h9⟩
      · obtain ⟨c1, c2, c3, c4, c5, c6, c7, c8, c9, c10, c11, c12, c13, c14⟩ := h8
        obtain ⟨d1, d2, d3, d4, d5, d6, d7, d8, d9, d10, d11, d12, d13⟩ := h9
        subst c2 c3 c4 c5 c6 c9 c10 c11 c12 d2 d3 d4 d6 d7 d8 d9 d10 d11
        exact ⟨b1, b2, b3, b4, b5, b6⟩
      · exact absurd o9 o8
    · rcases st_9 z6 z7 z8 z9 z10 z11 e9 with ⟨o9, h9⟩ | ⟨o9, h9⟩
      · exact absurd o8 o9
      · obtain ⟨c1, c2, c3, c4, c5, c6, c7, c8, c9, c10⟩ := h8
        obtain ⟨d1, d2, d3, d4, d5, d6, d7, d8, d9, d10, d11⟩ := h9
        rw [c2, c3, c4, c5, c6, d2, d3, d4, d6, d7]
        refine ⟨rfl, rfl, rfl, b4, ⟨?_, ?_, fl_x c9 d9⟩, fun hk => ?_⟩
        · rw [ge_is _ _ _ _ (by omega), y0, if_pos rfl]
        · rw [ge_is _ _ _ _ (by omega), y0, if_pos rfl]
        · obtain ⟨f1, f2, f3, f4⟩ := b6 hk
          subst f1 f2
          have hk2 : ¬ (m_isKept = false) := by rw [b4, hk]; decide
          obtain ⟨u0, u1, u2, u3, -⟩ := z13 hk2
          refine ⟨rfl, rfl, f3, lg_t f4 (i_fl u0 u1 u2 u3).2.2 ?_ ?_ (fun j j0 j1 => d8 j (by omega) (by omega))⟩
          · rw [ge_is _ _ _ _ (by omega), y0, if_neg (by decide)]
          · rw [ge_is _ _ _ _ (by omega), y0, if_neg (by decide)]
  exact ⟨_, _, _, _, _, _, _, _, _, _, _, _, _, _, _, _, _, _, _, _, _, _, _, _, _, _, _, e8, e9, k8, k9, R⟩
set_option maxHeartbeats 4000000 in
set_option maxRecDepth 20000 in
theorem rs_fold_ge {x1 : Int32} {x2 : Int32} {v_now_rows : Int32} {v_now_cols : Int32} {v_now_high : Int32} {v_now_wide : Int32} {v_now_folds : Int32} {v_now_wrong : Int32} {v_now_more : Int32} {v_now_rowOf : List Int32} {v_now_colOf : List Int32} {v_now_below : List Int32} {v_now_face : List Int32} {v_now_worn : List Int32} {v_now_last : List Int32} {v_now_bend : List Int32} {v_now_tall : List Int32} {v_wearing_stepCount : Int32} {v_wearing_stacked : Int32} {v_wearing_steps : List Int32} {v_wearing_stack : List Int32} {v_changes_value : Int32} {v_wearing_size : Int32} {v_wearing_draftCount : Int32} {v_wearing_tape : List Int32} {v_wearing_draft : List Int32} {v_hasImage : Bool} {v_kept_rows : Int32} {v_kept_cols : Int32} {v_kept_high : Int32} {v_kept_wide : Int32} {v_kept_folds : Int32} {v_kept_rowOf : List Int32} {v_kept_colOf : List Int32} {v_kept_below : List Int32} {v_kept_face : List Int32} {m_rowsOf : Int32} {m_columnsOf : Int32} {m_folded : Int32} {m_wronged : Int32} {m_textMany : Int32} {m_base : Int32} {m_at : Int32} {m_ends : Int32} {m_fault : Int32} {m_opened : Int32} {m_bentMany : Int32} {m_bentWrong : Int32} {m_moreWorn : Int32} {m_limit : List Int32} {m_shapeRows : List Int32} {m_shapeColumns : List Int32} {m_row : List Int32} {m_column : List Int32} {m_below : List Int32} {m_face : List Int32} {m_worn : List Int32} {m_lastBend : List Int32} {m_tape : List Int32} {m_text : List Int32} {m_names : List Int32} {m_bends : List Int32} {m_high : List Int32} {m_to : List Int32} {m_pileSize : List Int32} {m_keptMany : Int32} {m_done : Int32} {m_changeWas : List Int32} {m_changeIs : List Int32} {m_isKept : Bool} {m_imageRows : Int32} {m_imageColumns : Int32} {m_tapeMany : Int32} {m_imageFolded : Int32} (g8_0 : gi_sh v_now_rows v_now_cols v_now_high v_now_wide v_now_rowOf v_now_colOf v_now_below v_now_face v_now_worn v_now_last v_now_bend v_now_tall) (g8_1 : gi_la v_wearing_size v_wearing_stepCount v_wearing_draftCount v_wearing_tape v_wearing_steps v_wearing_draft v_wearing_stack) (g9_0 : gm_ch m_keptMany m_done m_limit m_changeWas m_changeIs) (g9_1 : gm_sh m_rowsOf m_columnsOf m_isKept m_imageRows m_imageColumns m_shapeRows m_shapeColumns m_row m_column m_below m_face m_worn m_lastBend) (g9_2 : gm_tx m_tapeMany m_textMany m_tape m_text m_names m_bends m_high m_to m_pileSize) (hr_0 : rl_ge v_now_rows v_now_cols v_now_high v_now_wide v_now_folds v_now_rowOf v_now_colOf v_now_below v_now_face v_hasImage v_kept_rows v_kept_cols v_kept_high v_kept_wide v_kept_folds v_kept_rowOf v_kept_colOf v_kept_below v_kept_face m_rowsOf m_columnsOf m_folded m_isKept m_imageRows m_imageColumns m_imageFolded m_shapeRows m_shapeColumns m_row m_column m_below m_face) : ∃ (r8 : Int32) (p_now_high : Int32) (p_now_wide : Int32) (p_now_folds : Int32) (p_now_wrong : Int32) (p_now_more : Int32) (p_now_rowOf : List Int32) (p_now_colOf : List Int32) (p_now_below : List Int32) (p_now_face : List Int32) (p_now_worn : List Int32) (p_now_last : List Int32) (p_now_bend : List Int32) (p_now_tall : List Int32) (p_wearing_stacked : Int32) (p_wearing_stack : List Int32) (r9 : Int32) (q_folded : Int32) (q_wronged : Int32) (q_base : Int32) (q_at : Int32) (q_ends : Int32) (q_fault : Int32) (q_opened : Int32) (q_bentMany : Int32) (q_bentWrong : Int32) (q_moreWorn : Int32) (q_shapeRows : List Int32) (q_shapeColumns : List Int32) (q_row : List Int32) (q_column : List Int32) (q_below : List Int32) (q_face : List Int32) (q_worn : List Int32) (q_lastBend : List Int32) (q_names : List Int32) (q_bends : List Int32) (q_high : List Int32) (q_to : List Int32) (q_pileSize : List Int32), fX8_fold 700 x1 x2 v_now_rows v_now_cols v_now_high v_now_wide v_now_folds v_now_wrong v_now_more v_now_rowOf v_now_colOf v_now_below v_now_face v_now_worn v_now_last v_now_bend v_now_tall v_wearing_stepCount v_wearing_stacked v_wearing_steps v_wearing_stack v_changes_value = some (r8, p_now_high, p_now_wide, p_now_folds, p_now_wrong, p_now_more, p_now_rowOf, p_now_colOf, p_now_below, p_now_face, p_now_worn, p_now_last, p_now_bend, p_now_tall, p_wearing_stacked, p_wearing_stack) ∧ fX9_fold 700 x1 x2 m_rowsOf m_columnsOf m_folded m_wronged m_textMany m_base m_at m_ends m_fault m_opened m_bentMany m_bentWrong m_moreWorn m_limit m_shapeRows m_shapeColumns m_row m_column m_below m_face m_worn m_lastBend m_tape m_text m_names m_bends m_high m_to m_pileSize = some (r9, q_folded, q_wronged, q_base, q_at, q_ends, q_fault, q_opened, q_bentMany, q_bentWrong, q_moreWorn, q_shapeRows, q_shapeColumns, q_row, q_column, q_below, q_face, q_worn, q_lastBend, q_names, q_bends, q_high, q_to, q_pileSize) ∧ gi_sh v_now_rows v_now_cols p_now_high p_now_wide p_now_rowOf p_now_colOf p_now_below p_now_face p_now_worn p_now_last p_now_bend p_now_tall ∧ gi_la v_wearing_size v_wearing_stepCount v_wearing_draftCount v_wearing_tape v_wearing_steps v_wearing_draft p_wearing_stack ∧ gm_sh m_rowsOf m_columnsOf m_isKept m_imageRows m_imageColumns q_shapeRows q_shapeColumns q_row q_column q_below q_face q_worn q_lastBend ∧ gm_tx m_tapeMany m_textMany m_tape m_text q_names q_bends q_high q_to q_pileSize ∧ rl_ge v_now_rows v_now_cols p_now_high p_now_wide p_now_folds p_now_rowOf p_now_colOf p_now_below p_now_face v_hasImage v_kept_rows v_kept_cols v_kept_high v_kept_wide v_kept_folds v_kept_rowOf v_kept_colOf v_kept_below v_kept_face m_rowsOf m_columnsOf q_folded m_isKept m_imageRows m_imageColumns m_imageFolded q_shapeRows q_shapeColumns q_row q_column q_below q_face := by
  obtain ⟨⟨r8, p_now_high, p_now_wide, p_now_folds, p_now_wrong, p_now_more, p_now_rowOf, p_now_colOf, p_now_below, p_now_face, p_now_worn, p_now_last, p_now_bend, p_now_tall, p_wearing_stacked, p_wearing_stack⟩, e8, -⟩ := st8_fold (x1 := x1) (x2 := x2) (v_now_folds := v_now_folds) (v_now_wrong := v_now_wrong) (v_now_more := v_now_more) (v_wearing_stacked := v_wearing_stacked) (v_changes_value := v_changes_value) g8_0 g8_1
  obtain ⟨⟨r9, q_folded, q_wronged, q_base, q_at, q_ends, q_fault, q_opened, q_bentMany, q_bentWrong, q_moreWorn, q_shapeRows, q_shapeColumns, q_row, q_column, q_below, q_face, q_worn, q_lastBend, q_names, q_bends, q_high, q_to, q_pileSize⟩, e9, -⟩ := st9_fold (x1 := x1) (x2 := x2) (v_folded := m_folded) (v_wronged := m_wronged) (v_base := m_base) (v_at := m_at) (v_ends := m_ends) (v_fault := m_fault) (v_opened := m_opened) (v_bentMany := m_bentMany) (v_bentWrong := m_bentWrong) (v_moreWorn := m_moreWorn) g9_0 g9_1 g9_2
  have k8 := wp_get (st8_fold g8_0 g8_1) e8
  have k9 := wp_get (st9_fold g9_0 g9_1 g9_2) e9
  obtain ⟨a0, a1, a2, a3, a4, a5, a6, a7, a8, a9, a10, a11, a12, a13, a14, a15, a16, a17⟩ := id g8_0
  obtain ⟨z0, z1, z2, z3, z4, z5, z6, z7, z8, z9, z10, z11, z12, z13⟩ := id g9_1
  obtain ⟨t0, t1, t2, t3, t4, t5, t6, t7, t8, t9, t10⟩ := id g9_2
  have n0 : (0 : Int32).toInt = 0 := by decide
  have n5 : (5 : Int32).toInt = 5 := by decide
  have y0 : (0 : Int32).toInt.toNat = 0 := by decide
  have y5 : (5 : Int32).toInt.toNat = 5 := by decide
  obtain ⟨b1, b2, b3, b4, b5, b6⟩ := hr_0
  subst b1 b2
  have hf := i_fl z0 z1 z2 z3
  obtain ⟨l1, l2, l3⟩ := id b5
  have g1 : mm_ig m_shapeRows (0 : Int32) = v_now_high := by rw [ge_ig, y0]; exact l1
  have g2 : mm_ig m_shapeColumns (0 : Int32) = v_now_wide := by rw [ge_ig, y0]; exact l2
  have R : rl_ge m_rowsOf m_columnsOf p_now_high p_now_wide p_now_folds p_now_rowOf p_now_colOf p_now_below p_now_face v_hasImage v_kept_rows v_kept_cols v_kept_high v_kept_wide v_kept_folds v_kept_rowOf v_kept_colOf v_kept_below v_kept_face m_rowsOf m_columnsOf q_folded m_isKept m_imageRows m_imageColumns m_imageFolded q_shapeRows q_shapeColumns q_row q_column q_below q_face := by
    rcases fo_8 e8 with ⟨o8, h8⟩ | ⟨o8, h8⟩
    · rcases fo_9 z4 z5 g1 g2 ⟨a4, a5⟩ ⟨a6, a7⟩ e9 with ⟨o9, h9⟩ | ⟨o9, h9⟩
      · obtain ⟨c1, c2, c3, c4, c5, c6, c7⟩ := h8
        obtain ⟨d1, d2, d3, d4, d5, d6, d7⟩ := h9
        subst c1 c2 c3 c4 c5 c6 c7 d1 d2 d3 d4 d5 d6 d7
        exact ⟨rfl, rfl, b3, b4, b5, b6⟩
      · exact absurd o9 o8
    · rcases fo_9 z4 z5 g1 g2 ⟨a4, a5⟩ ⟨a6, a7⟩ e9 with ⟨o9, h9⟩ | ⟨o9, h9⟩
      · exact absurd o8 o9
      · obtain ⟨c1, c2⟩ := h8
        obtain ⟨d1, d2⟩ := h9
        have q := tr_e (m := (m_rowsOf.toInt * m_columnsOf.toInt).toNat) (lv := (0 : Int32)) (by omega) (by omega) (by omega) (by omega) o8.1.1 o8.1.2 a8 a9 a10 a11 a15 z6 z7 z8 z9 t8 t9 t10 z4 z5 ⟨a4, a5⟩ ⟨a6, a7⟩ (fun k hk => zn_n a16 (by omega) (by omega) (by omega)) (fun k hk => zn_n a17 (by omega) (by omega) (by omega)) g1 g2 (by rw [y0]; exact l3) c2 d2
        rw [ge_ig, ge_ig, y0, Nat.mul_zero] at q
        obtain ⟨q1, q2, q3, q4, q5, -⟩ := q
        refine ⟨rfl, rfl, by rw [c1, d1, b3], b4, ⟨q1, q2, q3⟩, fun hk => ?_⟩
        obtain ⟨f1, f2, f3, f4⟩ := b6 hk
        subst f1 f2
        have hk2 : ¬ (m_isKept = false) := by rw [b4, hk]; decide
        obtain ⟨u0, u1, u2, u3, -⟩ := z13 hk2
        exact ⟨rfl, rfl, f3, lg_t f4 (i_fl u0 u1 u2 u3).2.2 (q5 5 (by omega) (by omega)).1 (q5 5 (by omega) (by omega)).2 (fun j j0 j1 => q4 j (by omega) (by omega))⟩
  exact ⟨_, _, _, _, _, _, _, _, _, _, _, _, _, _, _, _, _, _, _, _, _, _, _, _, _, _, _, _, _, _, _, _, _, _, _, _, _, _, _, _, e8, e9, k8.1, k8.2, k9.1, k9.2, R⟩
set_option maxHeartbeats 4000000 in
set_option maxRecDepth 20000 in
theorem rs_flat_ge {v_now_rows : Int32} {v_now_cols : Int32} {v_now_high : Int32} {v_now_wide : Int32} {v_now_rowOf : List Int32} {v_now_colOf : List Int32} {v_now_below : List Int32} {v_now_face : List Int32} {v_now_worn : List Int32} {v_now_last : List Int32} {v_now_bend : List Int32} {v_now_tall : List Int32} {v_now_folds : Int32} {v_hasImage : Bool} {v_kept_rows : Int32} {v_kept_cols : Int32} {v_kept_high : Int32} {v_kept_wide : Int32} {v_kept_folds : Int32} {v_kept_rowOf : List Int32} {v_kept_colOf : List Int32} {v_kept_below : List Int32} {v_kept_face : List Int32} {m_rowsOf : Int32} {m_columnsOf : Int32} {m_shapeRows : List Int32} {m_shapeColumns : List Int32} {m_row : List Int32} {m_column : List Int32} {m_below : List Int32} {m_face : List Int32} {m_isKept : Bool} {m_imageRows : Int32} {m_imageColumns : Int32} {m_worn : List Int32} {m_lastBend : List Int32} {m_folded : Int32} {m_imageFolded : Int32} (g8_0 : gi_sh v_now_rows v_now_cols v_now_high v_now_wide v_now_rowOf v_now_colOf v_now_below v_now_face v_now_worn v_now_last v_now_bend v_now_tall) (g9_0 : gm_sh m_rowsOf m_columnsOf m_isKept m_imageRows m_imageColumns m_shapeRows m_shapeColumns m_row m_column m_below m_face m_worn m_lastBend) (hr_0 : rl_ge v_now_rows v_now_cols v_now_high v_now_wide v_now_folds v_now_rowOf v_now_colOf v_now_below v_now_face v_hasImage v_kept_rows v_kept_cols v_kept_high v_kept_wide v_kept_folds v_kept_rowOf v_kept_colOf v_kept_below v_kept_face m_rowsOf m_columnsOf m_folded m_isKept m_imageRows m_imageColumns m_imageFolded m_shapeRows m_shapeColumns m_row m_column m_below m_face) : ∃ (r : Int32) (p_now_high : Int32) (p_now_wide : Int32) (p_now_rowOf : List Int32) (p_now_colOf : List Int32) (p_now_below : List Int32) (p_now_face : List Int32) (q_shapeRows : List Int32) (q_shapeColumns : List Int32) (q_row : List Int32) (q_column : List Int32) (q_below : List Int32) (q_face : List Int32), fX8_flat 700 v_now_rows v_now_cols v_now_high v_now_wide v_now_rowOf v_now_colOf v_now_below v_now_face = some (r, p_now_high, p_now_wide, p_now_rowOf, p_now_colOf, p_now_below, p_now_face) ∧ fX9_flat 700 m_rowsOf m_columnsOf m_shapeRows m_shapeColumns m_row m_column m_below m_face = some (r, q_shapeRows, q_shapeColumns, q_row, q_column, q_below, q_face) ∧ gi_sh v_now_rows v_now_cols p_now_high p_now_wide p_now_rowOf p_now_colOf p_now_below p_now_face v_now_worn v_now_last v_now_bend v_now_tall ∧ gm_sh m_rowsOf m_columnsOf m_isKept m_imageRows m_imageColumns q_shapeRows q_shapeColumns q_row q_column q_below q_face m_worn m_lastBend ∧ rl_ge v_now_rows v_now_cols p_now_high p_now_wide v_now_folds p_now_rowOf p_now_colOf p_now_below p_now_face v_hasImage v_kept_rows v_kept_cols v_kept_high v_kept_wide v_kept_folds v_kept_rowOf v_kept_colOf v_kept_below v_kept_face m_rowsOf m_columnsOf m_folded m_isKept m_imageRows m_imageColumns m_imageFolded q_shapeRows q_shapeColumns q_row q_column q_below q_face := by
  obtain ⟨⟨r8, p_now_high, p_now_wide, p_now_rowOf, p_now_colOf, p_now_below, p_now_face⟩, e8, -⟩ := st8_flat   g8_0
  obtain ⟨⟨r9, q_shapeRows, q_shapeColumns, q_row, q_column, q_below, q_face⟩, e9, -⟩ := st9_flat   g9_0
  have k8 := wp_get (st8_flat g8_0) e8
  have k9 := wp_get (st9_flat g9_0) e9
  obtain ⟨a0, a1, a2, a3, a4, a5, a6, a7, a8, a9, a10, a11, a12, a13, a14, a15, a16, a17⟩ := id g8_0
  obtain ⟨z0, z1, z2, z3, z4, z5, z6, z7, z8, z9, z10, z11, z12, z13⟩ := id g9_0
  have n0 : (0 : Int32).toInt = 0 := by decide
  have n5 : (5 : Int32).toInt = 5 := by decide
  have y0 : (0 : Int32).toInt.toNat = 0 := by decide
  have y5 : (5 : Int32).toInt.toNat = 5 := by decide
  obtain ⟨b1, b2, b3, b4, b5, b6⟩ := hr_0
  subst b1 b2
  have hf := i_fl z0 z1 z2 z3
  obtain ⟨l1, l2, l3⟩ := id b5
  have RR : r9 = r8 ∧ rl_ge m_rowsOf m_columnsOf p_now_high p_now_wide v_now_folds p_now_rowOf p_now_colOf p_now_below p_now_face v_hasImage v_kept_rows v_kept_cols v_kept_high v_kept_wide v_kept_folds v_kept_rowOf v_kept_colOf v_kept_below v_kept_face m_rowsOf m_columnsOf m_folded m_isKept m_imageRows m_imageColumns m_imageFolded q_shapeRows q_shapeColumns q_row q_column q_below q_face := by
    have f8 := e8
    have f9 := e9
    unfold fX8_flat at f8
    unfold fX9_flat at f9
    obtain ⟨u, eu, f8⟩ := mm_bd1s f8
    obtain ⟨w3, w4, w5, w6, w7, w8, el, f8⟩ := mm_bd6s f8
    have f9 := ck_x (ck_x f9)
    rw [nm_eq] at f9
    obtain ⟨x3, x4, x5, x6, x7, x8, er, f9⟩ := mm_bd6s f9
    have hu : v_now_high * v_now_wide = u := sm_i eu
    obtain ⟨c1, c2, c3⟩ := lo_e (m := (m_rowsOf.toInt * m_columnsOf.toInt).toNat) (by omega) (by omega) a0 a1 a2 a3 a8 a9 a10 a11 el
    obtain ⟨d1, d2, -, d4, d5⟩ := li_e (m := (m_rowsOf.toInt * m_columnsOf.toInt).toNat) (by omega) (by omega) z2 z3 (by omega) (by omega) z6 z7 z8 z9 er
    rw [y0, Nat.mul_zero] at d4 d5
    apply mm_sub7 f8
    apply mm_sub7 f9
    rw [c1, c2, d1, d2]
    refine ⟨?_, rfl, rfl, b3, b4, ⟨?_, ?_, fl_x c3 d5⟩, fun hk => ?_⟩
    · rw [← hu, ge_ig, ge_ig, y0, l1, l2]
    · rw [ge_is _ _ _ _ (by omega), y0, if_pos rfl]
    · rw [ge_is _ _ _ _ (by omega), y0, if_pos rfl]
    · obtain ⟨f1, f2, f3, f4⟩ := b6 hk
      subst f1 f2
      have hk2 : ¬ (m_isKept = false) := by rw [b4, hk]; decide
      obtain ⟨u0, u1, u2, u3, -⟩ := z13 hk2
      refine ⟨rfl, rfl, f3, lg_t f4 (i_fl u0 u1 u2 u3).2.2 ?_ ?_ (fun j j0 j1 => d4 j (by omega) (by omega))⟩
      · rw [ge_is _ _ _ _ (by omega), y0, if_neg (by decide)]
      · rw [ge_is _ _ _ _ (by omega), y0, if_neg (by decide)]
  obtain ⟨er, R⟩ := RR
  subst er
  exact ⟨_, _, _, _, _, _, _, _, _, _, _, _, _, e8, e9, k8, k9, R⟩
set_option maxHeartbeats 4000000 in
set_option maxRecDepth 20000 in
theorem rs_image_ge {v_hasImage : Bool} {v_now_rows : Int32} {v_now_cols : Int32} {v_now_high : Int32} {v_now_wide : Int32} {v_now_folds : Int32} {v_now_wrong : Int32} {v_now_more : Int32} {v_now_rowOf : List Int32} {v_now_colOf : List Int32} {v_now_below : List Int32} {v_now_face : List Int32} {v_now_worn : List Int32} {v_now_last : List Int32} {v_kept_rows : Int32} {v_kept_cols : Int32} {v_kept_high : Int32} {v_kept_wide : Int32} {v_kept_folds : Int32} {v_kept_wrong : Int32} {v_kept_more : Int32} {v_kept_rowOf : List Int32} {v_kept_colOf : List Int32} {v_kept_below : List Int32} {v_kept_face : List Int32} {v_kept_worn : List Int32} {v_kept_last : List Int32} {v_now_bend : List Int32} {v_now_tall : List Int32} {v_kept_bend : List Int32} {v_kept_tall : List Int32} {m_rowsOf : Int32} {m_columnsOf : Int32} {m_folded : Int32} {m_wronged : Int32} {m_isKept : Bool} {m_imageRows : Int32} {m_imageColumns : Int32} {m_imageFolded : Int32} {m_imageWronged : Int32} {m_shapeRows : List Int32} {m_shapeColumns : List Int32} {m_row : List Int32} {m_column : List Int32} {m_below : List Int32} {m_face : List Int32} {m_worn : List Int32} {m_lastBend : List Int32} (g8_0 : gi_sh v_now_rows v_now_cols v_now_high v_now_wide v_now_rowOf v_now_colOf v_now_below v_now_face v_now_worn v_now_last v_now_bend v_now_tall) (g8_1 : gi_sh v_kept_rows v_kept_cols v_kept_high v_kept_wide v_kept_rowOf v_kept_colOf v_kept_below v_kept_face v_kept_worn v_kept_last v_kept_bend v_kept_tall) (g9_0 : gm_sh m_rowsOf m_columnsOf m_isKept m_imageRows m_imageColumns m_shapeRows m_shapeColumns m_row m_column m_below m_face m_worn m_lastBend) (hr_0 : rl_ge v_now_rows v_now_cols v_now_high v_now_wide v_now_folds v_now_rowOf v_now_colOf v_now_below v_now_face v_hasImage v_kept_rows v_kept_cols v_kept_high v_kept_wide v_kept_folds v_kept_rowOf v_kept_colOf v_kept_below v_kept_face m_rowsOf m_columnsOf m_folded m_isKept m_imageRows m_imageColumns m_imageFolded m_shapeRows m_shapeColumns m_row m_column m_below m_face) : ∃ (r : Int32) (p_hasImage : Bool) (p_kept_rows : Int32) (p_kept_cols : Int32) (p_kept_high : Int32) (p_kept_wide : Int32) (p_kept_folds : Int32) (p_kept_wrong : Int32) (p_kept_more : Int32) (p_kept_rowOf : List Int32) (p_kept_colOf : List Int32) (p_kept_below : List Int32) (p_kept_face : List Int32) (p_kept_worn : List Int32) (p_kept_last : List Int32) (q_isKept : Bool) (q_imageRows : Int32) (q_imageColumns : Int32) (q_imageFolded : Int32) (q_imageWronged : Int32) (q_shapeRows : List Int32) (q_shapeColumns : List Int32) (q_row : List Int32) (q_column : List Int32) (q_below : List Int32) (q_face : List Int32) (q_worn : List Int32) (q_lastBend : List Int32), fX8_image 700 v_hasImage v_now_rows v_now_cols v_now_high v_now_wide v_now_folds v_now_wrong v_now_more v_now_rowOf v_now_colOf v_now_below v_now_face v_now_worn v_now_last v_kept_rows v_kept_cols v_kept_high v_kept_wide v_kept_folds v_kept_wrong v_kept_more v_kept_rowOf v_kept_colOf v_kept_below v_kept_face v_kept_worn v_kept_last = some (r, p_hasImage, p_kept_rows, p_kept_cols, p_kept_high, p_kept_wide, p_kept_folds, p_kept_wrong, p_kept_more, p_kept_rowOf, p_kept_colOf, p_kept_below, p_kept_face, p_kept_worn, p_kept_last) ∧ fX9_image 700 m_rowsOf m_columnsOf m_folded m_wronged m_isKept m_imageRows m_imageColumns m_imageFolded m_imageWronged m_shapeRows m_shapeColumns m_row m_column m_below m_face m_worn m_lastBend = some (r, q_isKept, q_imageRows, q_imageColumns, q_imageFolded, q_imageWronged, q_shapeRows, q_shapeColumns, q_row, q_column, q_below, q_face, q_worn, q_lastBend) ∧ gi_sh p_kept_rows p_kept_cols p_kept_high p_kept_wide p_kept_rowOf p_kept_colOf p_kept_below p_kept_face p_kept_worn p_kept_last v_kept_bend v_kept_tall ∧ gm_sh m_rowsOf m_columnsOf q_isKept q_imageRows q_imageColumns q_shapeRows q_shapeColumns q_row q_column q_below q_face q_worn q_lastBend ∧ rl_ge v_now_rows v_now_cols v_now_high v_now_wide v_now_folds v_now_rowOf v_now_colOf v_now_below v_now_face p_hasImage p_kept_rows p_kept_cols p_kept_high p_kept_wide p_kept_folds p_kept_rowOf p_kept_colOf p_kept_below p_kept_face m_rowsOf m_columnsOf m_folded q_isKept q_imageRows q_imageColumns q_imageFolded q_shapeRows q_shapeColumns q_row q_column q_below q_face := by
  obtain ⟨⟨r8, p_hasImage, p_kept_rows, p_kept_cols, p_kept_high, p_kept_wide, p_kept_folds, p_kept_wrong, p_kept_more, p_kept_rowOf, p_kept_colOf, p_kept_below, p_kept_face, p_kept_worn, p_kept_last⟩, e8, -⟩ := st8_image  (v_hasImage := v_hasImage) (v_now_folds := v_now_folds) (v_now_wrong := v_now_wrong) (v_now_more := v_now_more) (v_kept_folds := v_kept_folds) (v_kept_wrong := v_kept_wrong) (v_kept_more := v_kept_more) g8_0 g8_1
  obtain ⟨⟨r9, q_isKept, q_imageRows, q_imageColumns, q_imageFolded, q_imageWronged, q_shapeRows, q_shapeColumns, q_row, q_column, q_below, q_face, q_worn, q_lastBend⟩, e9, -⟩ := st9_image  (v_folded := m_folded) (v_wronged := m_wronged) (v_imageFolded := m_imageFolded) (v_imageWronged := m_imageWronged) g9_0
  have k8 := wp_get (st8_image g8_0 g8_1) e8
  have k9 := wp_get (st9_image g9_0) e9
  obtain ⟨a0, a1, a2, a3, a4, a5, a6, a7, a8, a9, a10, a11, a12, a13, a14, a15, a16, a17⟩ := id g8_0
  obtain ⟨c0, c1, c2, c3, c4, c5, c6, c7, c8, c9, c10, c11, c12, c13, c14, c15, c16, c17⟩ := id g8_1
  obtain ⟨z0, z1, z2, z3, z4, z5, z6, z7, z8, z9, z10, z11, z12, z13⟩ := id g9_0
  have n0 : (0 : Int32).toInt = 0 := by decide
  have n5 : (5 : Int32).toInt = 5 := by decide
  have y0 : (0 : Int32).toInt.toNat = 0 := by decide
  have y5 : (5 : Int32).toInt.toNat = 5 := by decide
  obtain ⟨b1, b2, b3, b4, b5, b6⟩ := hr_0
  subst b1 b2
  have hf := i_fl z0 z1 z2 z3
  obtain ⟨l1, l2, l3⟩ := id b5
  have RR : r9 = r8 ∧ rl_ge m_rowsOf m_columnsOf v_now_high v_now_wide v_now_folds v_now_rowOf v_now_colOf v_now_below v_now_face p_hasImage p_kept_rows p_kept_cols p_kept_high p_kept_wide p_kept_folds p_kept_rowOf p_kept_colOf p_kept_below p_kept_face m_rowsOf m_columnsOf m_folded q_isKept q_imageRows q_imageColumns q_imageFolded q_shapeRows q_shapeColumns q_row q_column q_below q_face := by
    have f8 := e8
    have f9 := e9
    unfold fX8_image at f8
    unfold fX9_image at f9
    rw [cp_e c8 c9 c10 c11 c12 c13 a8 a9 a10 a11 a12 a13] at f8
    obtain ⟨x1, x2, x3, x4, x5, x6, x7, x8, er, f9⟩ := mm_bd8s f9
    obtain ⟨⟨d1, d2⟩, d3, -, d5, -⟩ := co_e (by omega) (by omega) (by omega) (by omega) (by omega) z6 z7 z8 z9 z10 z11 er
    rw [y0, y5] at d5
    rw [y5] at d3
    have f8' : some (v_now_folds, true, m_rowsOf, m_columnsOf, v_now_high, v_now_wide, v_now_folds, v_now_wrong, v_now_more, v_now_rowOf, v_now_colOf, v_now_below, v_now_face, v_now_worn, v_now_last) = some (r8, p_hasImage, p_kept_rows, p_kept_cols, p_kept_high, p_kept_wide, p_kept_folds, p_kept_wrong, p_kept_more, p_kept_rowOf, p_kept_colOf, p_kept_below, p_kept_face, p_kept_worn, p_kept_last) := f8
    apply mm_sub15 f8'
    apply mm_sub14 f9
    rw [d1, d2]
    refine ⟨b3, rfl, rfl, b3, rfl, lg_t b5 hf.2.2 ?_ ?_ (fun j j0 j1 => d3 j (by omega) (by omega)), fun _ => ⟨rfl, rfl, b3, ?_, ?_, fun k hk => ?_⟩⟩
    · rw [ge_is _ _ _ _ (by omega), y5, if_neg (by decide)]
    · rw [ge_is _ _ _ _ (by omega), y5, if_neg (by decide)]
    · rw [ge_is _ _ _ _ (by omega), y5, if_pos rfl, ge_ig, y0]
      exact l1
    · rw [ge_is _ _ _ _ (by omega), y5, if_pos rfl, ge_ig, y0]
      exact l2
    · obtain ⟨u1, u2, u3, u4⟩ := d5 k (by omega)
      obtain ⟨v1, v2, v3, v4⟩ := l3 k hk
      exact ⟨by rw [u1]; exact v1, by rw [u2]; exact v2, by rw [u3]; exact v3, by rw [u4]; exact v4⟩
  obtain ⟨er, R⟩ := RR
  subst er
  exact ⟨_, _, _, _, _, _, _, _, _, _, _, _, _, _, _, _, _, _, _, _, _, _, _, _, _, _, _, _, e8, e9, k8, k9, R⟩
set_option maxHeartbeats 4000000 in
set_option maxRecDepth 20000 in
theorem rs_back_ge {v_hasImage : Bool} {v_now_rows : Int32} {v_now_cols : Int32} {v_now_high : Int32} {v_now_wide : Int32} {v_now_folds : Int32} {v_now_wrong : Int32} {v_now_more : Int32} {v_now_rowOf : List Int32} {v_now_colOf : List Int32} {v_now_below : List Int32} {v_now_face : List Int32} {v_now_worn : List Int32} {v_now_last : List Int32} {v_kept_rows : Int32} {v_kept_cols : Int32} {v_kept_high : Int32} {v_kept_wide : Int32} {v_kept_folds : Int32} {v_kept_wrong : Int32} {v_kept_more : Int32} {v_kept_rowOf : List Int32} {v_kept_colOf : List Int32} {v_kept_below : List Int32} {v_kept_face : List Int32} {v_kept_worn : List Int32} {v_kept_last : List Int32} {v_now_bend : List Int32} {v_now_tall : List Int32} {v_kept_bend : List Int32} {v_kept_tall : List Int32} {m_rowsOf : Int32} {m_columnsOf : Int32} {m_folded : Int32} {m_wronged : Int32} {m_isKept : Bool} {m_imageRows : Int32} {m_imageColumns : Int32} {m_imageFolded : Int32} {m_imageWronged : Int32} {m_shapeRows : List Int32} {m_shapeColumns : List Int32} {m_row : List Int32} {m_column : List Int32} {m_below : List Int32} {m_face : List Int32} {m_worn : List Int32} {m_lastBend : List Int32} (g8_0 : gi_sh v_now_rows v_now_cols v_now_high v_now_wide v_now_rowOf v_now_colOf v_now_below v_now_face v_now_worn v_now_last v_now_bend v_now_tall) (g8_1 : gi_sh v_kept_rows v_kept_cols v_kept_high v_kept_wide v_kept_rowOf v_kept_colOf v_kept_below v_kept_face v_kept_worn v_kept_last v_kept_bend v_kept_tall) (g9_0 : gm_sh m_rowsOf m_columnsOf m_isKept m_imageRows m_imageColumns m_shapeRows m_shapeColumns m_row m_column m_below m_face m_worn m_lastBend) (hr_0 : rl_ge v_now_rows v_now_cols v_now_high v_now_wide v_now_folds v_now_rowOf v_now_colOf v_now_below v_now_face v_hasImage v_kept_rows v_kept_cols v_kept_high v_kept_wide v_kept_folds v_kept_rowOf v_kept_colOf v_kept_below v_kept_face m_rowsOf m_columnsOf m_folded m_isKept m_imageRows m_imageColumns m_imageFolded m_shapeRows m_shapeColumns m_row m_column m_below m_face) : ∃ (r : Int32) (p_now_rows : Int32) (p_now_cols : Int32) (p_now_high : Int32) (p_now_wide : Int32) (p_now_folds : Int32) (p_now_wrong : Int32) (p_now_more : Int32) (p_now_rowOf : List Int32) (p_now_colOf : List Int32) (p_now_below : List Int32) (p_now_face : List Int32) (p_now_worn : List Int32) (p_now_last : List Int32) (q_rowsOf : Int32) (q_columnsOf : Int32) (q_folded : Int32) (q_wronged : Int32) (q_shapeRows : List Int32) (q_shapeColumns : List Int32) (q_row : List Int32) (q_column : List Int32) (q_below : List Int32) (q_face : List Int32) (q_worn : List Int32) (q_lastBend : List Int32), fX8_back 700 v_hasImage v_now_rows v_now_cols v_now_high v_now_wide v_now_folds v_now_wrong v_now_more v_now_rowOf v_now_colOf v_now_below v_now_face v_now_worn v_now_last v_kept_rows v_kept_cols v_kept_high v_kept_wide v_kept_folds v_kept_wrong v_kept_more v_kept_rowOf v_kept_colOf v_kept_below v_kept_face v_kept_worn v_kept_last = some (r, p_now_rows, p_now_cols, p_now_high, p_now_wide, p_now_folds, p_now_wrong, p_now_more, p_now_rowOf, p_now_colOf, p_now_below, p_now_face, p_now_worn, p_now_last) ∧ fX9_back 700 m_rowsOf m_columnsOf m_folded m_wronged m_isKept m_imageRows m_imageColumns m_imageFolded m_imageWronged m_shapeRows m_shapeColumns m_row m_column m_below m_face m_worn m_lastBend = some (r, q_rowsOf, q_columnsOf, q_folded, q_wronged, q_shapeRows, q_shapeColumns, q_row, q_column, q_below, q_face, q_worn, q_lastBend) ∧ gi_sh p_now_rows p_now_cols p_now_high p_now_wide p_now_rowOf p_now_colOf p_now_below p_now_face p_now_worn p_now_last v_now_bend v_now_tall ∧ gm_sh q_rowsOf q_columnsOf m_isKept m_imageRows m_imageColumns q_shapeRows q_shapeColumns q_row q_column q_below q_face q_worn q_lastBend ∧ rl_ge p_now_rows p_now_cols p_now_high p_now_wide p_now_folds p_now_rowOf p_now_colOf p_now_below p_now_face v_hasImage v_kept_rows v_kept_cols v_kept_high v_kept_wide v_kept_folds v_kept_rowOf v_kept_colOf v_kept_below v_kept_face q_rowsOf q_columnsOf q_folded m_isKept m_imageRows m_imageColumns m_imageFolded q_shapeRows q_shapeColumns q_row q_column q_below q_face := by
  obtain ⟨⟨r8, p_now_rows, p_now_cols, p_now_high, p_now_wide, p_now_folds, p_now_wrong, p_now_more, p_now_rowOf, p_now_colOf, p_now_below, p_now_face, p_now_worn, p_now_last⟩, e8, -⟩ := st8_back  (v_hasImage := v_hasImage) (v_now_folds := v_now_folds) (v_now_wrong := v_now_wrong) (v_now_more := v_now_more) (v_kept_folds := v_kept_folds) (v_kept_wrong := v_kept_wrong) (v_kept_more := v_kept_more) g8_0 g8_1
  obtain ⟨⟨r9, q_rowsOf, q_columnsOf, q_folded, q_wronged, q_shapeRows, q_shapeColumns, q_row, q_column, q_below, q_face, q_worn, q_lastBend⟩, e9, -⟩ := st9_back  (v_folded := m_folded) (v_wronged := m_wronged) (v_imageFolded := m_imageFolded) (v_imageWronged := m_imageWronged) g9_0
  have k8 := wp_get (st8_back g8_0 g8_1) e8
  have k9 := wp_get (st9_back g9_0) e9
  obtain ⟨a0, a1, a2, a3, a4, a5, a6, a7, a8, a9, a10, a11, a12, a13, a14, a15, a16, a17⟩ := id g8_0
  obtain ⟨c0, c1, c2, c3, c4, c5, c6, c7, c8, c9, c10, c11, c12, c13, c14, c15, c16, c17⟩ := id g8_1
  obtain ⟨z0, z1, z2, z3, z4, z5, z6, z7, z8, z9, z10, z11, z12, z13⟩ := id g9_0
  have n0 : (0 : Int32).toInt = 0 := by decide
  have n5 : (5 : Int32).toInt = 5 := by decide
  have y0 : (0 : Int32).toInt.toNat = 0 := by decide
  have y5 : (5 : Int32).toInt.toNat = 5 := by decide
  obtain ⟨b1, b2, b3, b4, b5, b6⟩ := hr_0
  have RR : r9 = r8 ∧ rl_ge p_now_rows p_now_cols p_now_high p_now_wide p_now_folds p_now_rowOf p_now_colOf p_now_below p_now_face v_hasImage v_kept_rows v_kept_cols v_kept_high v_kept_wide v_kept_folds v_kept_rowOf v_kept_colOf v_kept_below v_kept_face q_rowsOf q_columnsOf q_folded m_isKept m_imageRows m_imageColumns m_imageFolded q_shapeRows q_shapeColumns q_row q_column q_below q_face := by
    have f8 := e8
    have f9 := e9
    unfold fX8_back at f8
    unfold fX9_back at f9
    by_cases h : v_hasImage = false
    · rw [if_pos h] at f8
      rw [if_pos (by rw [b4]; exact h)] at f9
      apply mm_sub14 f8
      apply mm_sub13 f9
      exact ⟨rfl, b1, b2, b3, b4, b5, b6⟩
    · have hk : v_hasImage = true := by
        cases hv : v_hasImage
        · exact absurd hv h
        · rfl
      have hk2 : ¬ (m_isKept = false) := by rw [b4, hk]; decide
      obtain ⟨j1, j2, j3, j4⟩ := b6 hk
      obtain ⟨u0, u1, u2, u3, -⟩ := z13 hk2
      have m32 := (i_fl u0 u1 u2 u3).2.2
      obtain ⟨l1, l2, l3⟩ := id j4
      rw [if_neg h, cp_e a8 a9 a10 a11 a12 a13 c8 c9 c10 c11 c12 c13] at f8
      rw [if_neg hk2] at f9
      obtain ⟨x1, x2, x3, x4, x5, x6, x7, x8, er, f9⟩ := mm_bd8s f9
      obtain ⟨⟨d1, d2⟩, d3, -, d5, -⟩ := co_e (by omega) (by omega) (by omega) (by omega) (by omega) z6 z7 z8 z9 z10 z11 er
      rw [y0, y5] at d5
      rw [y0] at d3
      have f8' : some (v_kept_folds, v_kept_rows, v_kept_cols, v_kept_high, v_kept_wide, v_kept_folds, v_kept_wrong, v_kept_more, v_kept_rowOf, v_kept_colOf, v_kept_below, v_kept_face, v_kept_worn, v_kept_last) = some (r8, p_now_rows, p_now_cols, p_now_high, p_now_wide, p_now_folds, p_now_wrong, p_now_more, p_now_rowOf, p_now_colOf, p_now_below, p_now_face, p_now_worn, p_now_last) := f8
      apply mm_sub14 f8'
      apply mm_sub13 f9
      rw [d1, d2]
      refine ⟨j3, j1, j2, j3, b4, ⟨?_, ?_, fun k hk3 => ?_⟩, fun _ => ⟨j1, j2, j3, lg_t j4 (by rw [← j1, ← j2]; exact m32) ?_ ?_ (fun j j0 j1 => d3 j (by omega) (by omega))⟩⟩
      · rw [ge_is _ _ _ _ (by omega), y0, if_pos rfl, ge_ig, y5]
        exact l1
      · rw [ge_is _ _ _ _ (by omega), y0, if_pos rfl, ge_ig, y5]
        exact l2
      · rw [← j1, ← j2] at hk3
        obtain ⟨u1, u2, u3, u4⟩ := d5 k (by omega)
        rw [j1, j2] at hk3
        obtain ⟨v1, v2, v3, v4⟩ := l3 k hk3
        exact ⟨by rw [u1]; exact v1, by rw [u2]; exact v2, by rw [u3]; exact v3, by rw [u4]; exact v4⟩
      · rw [ge_is _ _ _ _ (by omega), y0, if_neg (by decide)]
      · rw [ge_is _ _ _ _ (by omega), y0, if_neg (by decide)]
  obtain ⟨er, R⟩ := RR
  subst er
  exact ⟨_, _, _, _, _, _, _, _, _, _, _, _, _, _, _, _, _, _, _, _, _, _, _, _, _, _, e8, e9, k8, k9, R⟩
end
section
/-! Geometry: where, shape -/
theorem hf_e (x1 rows cols : Int32) : fX5_hasField 700 x1 rows cols = some (decide (0 ≤ x1.toInt ∧ x1.toInt < (rows * cols).toInt)) := by
  have n0 : (0 : Int32).toInt = 0 := by decide
  unfold fX5_hasField fX5_fields
  by_cases c : x1 < 0
  · have d := i_lt c
    rw [if_pos c, decide_eq_false (by omega)]
  · have d := i_nlt c
    rw [if_neg c, bs_1]
    by_cases c2 : rows * cols ≤ x1
    · have d2 := i_le c2
      rw [if_pos c2, decide_eq_false (by omega)]
    · have d2 := i_nle c2
      rw [if_neg c2, decide_eq_true (by omega)]
theorem ff_e {x1 ro co : Int32} (h : 1 ≤ (ro * co).toInt) : fX9_isField 700 x1 ro co = some (decide (0 ≤ x1.toInt ∧ x1.toInt < (ro * co).toInt)) := by
  have m0 : (0 : Int64).toInt = 0 := by decide
  have n1 : (1 : Int32).toInt = 1 := by decide
  have hb : (ro * co).toInt < 2147483648 := Int32.toInt_lt _
  unfold fX9_isField fX9_fields
  rw [bs_1]
  generalize hz : (ro * co) - (1 : Int32) = z
  have ez := i_subE hz (by omega) (by omega)
  rw [wn_x, bs_1, i_64, i_64, m0]
  exact congrArg some (decide_eq_decide.mpr (by omega))
/-- what where answers of a field -/
def wv_w (x2 r c b f : Int32) : Int32 := if x2 = 0 then r else if x2 = 1 then c else if x2 = 2 then b else if x2 = 3 then f else -1
theorem pw_e {x1 x2 rows cols r : Int32} {R C B F : List Int32} (e : fX5_placeOf 700 x1 x2 rows cols R C B F = some r) : r = if 0 ≤ x1.toInt ∧ x1.toInt < (rows * cols).toInt then wv_w x2 (R.getD x1.toInt.toNat 0) (C.getD x1.toInt.toNat 0) (B.getD x1.toInt.toNat 0) (F.getD x1.toInt.toNat 0) else -1 := by
  unfold fX5_placeOf at e
  rw [hf_e, bs_1] at e
  by_cases c : 0 ≤ x1.toInt ∧ x1.toInt < (rows * cols).toInt
  · rw [decide_eq_true c, if_neg (by decide)] at e
    rw [if_pos c]
    unfold wv_w
    by_cases c0 : x2 = 0
    · rw [if_pos c0] at e ⊢
      exact (sm_i (ck_x e)).symm
    · rw [if_neg c0] at e ⊢
      by_cases c1 : x2 = 1
      · rw [if_pos c1] at e ⊢
        exact (sm_i (ck_x e)).symm
      · rw [if_neg c1] at e ⊢
        by_cases c2 : x2 = 2
        · rw [if_pos c2] at e ⊢
          exact (sm_i (ck_x e)).symm
        · rw [if_neg c2] at e ⊢
          by_cases c3 : x2 = 3
          · rw [if_pos c3] at e ⊢
            exact (sm_i (ck_x e)).symm
          · rw [if_neg c3] at e ⊢
            exact (sm_i e).symm
  · rw [decide_eq_false c, if_pos rfl] at e
    rw [if_neg c]
    exact (sm_i e).symm
theorem wo_e {lv x1 x2 r : Int32} {row col bel fac : List Int32} (h : 0 ≤ x2.toInt ∧ x2.toInt ≤ 3) (e : fX9_whereOf 700 lv x1 x2 row col bel fac = some r) : r = wv_w x2 (row.getD (((32 : Int32) * lv) + x1).toInt.toNat 0) (col.getD (((32 : Int32) * lv) + x1).toInt.toNat 0) (bel.getD (((32 : Int32) * lv) + x1).toInt.toNat 0) (fac.getD (((32 : Int32) * lv) + x1).toInt.toNat 0) := by
  have n0 : (0 : Int32).toInt = 0 := by decide
  have n1 : (1 : Int32).toInt = 1 := by decide
  have n2 : (2 : Int32).toInt = 2 := by decide
  have n3 : (3 : Int32).toInt = 3 := by decide
  unfold fX9_whereOf at e
  rw [nm_eq] at e
  unfold wv_w
  by_cases c0 : x2 = 0
  · rw [if_pos c0] at e ⊢
    exact (sm_i (ck_x e)).symm
  · rw [if_neg c0] at e ⊢
    have d0 := i_ne c0
    by_cases c1 : x2 = 1
    · rw [if_pos c1] at e ⊢
      exact (sm_i (ck_x e)).symm
    · rw [if_neg c1] at e ⊢
      have d1 := i_ne c1
      by_cases c2 : x2 = 2
      · rw [if_pos c2] at e ⊢
        exact (sm_i (ck_x e)).symm
      · rw [if_neg c2] at e ⊢
        have d2 := i_ne c2
        have c3 : x2 = 3 := Int32.toInt_inj.mp (by omega)
        rw [if_pos c3]
        exact (sm_i (ck_x e)).symm
theorem wv_o {x2 r c b f : Int32} (h : ¬ (0 ≤ x2.toInt ∧ x2.toInt ≤ 3)) : wv_w x2 r c b f = -1 := by
  unfold wv_w
  rw [if_neg (fun k => h (by rw [k]; decide)), if_neg (fun k => h (by rw [k]; decide)), if_neg (fun k => h (by rw [k]; decide)), if_neg (fun k => h (by rw [k]; decide))]
theorem hp_4 {rows cols ro co x : Int32} {sR sC B bel : List Int32} {m : Nat} (hm : (rows * cols).toInt = m) (hm9 : (ro * co).toInt = m) (m32 : m ≤ 32) (H : ∀ k : Nat, k < m → bel.getD k 0 = B.getD k 0) : ∀ (n n' : Nat) (x1 x2 r8 : Int32) (r9 : Int32), fX5_highestPile_4 700 n x1 x2 rows cols B = some r8 → fX9_shape_4 700 n' x x1 x2 ro co sR sC bel = some r9 → 0 ≤ x2.toInt → r9 = if x = 0 then mm_ig sR (0 : Int32) else if x = 1 then mm_ig sC (0 : Int32) else if x = 2 then r8 else -1 := by
  have n1 : (1 : Int32).toInt = 1 := by decide
  intro n
  induction n with
  | zero =>
    intro n' x1 x2 r8 r9 e
    exact absurd e (by intro h; cases h)
  | succ n ih =>
    intro n' x1 x2 r8 r9 e8 e9 p0
    cases n' with
    | zero => exact absurd e9 (by intro h; cases h)
    | succ n' =>
      rw [uf_X5_highestPile_4] at e8
      rw [uf_X9_shape_4] at e9
      obtain ⟨f8, ef8, e8⟩ := mm_bd1s e8
      obtain ⟨f9, ef9, e9⟩ := mm_bd1s e9
      have h8 : rows * cols = f8 := sm_i ef8
      have h9 : ro * co = f9 := sm_i ef9
      subst h8
      subst h9
      by_cases c : rows * cols ≤ x2
      · have d := i_le c
        have c9 : ro * co ≤ x2 := Int32.le_iff_toInt_le.mpr (by omega)
        rw [if_pos c] at e8
        rw [if_pos c9] at e9
        have e8 := sm_i e8
        subst e8
        by_cases c0 : x = 0
        · rw [if_pos c0] at e9 ⊢
          exact (sm_i (ck_x e9)).symm
        · rw [if_neg c0] at e9 ⊢
          by_cases c1 : x = 1
          · rw [if_pos c1] at e9 ⊢
            exact (sm_i (ck_x e9)).symm
          · rw [if_neg c1] at e9 ⊢
            by_cases c2 : x = 2
            · rw [if_pos c2] at e9 ⊢
              exact (sm_i e9).symm
            · rw [if_neg c2] at e9 ⊢
              exact (sm_i e9).symm
      · have d := i_nle c
        have c9 : ¬ ro * co ≤ x2 := fun k => absurd (i_le k) (by omega)
        rw [if_neg c] at e8
        rw [if_neg c9] at e9
        have e8 := ck_x e8
        rw [nm_eq, nm_eq] at e8
        have e9 := ck_x e9
        have hb : mm_ig bel x2 = mm_ig B x2 := H x2.toInt.toNat (by omega)
        rw [hb] at e9
        have e9' : fX9_shape_36 700 (fX9_shape_4 700 n') x x2 (mm_max x1 (mm_ig B x2 + (1 : Int32))) ro co sR sC bel = some r9 := by
          unfold mm_max
          by_cases g : (mm_ig B x2 + (1 : Int32)) ≤ x1
          · rw [if_pos g] at e9
            rw [if_neg (Int32.not_lt.mpr g)]
            exact e9
          · rw [if_neg g] at e9
            rw [if_pos (Int32.not_le.mp g)]
            exact ck_x e9
        rw [uf_X9_shape_36, nm_eq] at e9'
        generalize hy : x2 + (1 : Int32) = y at e8 e9'
        have ey := i_addE hy (by omega) (by omega)
        exact ih n' _ y r8 r9 e8 e9' (by omega)
theorem rs_where_ge {x1 : Int32} {x2 : Int32} {v_now_rows : Int32} {v_now_cols : Int32} {v_now_rowOf : List Int32} {v_now_colOf : List Int32} {v_now_below : List Int32} {v_now_face : List Int32} {v_now_high : Int32} {v_now_wide : Int32} {v_now_worn : List Int32} {v_now_last : List Int32} {v_now_bend : List Int32} {v_now_tall : List Int32} {v_now_folds : Int32} {v_hasImage : Bool} {v_kept_rows : Int32} {v_kept_cols : Int32} {v_kept_high : Int32} {v_kept_wide : Int32} {v_kept_folds : Int32} {v_kept_rowOf : List Int32} {v_kept_colOf : List Int32} {v_kept_below : List Int32} {v_kept_face : List Int32} {m_rowsOf : Int32} {m_columnsOf : Int32} {m_row : List Int32} {m_column : List Int32} {m_below : List Int32} {m_face : List Int32} {m_isKept : Bool} {m_imageRows : Int32} {m_imageColumns : Int32} {m_shapeRows : List Int32} {m_shapeColumns : List Int32} {m_worn : List Int32} {m_lastBend : List Int32} {m_folded : Int32} {m_imageFolded : Int32} (g8_0 : gi_sh v_now_rows v_now_cols v_now_high v_now_wide v_now_rowOf v_now_colOf v_now_below v_now_face v_now_worn v_now_last v_now_bend v_now_tall) (g9_0 : gm_sh m_rowsOf m_columnsOf m_isKept m_imageRows m_imageColumns m_shapeRows m_shapeColumns m_row m_column m_below m_face m_worn m_lastBend) (hr_0 : rl_ge v_now_rows v_now_cols v_now_high v_now_wide v_now_folds v_now_rowOf v_now_colOf v_now_below v_now_face v_hasImage v_kept_rows v_kept_cols v_kept_high v_kept_wide v_kept_folds v_kept_rowOf v_kept_colOf v_kept_below v_kept_face m_rowsOf m_columnsOf m_folded m_isKept m_imageRows m_imageColumns m_imageFolded m_shapeRows m_shapeColumns m_row m_column m_below m_face) : ∃ (r : Int32), fX8_where 700 x1 x2 v_now_rows v_now_cols v_now_rowOf v_now_colOf v_now_below v_now_face = some r ∧ fX9_where 700 x1 x2 m_rowsOf m_columnsOf m_row m_column m_below m_face = some r ∧ rl_ge v_now_rows v_now_cols v_now_high v_now_wide v_now_folds v_now_rowOf v_now_colOf v_now_below v_now_face v_hasImage v_kept_rows v_kept_cols v_kept_high v_kept_wide v_kept_folds v_kept_rowOf v_kept_colOf v_kept_below v_kept_face m_rowsOf m_columnsOf m_folded m_isKept m_imageRows m_imageColumns m_imageFolded m_shapeRows m_shapeColumns m_row m_column m_below m_face := by
  obtain ⟨r8, e8, -⟩ := st8_where (x1 := x1) (x2 := x2)  g8_0
  obtain ⟨r9, e9, -⟩ := st9_where (x1 := x1) (x2 := x2)  g9_0
  obtain ⟨a0, a1, a2, a3, a4, a5, a6, a7, a8, a9, a10, a11, a12, a13, a14, a15, a16, a17⟩ := id g8_0
  obtain ⟨z0, z1, z2, z3, z4, z5, z6, z7, z8, z9, z10, z11, z12, z13⟩ := id g9_0
  have n0 : (0 : Int32).toInt = 0 := by decide
  have n5 : (5 : Int32).toInt = 5 := by decide
  have y0 : (0 : Int32).toInt.toNat = 0 := by decide
  have y5 : (5 : Int32).toInt.toNat = 5 := by decide
  obtain ⟨b1, b2, b3, b4, b5, b6⟩ := id hr_0
  have hf := i_fl z0 z1 z2 z3
  obtain ⟨l1, l2, l3⟩ := id b5
  have m0 : (0 : Int64).toInt = 0 := by decide
  have m3 : (3 : Int64).toInt = 3 := by decide
  have er : r9 = r8 := by
    have f8 := e8
    have f9 := e9
    unfold fX8_where at f8
    obtain ⟨u, eu, f8⟩ := mm_bd1s f8
    have hu := sm_i f8
    subst hu
    have q8 := pw_e eu
    unfold fX9_where at f9
    rw [ff_e (by omega), bs_1, b1, b2] at f9
    rw [q8]
    by_cases c : 0 ≤ x1.toInt ∧ x1.toInt < (v_now_rows * v_now_cols).toInt
    · rw [decide_eq_true c, if_neg (by decide), wn_x, bs_1, i_64, m0, m3] at f9
      rw [if_pos c]
      by_cases d : 0 ≤ x2.toInt ∧ x2.toInt ≤ 3
      · rw [decide_eq_true d, if_neg (by decide)] at f9
        obtain ⟨v, ev, f9⟩ := mm_bd1s f9
        have hv := sm_i f9
        subst hv
        have q9 := wo_e d ev
        rw [b1, b2] at hf
        rw [ix_e (by omega) (by omega) c.1 (by omega), y0] at q9
        obtain ⟨v1, v2, v3, v4⟩ := l3 x1.toInt.toNat (by omega)
        rw [v1, v2, v3, v4] at q9
        exact q9
      · rw [decide_eq_false d, if_pos rfl] at f9
        rw [wv_o d]
        exact (sm_i f9).symm
    · rw [decide_eq_false c, if_pos rfl] at f9
      rw [if_neg c]
      exact (sm_i f9).symm
  subst er
  exact ⟨_, e8, e9, hr_0⟩
theorem rs_shape_ge {x1 : Int32} {v_now_rows : Int32} {v_now_cols : Int32} {v_now_high : Int32} {v_now_wide : Int32} {v_now_below : List Int32} {v_now_rowOf : List Int32} {v_now_colOf : List Int32} {v_now_face : List Int32} {v_now_worn : List Int32} {v_now_last : List Int32} {v_now_bend : List Int32} {v_now_tall : List Int32} {v_now_folds : Int32} {v_hasImage : Bool} {v_kept_rows : Int32} {v_kept_cols : Int32} {v_kept_high : Int32} {v_kept_wide : Int32} {v_kept_folds : Int32} {v_kept_rowOf : List Int32} {v_kept_colOf : List Int32} {v_kept_below : List Int32} {v_kept_face : List Int32} {m_rowsOf : Int32} {m_columnsOf : Int32} {m_shapeRows : List Int32} {m_shapeColumns : List Int32} {m_below : List Int32} {m_isKept : Bool} {m_imageRows : Int32} {m_imageColumns : Int32} {m_row : List Int32} {m_column : List Int32} {m_face : List Int32} {m_worn : List Int32} {m_lastBend : List Int32} {m_folded : Int32} {m_imageFolded : Int32} (g8_0 : gi_sh v_now_rows v_now_cols v_now_high v_now_wide v_now_rowOf v_now_colOf v_now_below v_now_face v_now_worn v_now_last v_now_bend v_now_tall) (g9_0 : gm_sh m_rowsOf m_columnsOf m_isKept m_imageRows m_imageColumns m_shapeRows m_shapeColumns m_row m_column m_below m_face m_worn m_lastBend) (hr_0 : rl_ge v_now_rows v_now_cols v_now_high v_now_wide v_now_folds v_now_rowOf v_now_colOf v_now_below v_now_face v_hasImage v_kept_rows v_kept_cols v_kept_high v_kept_wide v_kept_folds v_kept_rowOf v_kept_colOf v_kept_below v_kept_face m_rowsOf m_columnsOf m_folded m_isKept m_imageRows m_imageColumns m_imageFolded m_shapeRows m_shapeColumns m_row m_column m_below m_face) : ∃ (r : Int32), fX8_shape 700 x1 v_now_rows v_now_cols v_now_high v_now_wide v_now_below = some r ∧ fX9_shape 700 x1 m_rowsOf m_columnsOf m_shapeRows m_shapeColumns m_below = some r ∧ rl_ge v_now_rows v_now_cols v_now_high v_now_wide v_now_folds v_now_rowOf v_now_colOf v_now_below v_now_face v_hasImage v_kept_rows v_kept_cols v_kept_high v_kept_wide v_kept_folds v_kept_rowOf v_kept_colOf v_kept_below v_kept_face m_rowsOf m_columnsOf m_folded m_isKept m_imageRows m_imageColumns m_imageFolded m_shapeRows m_shapeColumns m_row m_column m_below m_face := by
  obtain ⟨r8, e8, -⟩ := st8_shape (x1 := x1)  g8_0
  obtain ⟨r9, e9, -⟩ := st9_shape (x1 := x1)  g9_0
  obtain ⟨a0, a1, a2, a3, a4, a5, a6, a7, a8, a9, a10, a11, a12, a13, a14, a15, a16, a17⟩ := id g8_0
  obtain ⟨z0, z1, z2, z3, z4, z5, z6, z7, z8, z9, z10, z11, z12, z13⟩ := id g9_0
  have n0 : (0 : Int32).toInt = 0 := by decide
  have n5 : (5 : Int32).toInt = 5 := by decide
  have y0 : (0 : Int32).toInt.toNat = 0 := by decide
  have y5 : (5 : Int32).toInt.toNat = 5 := by decide
  obtain ⟨b1, b2, b3, b4, b5, b6⟩ := id hr_0
  have hf := i_fl z0 z1 z2 z3
  have hf8 := i_fl a0 a1 a2 a3
  obtain ⟨l1, l2, l3⟩ := id b5
  have er : r9 = r8 := by
    have f8 := e8
    have f9 := e9
    rw [b1, b2] at hf
    obtain ⟨h, eh⟩ : ∃ h : Int32, fX5_highestPile 700 v_now_rows v_now_cols v_now_below = some h := by
      obtain ⟨q, eq, -⟩ := st8_shape (x1 := (2 : Int32)) g8_0
      unfold fX8_shape at eq
      rw [if_neg (by decide), if_neg (by decide), if_pos rfl] at eq
      obtain ⟨v, ev, -⟩ := mm_bd1s eq
      exact ⟨v, ev⟩
    unfold fX5_highestPile at eh
    unfold fX9_shape at f9
    have q := hp_4 (m := (v_now_rows.toInt * v_now_cols.toInt).toNat) (by omega) (by rw [b1, b2]; omega) (by omega) (fun k hk => (by have v := (l3 k hk).2.2.1; rw [Nat.mul_zero, Nat.zero_add] at v; exact v)) 700 700 (0 : Int32) (0 : Int32) h r9 eh f9 (by omega)
    unfold fX8_shape at f8
    rw [ge_ig, ge_ig, y0, l1, l2] at q
    rw [q]
    by_cases c0 : x1 = 0
    · rw [if_pos c0] at f8 ⊢
      exact sm_i f8
    · rw [if_neg c0] at f8 ⊢
      by_cases c1 : x1 = 1
      · rw [if_pos c1] at f8 ⊢
        exact sm_i f8
      · rw [if_neg c1] at f8 ⊢
        by_cases c2 : x1 = 2
        · rw [if_pos c2] at f8 ⊢
          unfold fX5_highestPile at f8
          rw [eh, bs_1] at f8
          exact sm_i f8
        · rw [if_neg c2] at f8 ⊢
          exact sm_i f8
  subst er
  exact ⟨_, e8, e9, hr_0⟩
end
section
/-! Geometry: a plan tried -/
def ln_w (sR sC row col bel fac hi to PS : List Int32) : Prop := sR.length = 6 ∧ sC.length = 6 ∧ row.length = 192 ∧ col.length = 192 ∧ bel.length = 192 ∧ fac.length = 192 ∧ hi.length = 32 ∧ to.length = 32 ∧ PS.length = 64
/-- a fold on a sheet and on a level: the geometry behind it -/
theorem bt_e {lv x1 x2 x3 rows cols hg wd fo wr mo : Int32} {R C B F W A be T : List Int32} {sc sk : Int32} {stp st : List Int32} {r h' w' fo' wr' mo' : Int32} {R' C' B' F' W' A' be' T' : List Int32} {sk' : Int32} {st' : List Int32} {tm ba at_ en fa op bm bw mw : Int32} {lim sR sC row col bel fac wo la tape text nam ben hi to PS : List Int32} {ba' at' en' fa' op' bm' bw' mw' : Int32} {sR' sC' row' col' bel' fac' wo' la' nam' ben' hi' to' PS' : List Int32} (L0 : 0 ≤ lv.toInt) (L5 : lv.toInt ≤ 5) (g : gi_sh rows cols hg wd R C B F W A be T) (s0 : 0 ≤ sc.toInt) (s1 : sc.toInt ≤ 121) (s2 : stp.length = 121) (s3 : st.length = 121) (o : ok_w x1 x2 hg wd) (ln : ln_w sR sC row col bel fac hi to PS) (rl : lg_w lv.toInt.toNat rows cols hg wd R C B F sR sC row col bel fac) (e8 : fX5_bendAndTurn 700 x1 x2 x3 rows cols hg wd fo wr mo R C B F W A be T sc sk stp st = some (r, h', w', fo', wr', mo', R', C', B', F', W', A', be', T', sk', st')) (e9 : fX9_foldsOn 700 lv x1 x2 rows cols tm ba at_ en fa op bm bw mw lim sR sC row col bel fac wo la tape text nam ben hi to PS = some (ba', at', en', fa', op', bm', bw', mw', sR', sC', row', col', bel', fac', wo', la', nam', ben', hi', to', PS')) : gi_sh rows cols h' w' R' C' B' F' W' A' be' T' ∧ st'.length = 121 ∧ ln_w sR' sC' row' col' bel' fac' hi' to' PS' ∧ lg_w lv.toInt.toNat rows cols h' w' R' C' B' F' sR' sC' row' col' bel' fac' := by
  have n4 : (4 : Int32).toInt = 4 := by decide
  obtain ⟨a0, a1, a2, a3, a4, a5, a6, a7, a8, a9, a10, a11, a12, a13, a14, a15, a16, a17⟩ := id g
  obtain ⟨z1, z2, z3, z4, z5, z6, z7, z8, z9⟩ := ln
  obtain ⟨l1, l2, l3⟩ := rl
  have hf := i_fl a0 a1 a2 a3
  have o3 : x2.toInt < 4 → x1.toInt < wd.toInt := fun h => by
    have q := o.2.2
    rw [if_neg (fun k => absurd (i_le k) (by omega))] at q
    exact q
  have o4 : 4 ≤ x2.toInt → x1.toInt < hg.toInt := fun h => by
    have q := o.2.2
    rw [if_pos (Int32.le_iff_toInt_le.mpr (by omega))] at q
    exact q
  have q := wp_get (sf_X5_bendAndTurn (Nat.le_refl 700) a0 a1 a2 a3 a4 a5 a6 a7 a8 a9 a10 a11 a12 a13 a14 a15 a16 a17 s0 s1 s2 s3 o.2.1 o3 o4) e8
  obtain ⟨q0, q1, q2, q3, q4, q5, q6, q7, q8, q9, q10, q11, q12, q13, q14⟩ := q
  unfold fX5_bendAndTurn at e8
  obtain ⟨b0, b1, em, e8⟩ := mm_bd2s e8
  obtain ⟨-, -, et⟩ := ba_12 700 _ _ _ _ _ _ _ e8
  obtain ⟨u1, u2, u3, -, -, ⟨v1, v2, v3, v4, v5, v6, v7, v8, v9⟩⟩ := tr_e (m := (rows.toInt * cols.toInt).toNat) (by omega) (by omega) L0 L5 o.1.1 o.1.2 a8 a9 a10 a11 a15 z3 z4 z5 z6 z7 z8 z9 z1 z2 ⟨a4, a5⟩ ⟨a6, a7⟩ (fun k hk => zn_n a16 (by omega) (by omega) (by omega)) (fun k hk => zn_n a17 (by omega) (by omega) (by omega)) l1 l2 l3 et (fs_9 e9).1
  exact ⟨⟨a0, a1, a2, a3, q0, q1, q2, q3, q4, q5, q6, q7, q8, q9, q10, q11, q12, q13⟩, q14, ⟨v8, v9, v1, v2, v3, v4, v5, v6, v7⟩, u1, u2, u3⟩
theorem tf_11 {x1 x3 size rows cols : Int32} {lines ways : List Int32} {p2_rows p2_cols p2_high p2_wide p2_folds p2_wrong p2_more : Int32} {p2_R p2_C p2_B p2_F p2_W p2_A : List Int32} {sc : Int32} {stp : List Int32} {tm : Int32} {lim tape text : List Int32} (s0 : 0 ≤ sc.toInt) (s1 : sc.toInt ≤ 121) (s2 : stp.length = 121) (w12 : ways.length = 12) (sz : size.toInt ≤ 12) (hw : zn ways 0 size.toInt 0 8) : ∀ (n n' : Nat) (x5 hg wd fo wr mo : Int32) (R C B F W A be T : List Int32) (sk : Int32) (st : List Int32) (ba at_ en fa op bm bw mw aw ao z : Int32) (sR sC row col bel fac wo la nam ben hi to PS : List Int32) (r8 rows' cols' h' w' fo' wr' mo' : Int32) (R' C' B' F' W' A' be' T' : List Int32) (sk' : Int32) (st' : List Int32) (r9 ba' at' en' fa' op' bm' bw' mw' aw' ao' z' : Int32) (sR' sC' row' col' bel' fac' wo' la' nam' ben' hi' to' PS' : List Int32), fX3_tryFirst_11 700 n x1 x3 x5 size rows cols hg wd fo wr mo R C B F W A be T lines ways p2_rows p2_cols p2_high p2_wide p2_folds p2_wrong p2_more p2_R p2_C p2_B p2_F p2_W p2_A sc sk stp st = some (r8, rows', cols', h', w', fo', wr', mo', R', C', B', F', W', A', be', T', sk', st') → fX9_goesPlan_17 700 n' x1 (-1 : Int32) x5 rows cols tm ba at_ en fa op bm bw mw size aw ao z lim sR sC row col bel fac wo la tape text nam ben hi to PS lines ways = some (r9, ba', at', en', fa', op', bm', bw', mw', aw', ao', z', sR', sC', row', col', bel', fac', wo', la', nam', ben', hi', to', PS') → 0 ≤ x5.toInt → x5.toInt ≤ x1.toInt → x5.toInt ≤ size.toInt → gi_sh rows cols hg wd R C B F W A be T → st.length = 121 → ln_w sR sC row col bel fac hi to PS → lg_w 1 rows cols hg wd R C B F sR sC row col bel fac → r9 = r8 ∧ rows' = rows ∧ cols' = cols ∧ gi_sh rows cols h' w' R' C' B' F' W' A' be' T' ∧ lg_w 1 rows cols h' w' R' C' B' F' sR' sC' row' col' bel' fac' := by
  have n1 : (1 : Int32).toInt = 1 := by decide
  have y1 : (1 : Int32).toInt.toNat = 1 := by decide
  intro n
  induction n with
  | zero =>
    intro n' x5 hg wd fo wr mo R C B F W A be T sk st ba at_ en fa op bm bw mw aw ao z sR sC row col bel fac wo la nam ben hi to PS r8 rows' cols' h' w' fo' wr' mo' R' C' B' F' W' A' be' T' sk' st' r9 ba' at' en' fa' op' bm' bw' mw' aw' ao' z' sR' sC' row' col' bel' fac' wo' la' nam' ben' hi' to' PS' e8
    exact absurd e8 (by intro h; cases h)
  | succ n ih =>
    intro n' x5 hg wd fo wr mo R C B F W A be T sk st ba at_ en fa op bm bw mw aw ao z sR sC row col bel fac wo la nam ben hi to PS r8 rows' cols' h' w' fo' wr' mo' R' C' B' F' W' A' be' T' sk' st' r9 ba' at' en' fa' op' bm' bw' mw' aw' ao' z' sR' sC' row' col' bel' fac' wo' la' nam' ben' hi' to' PS' e8 e9 p0 p1 p2 G l ln rl
    cases n' with
    | zero => exact absurd e9 (by intro h; cases h)
    | succ n' =>
      rw [uf_X3_tryFirst_11] at e8
      rw [uf_X9_goesPlan_17] at e9
      by_cases c1 : x1 ≤ x5
      · have d1 := i_le c1
        rw [if_pos c1, uf_X3_tryFirst_84] at e8
        apply mm_sub18 e8
        by_cases c2 : size ≤ x5
        · have d2 := i_le c2
          rw [if_pos c2] at e9
          apply mm_sub25 e9
          exact ⟨Int32.toInt_inj.mp (by rw [i_min]; omega), rfl, rfl, G, rl⟩
        · have d2 := i_nle c2
          rw [if_neg c2, if_pos c1] at e9
          apply mm_sub25 e9
          exact ⟨Int32.toInt_inj.mp (by rw [i_min]; omega), rfl, rfl, G, rl⟩
      · have d1 := i_nle c1
        rw [if_neg c1] at e8
        by_cases c2 : size ≤ x5
        · have d2 := i_le c2
          rw [if_pos c2, uf_X3_tryFirst_84] at e8
          rw [if_pos c2] at e9
          apply mm_sub18 e8
          apply mm_sub25 e9
          exact ⟨Int32.toInt_inj.mp (by rw [i_min]; omega), rfl, rfl, G, rl⟩
        · have d2 := i_nle c2
          rw [if_neg c2] at e8
          rw [if_neg c2, if_neg c1] at e9
          have e8 := ck_x (ck_x e8)
          have e9 := ck_x (ck_x e9)
          obtain ⟨a0, a1, a2, a3, a4, a5, a6, a7, a8, a9, a10, a11, a12, a13, a14, a15, a16, a17⟩ := id G
          obtain ⟨z1, z2, z3, z4, z5, z6, z7, z8, z9⟩ := id ln
          obtain ⟨l1, l2, l3⟩ := id rl
          rw [hl_e, bs_1] at e8
          rw [il_e z1 z2 (by omega) (by omega) (show mm_ig sR (1 : Int32) = hg by rw [ge_ig, y1]; exact l1) (show mm_ig sC (1 : Int32) = wd by rw [ge_ig, y1]; exact l2) ⟨a4, a5⟩ ⟨a6, a7⟩, bs_1] at e9
          by_cases d : 1 ≤ (mm_ig lines x5).toInt ∧ (mm_ig lines x5).toInt < (if (4 : Int32) ≤ mm_ig ways x5 then hg else wd).toInt
          · rw [decide_eq_true d, if_neg (by decide)] at e8 e9
            have e8 := ck_x (ck_x e8)
            obtain ⟨b0, b1, b2, b3, b4, b5, b6, b7, b8, b9, b10, b11, b12, b13, b14, b15, eb, e8⟩ := mm_bd16s e8
            rw [nm_eq] at e8
            have e9 := ck_x e9
            rw [nm_eq, if_pos (by decide), uf_X9_goesPlan_103] at e9
            have e9 := ck_x e9
            obtain ⟨f0, f1, f2, f3, f4, f5, f6, f7, f8, f9, f10, f11, f12, f13, f14, f15, f16, f17, f18, f19, f20, ef, e9⟩ := mm_bd21s e9
            rw [nm_eq, nm_eq, nm_eq] at e9
            have hz := zn_get hw p0 p0 (by omega) (by omega)
            obtain ⟨q1, q2, q3, q4⟩ := bt_e (lv := (1 : Int32)) (by omega) (by omega) G s0 s1 s2 l ⟨⟨hz.1, by omega⟩, d⟩ ln (by rw [y1]; exact rl) eb ef
            rw [y1] at q4
            generalize hy : x5 + (1 : Int32) = y at e8 e9
            have ey := i_addE hy (by omega) (by omega)
            exact ih n' y _ _ _ _ _ _ _ _ _ _ _ _ _ _ _ _ _ _ _ _ _ _ _ _ _ _ _ _ _ _ _ _ _ _ _ _ _ _ _ _ _ _ _ _ _ _ _ _ _ _ _ _ _ _ _ _ _ _ _ _ _ _ _ _ _ _ _ _ _ _ _ _ _ _ _ _ _ _ _ _ _ _ e8 e9 (by omega) (by omega) (by omega) q1 q2 q3 q4
          · rw [decide_eq_false d, if_pos rfl] at e8 e9
            apply mm_sub18 e8
            apply mm_sub25 e9
            exact ⟨rfl, rfl, rfl, G, rl⟩
end
section
/-! The law: steps and stacks -/
def jn_w (c a b : Int32) : Int32 := if c = 124 then (if a = 0 then (if b = 0 then 0 else 1) else 1) else if c = 38 then (if a = 0 then 0 else (if b = 0 then 0 else 1)) else if c = 60 then (if b ≤ a then 0 else 1) else if c = 61 then (if a = b then 1 else 0) else if c = 62 then (if a ≤ b then 0 else 1) else if c = 43 then a + b else if c = 45 then a - b else if c = 42 then a * b else if c = 47 then (if b = 0 then 0 else a / b) else if c = 37 then (if b = 0 then 0 else mm_rem a b) else 0
/-- names by their letters -/
def nw_w (nm : List Int32) (c : Int32) : Int32 := if c = 98 then nm.getD 5 0 else if c = 102 then nm.getD 4 0 else if c = 107 then nm.getD 3 0 else if c = 110 then nm.getD 0 0 else if c = 114 then nm.getD 2 0 else nm.getD 1 0
def na_w (c : Int32) : Prop := c = 98 ∨ c = 102 ∨ c = 107 ∨ c = 110 ∨ c = 114 ∨ c = 119
def bi_w (c : Int32) : Prop := c = 124 ∨ c = 38 ∨ c = 60 ∨ c = 61 ∨ c = 62 ∨ c = 43 ∨ c = 45 ∨ c = 42 ∨ c = 47 ∨ c = 37
/-- a step: what it does to a stack, the topmost first -/
def sx_w (nm : List Int32) (c : Int32) (S : List Int32) : List Int32 := if c = 98 ∨ c = 102 ∨ c = 107 ∨ c = 110 ∨ c = 114 ∨ c = 119 then nw_w nm c :: S else if c = 33 then (if S.headD 0 = 0 then (1 : Int32) else (0 : Int32)) :: S.tail else if c = 126 then (-(S.headD 0)) :: S.tail else if (1000 : Int32) ≤ c then (c - (1000 : Int32)) :: S else jn_w c (S.tail.headD 0) (S.headD 0) :: S.tail.tail
def xs_w (nm : List Int32) : List Int32 → List Int32 → List Int32
  | [], S => S
  | c :: cs, S => xs_w nm cs (sx_w nm c S)
theorem xs_a (nm : List Int32) : ∀ (a b S : List Int32), xs_w nm (a ++ b) S = xs_w nm b (xs_w nm a S) := by
  intro a
  induction a with
  | nil =>
    intro b S
    rfl
  | cons c a ih =>
    intro b S
    exact ih b (sx_w nm c S)
theorem sx_b {nm : List Int32} {c a b : Int32} {S : List Int32} (h : bi_w c) : sx_w nm c (b :: a :: S) = jn_w c a b :: S := by
  unfold sx_w
  rcases h with h | h | h | h | h | h | h | h | h | h <;> subst h <;> rfl
theorem sx_n {nm : List Int32} {c : Int32} {S : List Int32} (h : na_w c) : sx_w nm c S = nw_w nm c :: S := by
  unfold sx_w
  exact if_pos h
/-- the steps cs stand in D1 from dc on, all ahead of them as in D -/
def cs_w (dc : Nat) (D D1 cs : List Int32) : Prop := D1.length = 121 ∧ (∀ k : Nat, k < dc → D1.getD k 0 = D.getD k 0) ∧ ∀ i : Nat, i < cs.length → D1.getD (dc + i) 0 = cs.getD i 0
theorem cs_0 {dc : Nat} {D : List Int32} (h : D.length = 121) : cs_w dc D D [] := ⟨h, fun _ _ => rfl, fun i hi => absurd hi (by rw [List.length_nil]; omega)⟩
theorem cs_t {dc : Nat} {D D1 D2 a b : List Int32} (h1 : cs_w dc D D1 a) (h2 : cs_w (dc + a.length) D1 D2 b) : cs_w dc D D2 (a ++ b) := by
  refine ⟨h2.1, fun k hk => ?_, fun i hi => ?_⟩
  · rw [h2.2.1 k (by omega), h1.2.1 k hk]
  · rw [List.length_append] at hi
    by_cases g : i < a.length
    · rw [h2.2.1 (dc + i) (by omega), h1.2.2 i g, List.getD_eq_getElem?_getD, List.getD_eq_getElem?_getD, List.getElem?_append_left g]
    · have e : dc + i = dc + a.length + (i - a.length) := by omega
      rw [e, h2.2.2 (i - a.length) (by omega), List.getD_eq_getElem?_getD, List.getD_eq_getElem?_getD, List.getElem?_append_right (by omega)]
theorem no_e {c dc dc' : Int32} {D D' : List Int32} (h0 : 0 ≤ dc.toInt) (h1 : dc.toInt < 121) (hl : D.length = 121) (e : fX2_note 700 c dc D = some (dc', D')) : dc'.toInt = dc.toInt + 1 ∧ cs_w dc.toInt.toNat D D' [c] := by
  have n121 : (121 : Int32).toInt = 121 := by decide
  have n1 : (1 : Int32).toInt = 1 := by decide
  unfold fX2_note at e
  rw [if_neg (fun k => absurd (i_le k) (by omega))] at e
  have e := ck_x e
  rw [nm_eq, nm_eq] at e
  have e := sm_i e
  injection e with e1 e2
  subst e1
  subst e2
  refine ⟨i_addE rfl (by omega) (by omega), by rw [is_len]; exact hl, fun k hk => ?_, fun i hi => ?_⟩
  · rw [ge_is _ _ _ _ (by omega), if_neg (by omega)]
  · have : i = 0 := by
      rw [List.length_singleton] at hi
      omega
    subst this
    rw [Nat.add_zero, ge_is _ _ _ _ (by omega), if_pos rfl]
    rfl
/-- steps that are neither ; nor ? -/
def pu_w (cs : List Int32) : Prop := ∀ c ∈ cs, ¬ c = 59 ∧ ¬ c = 63
theorem pu_a {a b : List Int32} (h1 : pu_w a) (h2 : pu_w b) : pu_w (a ++ b) := fun c hc => by
  rcases List.mem_append.mp hc with h | h
  · exact h1 c h
  · exact h2 c h
theorem pu_1 {c : Int32} (h : ¬ c = 59 ∧ ¬ c = 63) : pu_w [c] := fun x hx => by
  rw [List.mem_singleton.mp hx]
  exact h
theorem pu_0 : pu_w [] := fun x hx => by cases hx
theorem bi_u {c : Int32} (h : bi_w c) : ¬ c = 59 ∧ ¬ c = 63 := by
  rcases h with h | h | h | h | h | h | h | h | h | h <;> subst h <;> decide
theorem na_u {c : Int32} (h : na_w c) : ¬ c = 59 ∧ ¬ c = 63 := by
  rcases h with h | h | h | h | h | h <;> subst h <;> decide
/-- some steps that read a part of the text: alike in class and reference -/
def pq_w (nm : List Int32) (I : List Int32 → List Int32) (n d dc p : Int32) (D : List Int32) (dc' p' f' : Int32) (D' : List Int32) (v a9 f9 o9 : Int32) : Prop := f9 = f' ∧ (0 ≤ f'.toInt ∨ (f' = -1 ∧ a9 = p' ∧ o9 = d ∧ p.toInt ≤ p'.toInt ∧ p'.toInt ≤ n.toInt ∧ ∃ cs : List Int32, cs_w dc.toInt.toNat D D' cs ∧ dc'.toInt = dc.toInt + cs.length ∧ (cs.length : Int) ≤ p'.toInt - p.toInt ∧ pu_w cs ∧ ∀ S : List Int32, xs_w nm cs (I S) = v :: S))
/-- where reading begins -/
def pb_w (n dc p : Int32) (D : List Int32) : Prop := 0 ≤ dc.toInt ∧ dc.toInt ≤ p.toInt ∧ p.toInt ≤ n.toInt ∧ n.toInt ≤ 120 ∧ D.length = 121
theorem pq_b {nm : List Int32} {I : List Int32 → List Int32} {n d dc p dc' p' f' v a9 f9 o9 : Int32} {D D' : List Int32} (b : pb_w n dc p D) (h : pq_w nm I n d dc p D dc' p' f' D' v a9 f9 o9) (hf : ¬ 0 ≤ f'.toInt) : pb_w n dc' p' D' := by
  obtain ⟨b1, b2, b3, b4, b5⟩ := b
  obtain ⟨-, h | ⟨-, -, -, h4, h5, cs, h6, h7, h8, -⟩⟩ := h
  · exact absurd h hf
  · exact ⟨by omega, by omega, h5, b4, h6.1⟩
/-- one part behind another -/
theorem pq_t {nm : List Int32} {I : List Int32 → List Int32} {n d dc p dc1 p1 f1 v1 a1 g1 o1 dc2 p2 f2 v2 a2 g2 o2 : Int32} {D D1 D2 : List Int32} (hd : 0 ≤ dc.toInt) (h1 : pq_w nm I n d dc p D dc1 p1 f1 D1 v1 a1 g1 o1) (hf : ¬ 0 ≤ f1.toInt) (h2 : pq_w nm (fun S => v1 :: S) n d dc1 p1 D1 dc2 p2 f2 D2 v2 a2 g2 o2) : pq_w nm I n d dc p D dc2 p2 f2 D2 v2 a2 g2 o2 := by
  obtain ⟨-, h1 | ⟨-, -, -, x4, x5, cs, x6, x7, x8, xp, x9⟩⟩ := h1
  · exact absurd h1 hf
  · obtain ⟨y1, h2 | ⟨y2, y3, y4, y5, y6, cs2, y7, y8, y9, yp, y10⟩⟩ := h2
    · exact ⟨y1, Or.inl h2⟩
    · refine ⟨y1, Or.inr ⟨y2, y3, y4, by omega, y6, cs ++ cs2, ?_, ?_, ?_, pu_a xp yp, fun S => ?_⟩⟩
      · refine cs_t x6 ?_
        have e : dc.toInt.toNat + cs.length = dc1.toInt.toNat := by omega
        rw [e]
        exact y7
      · rw [List.length_append]
        omega
      · rw [List.length_append]
        omega
      · rw [xs_a, x9]
        exact y10 S
/-- an operator, what follows it, its step -/
theorem pq_o {nm : List Int32} {n d dc p p1 dc1 p2 f1 v w a1 g1 o1 dc2 c : Int32} {D D1 D2 : List Int32} (hb : pb_w n dc p D) (hp : p1.toInt = p.toInt + 1) (h1 : pq_w nm id n d dc p1 D dc1 p2 f1 D1 w a1 g1 o1) (hf : ¬ 0 ≤ f1.toInt) (hc : bi_w c) (hn : fX2_note 700 c dc1 D1 = some (dc2, D2)) : pq_w nm (fun S => v :: S) n d dc p D dc2 p2 f1 D2 (jn_w c v w) a1 g1 o1 := by
  obtain ⟨b1, b2, b3, b4, b5⟩ := hb
  obtain ⟨x1, h1 | ⟨x2, x3, x3', x4, x5, cs, x6, x7, x8, xp, x9⟩⟩ := h1
  · exact absurd h1 hf
  · obtain ⟨y1, y2⟩ := no_e (by omega) (by omega) x6.1 hn
    refine ⟨x1, Or.inr ⟨x2, x3, x3', by omega, x5, cs ++ [c], ?_, ?_, ?_, pu_a xp (pu_1 (bi_u hc)), fun S => ?_⟩⟩
    · refine cs_t x6 ?_
      have e : dc.toInt.toNat + cs.length = dc1.toInt.toNat := by omega
      rw [e]
      exact y2
    · rw [List.length_append, List.length_singleton]
      omega
    · rw [List.length_append, List.length_singleton]
      omega
    · rw [xs_a]
      show xs_w nm [c] (xs_w nm cs (id (v :: S))) = _
      rw [x9]
      exact sx_b hc
theorem pq_s {nm : List Int32} {n d dc p v : Int32} {D : List Int32} (b : pb_w n dc p D) : pq_w nm (fun S => v :: S) n d dc p D dc p (-1) D v p (-1) d := ⟨rfl, Or.inr ⟨rfl, rfl, rfl, Int.le_refl _, b.2.2.1, [], cs_0 b.2.2.2.2, by rw [List.length_nil]; omega, by rw [List.length_nil]; omega, pu_0, fun _ => rfl⟩⟩
/-- the byte at a place, as the class reads it and as the reference does -/
def nb_8 (b : Nat → Int32) (n p : Int32) : Int32 := if n ≤ p then -1 else b p.toInt.toNat
def nb_9 (b : Nat → Int32) (n p : Int32) : Int32 := if n ≤ p then 0 else b p.toInt.toNat
theorem nx_e {n p r : Int32} {tape : List Int32} (e : fX2_next 700 n p tape = some r) : r = nb_8 (fun k => tape.getD k 0) n p := by
  unfold fX2_next at e
  unfold nb_8
  by_cases c : n ≤ p
  · rw [if_pos c] at e ⊢
    exact (sm_i e).symm
  · rw [if_neg c] at e ⊢
    exact (sm_i (ck_x e)).symm
theorem nb_c {b : Nat → Int32} {n p c : Int32} (h0 : ¬ c = 0) (h1 : ¬ c = -1) : (nb_9 b n p = c) ↔ (nb_8 b n p = c) := by
  unfold nb_8 nb_9
  by_cases g : n ≤ p
  · rw [if_pos g, if_pos g]
    exact ⟨fun h => absurd h.symm h0, fun h => absurd h.symm h1⟩
  · rw [if_neg g, if_neg g]
theorem nb_l {b : Nat → Int32} {n p c : Int32} (h1 : ¬ c = -1) (h : nb_8 b n p = c) : p.toInt < n.toInt := by
  unfold nb_8 at h
  by_cases g : n ≤ p
  · rw [if_pos g] at h
    exact absurd h.symm h1
  · exact i_nle g
theorem me_e {c n p f : Int32} {r : Bool} {tape : List Int32} (e : fX2_meets 700 c n p f tape = some r) : r = if 0 ≤ f.toInt then false else decide (nb_8 (fun k => tape.getD k 0) n p = c) := by
  have n0 : (0 : Int32).toInt = 0 := by decide
  unfold fX2_meets at e
  by_cases g : (0 : Int32) ≤ f
  · have d := i_le g
    rw [if_pos g] at e
    rw [if_pos (by omega)]
    exact (sm_i e).symm
  · have d := i_nle g
    rw [if_neg g] at e
    rw [if_neg (by omega)]
    obtain ⟨s, es, e⟩ := mm_bd1s e
    have hs := nx_e es
    rw [← hs]
    by_cases k : s = c
    · rw [if_pos k] at e
      rw [decide_eq_true k]
      exact (sm_i e).symm
    · rw [if_neg k] at e
      rw [decide_eq_false k]
      exact (sm_i e).symm
/-- the reference's bytes are b -/
def hb_w (b : Nat → Int32) (base n : Int32) (tape text : List Int32) : Prop := ∀ p r : Int32, 0 ≤ p.toInt → fX9_byteAt 700 base p n tape text = some r → r = nb_9 b n p
theorem tk_e {b : Nat → Int32} {base c n p f a : Int32} {r : Bool} {tape text : List Int32} (H : hb_w b base n tape text) (p0 : 0 ≤ p.toInt) (e : fX9_takes 700 c base p n f tape text = some (r, a)) : r = (if 0 ≤ f.toInt then false else decide (nb_9 b n p = c)) ∧ a = if r = true then p + (1 : Int32) else p := by
  have n0 : (0 : Int32).toInt = 0 := by decide
  unfold fX9_takes at e
  by_cases g : (0 : Int32) ≤ f
  · have d := i_le g
    rw [if_pos g] at e
    rw [if_pos (by omega)]
    apply mm_sub2 e
    exact ⟨rfl, rfl⟩
  · have d := i_nle g
    rw [if_neg g] at e
    rw [if_neg (by omega)]
    obtain ⟨s, es, e⟩ := mm_bd1s e
    have hs := H p s p0 es
    rw [← hs]
    by_cases k : s = c
    · rw [if_pos k, nm_eq] at e
      rw [decide_eq_true k]
      apply mm_sub2 e
      exact ⟨rfl, rfl⟩
    · rw [if_neg k] at e
      rw [decide_eq_false k]
      apply mm_sub2 e
      exact ⟨rfl, rfl⟩
end
section
/-! The law: products, sums -/
def rg_w (tape8 : List Int32) (base n : Int32) (tape text names : List Int32) (go8 : Int32 → Int32 → Int32 → Int32 → Int32 → List Int32 → List Int32 → Option (Int32 × Int32 × Int32 × List Int32)) (go9 : Int32 → Int32 → Int32 → Int32 → Int32 → List Int32 → List Int32 → List Int32 → Option (Int32 × Int32 × Int32 × Int32)) : Prop := ∀ (d dc p : Int32) (D : List Int32) (dc' p' f' : Int32) (D' : List Int32) (v a9 f9 o9 : Int32), 0 ≤ d.toInt → d.toInt ≤ 6 → pb_w n dc p D → go8 d n dc p (-1) tape8 D = some (dc', p', f', D') → go9 base p n (-1) d tape text names = some (v, a9, f9, o9) → pq_w names id n d dc p D dc' p' f' D' v a9 f9 o9
theorem m1_f : ¬ 0 ≤ (-1 : Int32).toInt := by decide
theorem pb_n {n dc p p1 : Int32} {D : List Int32} (b : pb_w n dc p D) (hp : p1.toInt = p.toInt + 1) (hl : p.toInt < n.toInt) : pb_w n dc p1 D := ⟨b.1, by have := b.2.1; omega, by omega, b.2.2.2.1, b.2.2.2.2⟩
theorem pd_f {go : Int32 → Int32 → Int32 → Int32 → Int32 → List Int32 → List Int32 → Option (Int32 × Int32 × Int32 × List Int32)} {d n : Int32} {tape8 : List Int32} {m : Nat} {i dc p f dc' p' f' : Int32} {D D' : List Int32} (hf : 0 ≤ f.toInt) (e : fX2_readProduct_7 700 go m d i n dc p f tape8 D = some (dc', p', f', D')) : f' = f := by
  cases m with
  | zero => exact absurd e (by intro h; cases h)
  | succ m =>
    rw [uf_X2_readProduct_7] at e
    by_cases c : (120 : Int32) ≤ i
    · rw [if_pos c] at e
      apply mm_sub4 e
      rfl
    · rw [if_neg c] at e
      obtain ⟨r1, m1, e⟩ := mm_bd1s e
      have h1 := me_e m1
      rw [if_pos hf] at h1
      rw [if_pos h1] at e
      obtain ⟨r2, m2, e⟩ := mm_bd1s e
      have h2 := me_e m2
      rw [if_pos hf] at h2
      rw [if_pos h2] at e
      obtain ⟨r3, m3, e⟩ := mm_bd1s e
      have h3 := me_e m3
      rw [if_pos hf] at h3
      rw [if_pos h3] at e
      apply mm_sub4 e
      rfl
theorem pd_g {go : Int32 → Int32 → Int32 → Int32 → Int32 → List Int32 → List Int32 → List Int32 → Option (Int32 × Int32 × Int32 × Int32)} {base at_ n f d v x2 v' a9 f9 o9 : Int32} {tape text names : List Int32} {m : Nat} (hf : 0 ≤ f.toInt) (e : fX9_product_85 700 go (fX9_product_10 700 go m) v base at_ n f d tape text names = some (v', a9, f9, o9)) : f9 = f := by
  have n0 : (0 : Int32).toInt = 0 := by decide
  rw [uf_X9_product_85] at e
  obtain ⟨r, -, e⟩ := mm_bd1s e
  cases m with
  | zero => exact absurd e (by intro h; cases h)
  | succ m =>
    rw [uf_X9_product_10, if_pos (Int32.le_iff_toInt_le.mpr (by omega))] at e
    apply mm_sub4 e
    rfl
theorem pd_7 {go8 : Int32 → Int32 → Int32 → Int32 → Int32 → List Int32 → List Int32 → Option (Int32 × Int32 × Int32 × List Int32)} {go9 : Int32 → Int32 → Int32 → Int32 → Int32 → List Int32 → List Int32 → List Int32 → Option (Int32 × Int32 × Int32 × Int32)} {tape8 : List Int32} {base n d : Int32} {tape text names : List Int32} (HB : hb_w (fun k => tape8.getD k 0) base n tape text) (RG : rg_w tape8 base n tape text names go8 go9) (d0 : 0 ≤ d.toInt) (d6 : d.toInt ≤ 6) : ∀ (m m' : Nat) (i dc p : Int32) (D : List Int32) (v x2 dc' p' f' : Int32) (D' : List Int32) (v' a9 f9 o9 : Int32), pb_w n dc p D → 0 ≤ i.toInt → i.toInt ≤ p.toInt → x2 = nb_9 (fun k => tape8.getD k 0) n p → fX2_readProduct_7 700 go8 m d i n dc p (-1) tape8 D = some (dc', p', f', D') → fX9_product_10 700 go9 m' v x2 base p n (-1) d tape text names = some (v', a9, f9, o9) → pq_w names (fun S => v :: S) n d dc p D dc' p' f' D' v' a9 f9 o9 := by
  have n1 : (1 : Int32).toInt = 1 := by decide
  have n120 : (120 : Int32).toInt = 120 := by decide
  intro m
  induction m with
  | zero =>
    intro m' i dc p D v x2 dc' p' f' D' v' a9 f9 o9 hb i0 i1 hx e8
    exact absurd e8 (by intro h; cases h)
  | succ m ih =>
    intro m' i dc p D v x2 dc' p' f' D' v' a9 f9 o9 hb i0 i1 hx e8 e9
    cases m' with
    | zero => exact absurd e9 (by intro h; cases h)
    | succ m' =>
      obtain ⟨b1, b2, b3, b4, b5⟩ := id hb
      rw [uf_X2_readProduct_7] at e8
      rw [uf_X9_product_10, if_neg (by decide)] at e9
      have K : ∀ c : Int32, (c = 42 ∨ c = 47 ∨ c = 37) → nb_8 (fun k => tape8.getD k 0) n p = c → fX2_readProduct_40 700 go8 (fX2_readProduct_7 700 go8 m) d i n dc p (-1) tape8 D = some (dc', p', f', D') → fX9_product_35 700 go9 (fX9_product_10 700 go9 m') v c base p n (-1) d tape text names = some (v', a9, f9, o9) → pq_w names (fun S => v :: S) n d dc p D dc' p' f' D' v' a9 f9 o9 := by
        intro c hc hby e8 e9
        have hc1 : ¬ c = -1 := by rcases hc with h | h | h <;> rw [h] <;> decide
        have hcb : bi_w c := by
          unfold bi_w
          rcases hc with h | h | h
          · exact Or.inr (Or.inr (Or.inr (Or.inr (Or.inr (Or.inr (Or.inr (Or.inl h)))))))
          · exact Or.inr (Or.inr (Or.inr (Or.inr (Or.inr (Or.inr (Or.inr (Or.inr (Or.inl h))))))))
          · exact Or.inr (Or.inr (Or.inr (Or.inr (Or.inr (Or.inr (Or.inr (Or.inr (Or.inr h))))))))
        have hlt := nb_l hc1 hby
        rw [uf_X2_readProduct_40] at e8
        obtain ⟨r16, n16, e8⟩ := mm_bd1s e8
        have h16 := nx_e n16
        rw [hby] at h16
        subst h16
        rw [nm_eq] at e8
        rw [uf_X9_product_35, nm_eq] at e9
        generalize hy : p + (1 : Int32) = p1 at e8 e9
        have ey := i_addE hy (by omega) (by omega)
        obtain ⟨dc1, p2, f1, D1, eg8, e8⟩ := mm_bd4s e8
        obtain ⟨dc2, D2, en, e8⟩ := mm_bd2s e8
        rw [nm_eq] at e8
        obtain ⟨w, a1, g1, o1, eg9, e10⟩ := mm_bd4s e9
        clear e9
        have e9 := e10
        clear e10
        have q := RG d dc p1 D dc1 p2 f1 D1 w a1 g1 o1 d0 d6 (pb_n hb (by omega) hlt) eg8 eg9
        have e9' : fX9_product_85 700 go9 (fX9_product_10 700 go9 m') (jn_w r16 v w) base a1 n g1 o1 tape text names = some (v', a9, f9, o9) := by
          rcases hc with h | h | h
          · rw [if_pos h] at e9
            subst h
            exact e9
          · rw [if_neg (by rw [h]; decide)] at e9
            subst h
            by_cases hw : w = 0
            · rw [if_pos hw] at e9
              have : jn_w 47 v w = 0 := by
                unfold jn_w
                rw [if_neg (by decide), if_neg (by decide), if_neg (by decide), if_neg (by decide), if_neg (by decide), if_neg (by decide), if_neg (by decide), if_neg (by decide), if_pos rfl, if_pos hw]
              rw [this]
              exact e9
            · rw [if_neg hw, if_pos rfl] at e9
              have : jn_w 47 v w = v / w := by
                unfold jn_w
                rw [if_neg (by decide), if_neg (by decide), if_neg (by decide), if_neg (by decide), if_neg (by decide), if_neg (by decide), if_neg (by decide), if_neg (by decide), if_pos rfl, if_neg hw]
              rw [this]
              exact ck_x e9
          · rw [if_neg (by rw [h]; decide)] at e9
            subst h
            by_cases hw : w = 0
            · rw [if_pos hw] at e9
              have : jn_w 37 v w = 0 := by
                unfold jn_w
                rw [if_neg (by decide), if_neg (by decide), if_neg (by decide), if_neg (by decide), if_neg (by decide), if_neg (by decide), if_neg (by decide), if_neg (by decide), if_neg (by decide), if_pos rfl, if_pos hw]
              rw [this]
              exact e9
            · rw [if_neg hw, if_neg (by decide)] at e9
              have : jn_w 37 v w = mm_rem v w := by
                unfold jn_w
                rw [if_neg (by decide), if_neg (by decide), if_neg (by decide), if_neg (by decide), if_neg (by decide), if_neg (by decide), if_neg (by decide), if_neg (by decide), if_neg (by decide), if_pos rfl, if_neg hw]
              rw [this]
              exact ck_x e9
        by_cases hf : 0 ≤ f1.toInt
        · have q8 := pd_f hf e8
          have q9 := pd_g (x2 := 0) (by rw [q.1]; exact hf) e9'
          exact ⟨by rw [q8, q9]; exact q.1, Or.inl (by rw [q8]; exact hf)⟩
        · have st := pq_o (v := v) hb (by omega) q hf hcb en
          have qb := pq_b hb st hf
          obtain ⟨z1, z2 | ⟨z2, z3, z4, z5, z6, -⟩⟩ := q
          · exact absurd z2 hf
          · rw [z1, z2] at e9'
            rw [z2] at e8 st
            rw [z3, z4] at e9'
            rw [uf_X9_product_85] at e9'
            obtain ⟨r23, n23, e9'⟩ := mm_bd1s e9'
            have h23 := HB p2 r23 (by omega) n23
            generalize hj : i + (1 : Int32) = j at e8
            have ej := i_addE hj (by omega) (by omega)
            have IH := ih m' j dc2 p2 D2 (jn_w r16 v w) r23 dc' p' f' D' v' a9 f9 o9 qb (by omega) (by omega) h23 e8 e9'
            exact pq_t b1 st m1_f IH
      by_cases c0 : (120 : Int32) ≤ i
      · have d0' := i_le c0
        rw [if_pos c0] at e8
        have hx0 : x2 = 0 := by
          rw [hx]
          unfold nb_9
          rw [if_pos (Int32.le_iff_toInt_le.mpr (by omega))]
        rw [hx0, if_neg (by decide), if_neg (by decide), if_neg (by decide)] at e9
        apply mm_sub4 e8
        apply mm_sub4 e9
        exact pq_s hb
      · rw [if_neg c0] at e8
        obtain ⟨r1, m1, e8⟩ := mm_bd1s e8
        have h1 := me_e m1
        rw [if_neg m1_f] at h1
        by_cases k1 : nb_8 (fun k => tape8.getD k 0) n p = 42
        · rw [decide_eq_true k1] at h1
          rw [if_neg (by rw [h1]; decide)] at e8
          have hx1 : x2 = 42 := by rw [hx]; exact (nb_c (by decide) (by decide)).mpr k1
          rw [if_pos hx1, hx1] at e9
          exact K 42 (Or.inl rfl) k1 e8 e9
        · rw [decide_eq_false k1] at h1
          have hx1 : ¬ x2 = 42 := fun h => k1 ((nb_c (by decide) (by decide)).mp (by rw [← hx]; exact h))
          rw [if_pos h1] at e8
          rw [if_neg hx1] at e9
          obtain ⟨r2, m2, e8⟩ := mm_bd1s e8
          have h2 := me_e m2
          rw [if_neg m1_f] at h2
          by_cases k2 : nb_8 (fun k => tape8.getD k 0) n p = 47
          · rw [decide_eq_true k2] at h2
            rw [if_neg (by rw [h2]; decide)] at e8
            have hx2 : x2 = 47 := by rw [hx]; exact (nb_c (by decide) (by decide)).mpr k2
            rw [if_pos hx2, hx2] at e9
            exact K 47 (Or.inr (Or.inl rfl)) k2 e8 e9
          · rw [decide_eq_false k2] at h2
            have hx2 : ¬ x2 = 47 := fun h => k2 ((nb_c (by decide) (by decide)).mp (by rw [← hx]; exact h))
            rw [if_pos h2] at e8
            rw [if_neg hx2] at e9
            obtain ⟨r3, m3, e8⟩ := mm_bd1s e8
            have h3 := me_e m3
            rw [if_neg m1_f] at h3
            by_cases k3 : nb_8 (fun k => tape8.getD k 0) n p = 37
            · rw [decide_eq_true k3] at h3
              rw [if_neg (by rw [h3]; decide)] at e8
              have hx3 : x2 = 37 := by rw [hx]; exact (nb_c (by decide) (by decide)).mpr k3
              rw [if_pos hx3, hx3] at e9
              exact K 37 (Or.inr (Or.inr rfl)) k3 e8 e9
            · rw [decide_eq_false k3] at h3
              have hx3 : ¬ x2 = 37 := fun h => k3 ((nb_c (by decide) (by decide)).mp (by rw [← hx]; exact h))
              rw [if_pos h3] at e8
              rw [if_neg hx3] at e9
              apply mm_sub4 e8
              apply mm_sub4 e9
              exact pq_s hb
theorem pd_r {go8 : Int32 → Int32 → Int32 → Int32 → Int32 → List Int32 → List Int32 → Option (Int32 × Int32 × Int32 × List Int32)} {go9 : Int32 → Int32 → Int32 → Int32 → Int32 → List Int32 → List Int32 → List Int32 → Option (Int32 × Int32 × Int32 × Int32)} {tape8 : List Int32} {base n : Int32} {tape text names : List Int32} (HB : hb_w (fun k => tape8.getD k 0) base n tape text) (RG : rg_w tape8 base n tape text names go8 go9) : rg_w tape8 base n tape text names (fX2_readProduct 700 go8) (fX9_product 700 go9) := by
  intro d dc p D dc' p' f' D' v a9 f9 o9 d0 d6 hb e8 e9
  have n0 : (0 : Int32).toInt = 0 := by decide
  obtain ⟨b1, b2, b3, b4, b5⟩ := id hb
  unfold fX2_readProduct at e8
  unfold fX9_product at e9
  obtain ⟨dc1, p1, f1, D1, eg8, e8⟩ := mm_bd4s e8
  obtain ⟨w, a1, g1, o1, eg9, e9⟩ := mm_bd4s e9
  have q := RG d dc p D dc1 p1 f1 D1 w a1 g1 o1 d0 d6 hb eg8 eg9
  obtain ⟨r6, n6, e9⟩ := mm_bd1s e9
  by_cases hf : 0 ≤ f1.toInt
  · have q8 := pd_f hf e8
    have q9 : f9 = g1 := by
      rw [show (700 : Nat) = 699 + 1 from rfl, uf_X9_product_10, if_pos (Int32.le_iff_toInt_le.mpr (by rw [q.1]; omega))] at e9
      apply mm_sub4 e9
      rfl
    exact ⟨by rw [q8, q9]; exact q.1, Or.inl (by rw [q8]; exact hf)⟩
  · have qb := pq_b hb q hf
    have q' := q
    obtain ⟨z1, z2 | ⟨z2, z3, z4, z5, z6, -⟩⟩ := q'
    · exact absurd z2 hf
    · rw [z1, z2, z3, z4] at e9
      rw [z3] at n6
      rw [z2] at e8 q
      have h6 := HB p1 r6 (by omega) n6
      exact pq_t b1 q m1_f (pd_7 HB RG d0 d6 700 700 (0 : Int32) dc1 p1 D1 w r6 dc' p' f' D' v a9 f9 o9 qb (by omega) (by omega) h6 e8 e9)
end
section
/-! The law: sums, comparisons, both, either -/
theorem su_f {go : Int32 → Int32 → Int32 → Int32 → Int32 → List Int32 → List Int32 → Option (Int32 × Int32 × Int32 × List Int32)} {d n : Int32} {tape8 : List Int32} {m : Nat} {i dc p f dc' p' f' : Int32} {D D' : List Int32} (hf : 0 ≤ f.toInt) (e : fX2_readSum_7 700 go m d i n dc p f tape8 D = some (dc', p', f', D')) : f' = f := by
  cases m with
  | zero => exact absurd e (by intro h; cases h)
  | succ m =>
    rw [uf_X2_readSum_7] at e
    by_cases c : (120 : Int32) ≤ i
    · rw [if_pos c] at e
      apply mm_sub4 e
      rfl
    · rw [if_neg c] at e
      obtain ⟨r1, m1, e⟩ := mm_bd1s e
      have h1 := me_e m1
      rw [if_pos hf] at h1
      rw [if_pos h1] at e
      obtain ⟨r2, m2, e⟩ := mm_bd1s e
      have h2 := me_e m2
      rw [if_pos hf] at h2
      rw [if_pos h2] at e
      apply mm_sub4 e
      rfl
theorem su_g {go : Int32 → Int32 → Int32 → Int32 → Int32 → List Int32 → List Int32 → List Int32 → Option (Int32 × Int32 × Int32 × Int32)} {base at_ n f d v v' a9 f9 o9 : Int32} {tape text names : List Int32} {m : Nat} (hf : 0 ≤ f.toInt) (e : fX9_sums_5 700 go m v base at_ n f d tape text names = some (v', a9, f9, o9)) : f9 = f := by
  have n0 : (0 : Int32).toInt = 0 := by decide
  cases m with
  | zero => exact absurd e (by intro h; cases h)
  | succ m =>
    rw [uf_X9_sums_5, if_pos (Int32.le_iff_toInt_le.mpr (by omega))] at e
    apply mm_sub4 e
    rfl
theorem su_7 {go8 : Int32 → Int32 → Int32 → Int32 → Int32 → List Int32 → List Int32 → Option (Int32 × Int32 × Int32 × List Int32)} {go9 : Int32 → Int32 → Int32 → Int32 → Int32 → List Int32 → List Int32 → List Int32 → Option (Int32 × Int32 × Int32 × Int32)} {tape8 : List Int32} {base n d : Int32} {tape text names : List Int32} (HB : hb_w (fun k => tape8.getD k 0) base n tape text) (RG : rg_w tape8 base n tape text names (fX2_readProduct 700 go8) (fX9_product 700 go9)) (d0 : 0 ≤ d.toInt) (d6 : d.toInt ≤ 6) : ∀ (m m' : Nat) (i dc p : Int32) (D : List Int32) (v dc' p' f' : Int32) (D' : List Int32) (v' a9 f9 o9 : Int32), pb_w n dc p D → 0 ≤ i.toInt → i.toInt ≤ p.toInt → fX2_readSum_7 700 go8 m d i n dc p (-1) tape8 D = some (dc', p', f', D') → fX9_sums_5 700 go9 m' v base p n (-1) d tape text names = some (v', a9, f9, o9) → pq_w names (fun S => v :: S) n d dc p D dc' p' f' D' v' a9 f9 o9 := by
  have n1 : (1 : Int32).toInt = 1 := by decide
  have n120 : (120 : Int32).toInt = 120 := by decide
  intro m
  induction m with
  | zero =>
    intro m' i dc p D v dc' p' f' D' v' a9 f9 o9 hb i0 i1 e8
    exact absurd e8 (by intro h; cases h)
  | succ m ih =>
    intro m' i dc p D v dc' p' f' D' v' a9 f9 o9 hb i0 i1 e8 e9
    cases m' with
    | zero => exact absurd e9 (by intro h; cases h)
    | succ m' =>
      obtain ⟨b1, b2, b3, b4, b5⟩ := id hb
      rw [uf_X2_readSum_7] at e8
      rw [uf_X9_sums_5, if_neg (by decide)] at e9
      obtain ⟨x7, n7, e9⟩ := mm_bd1s e9
      have hx := HB p x7 (by omega) n7
      have K : ∀ c : Int32, (c = 43 ∨ c = 45) → nb_8 (fun k => tape8.getD k 0) n p = c → fX2_readSum_31 700 go8 (fX2_readSum_7 700 go8 m) d i n dc p (-1) tape8 D = some (dc', p', f', D') → fX9_sums_30 700 go9 (fX9_sums_5 700 go9 m') v base p n (-1) d tape text names = some (v', a9, f9, o9) → pq_w names (fun S => v :: S) n d dc p D dc' p' f' D' v' a9 f9 o9 := by
        intro c hc hby e8 e9
        have hc1 : ¬ c = -1 := by rcases hc with h | h <;> rw [h] <;> decide
        have hc0 : ¬ c = 0 := by rcases hc with h | h <;> rw [h] <;> decide
        have hcb : bi_w c := by
          unfold bi_w
          rcases hc with h | h
          · exact Or.inr (Or.inr (Or.inr (Or.inr (Or.inr (Or.inl h)))))
          · exact Or.inr (Or.inr (Or.inr (Or.inr (Or.inr (Or.inr (Or.inl h))))))
        have hlt := nb_l hc1 hby
        have hb9 := (nb_c hc0 hc1).mpr hby
        rw [uf_X2_readSum_31] at e8
        obtain ⟨r16, n16, e8⟩ := mm_bd1s e8
        have h16 := nx_e n16
        rw [hby] at h16
        subst h16
        rw [nm_eq] at e8
        rw [uf_X9_sums_30] at e9
        obtain ⟨x13, n13, e9⟩ := mm_bd1s e9
        have h13 := HB p x13 (by omega) n13
        rw [hb9] at h13
        have e9a : fX9_sums_44 700 go9 (fX9_sums_5 700 go9 m') v (if r16 = 43 then (1 : Int32) else (0 : Int32)) base p n (-1) d tape text names = some (v', a9, f9, o9) := by
          rw [h13] at e9
          by_cases h : r16 = 43
          · rw [if_pos h] at e9 ⊢
            exact e9
          · rw [if_neg h] at e9 ⊢
            exact e9
        rw [uf_X9_sums_44, nm_eq] at e9a
        generalize hy : p + (1 : Int32) = p1 at e8 e9a
        have ey := i_addE hy (by omega) (by omega)
        obtain ⟨dc1, p2, f1, D1, eg8, e8⟩ := mm_bd4s e8
        obtain ⟨dc2, D2, en, e8⟩ := mm_bd2s e8
        rw [nm_eq] at e8
        obtain ⟨w, a1, g1, o1, eg9, e9b⟩ := mm_bd4s e9a
        have q := RG d dc p1 D dc1 p2 f1 D1 w a1 g1 o1 d0 d6 (pb_n hb (by omega) hlt) eg8 eg9
        have e9' : fX9_sums_5 700 go9 m' (jn_w r16 v w) base a1 n g1 o1 tape text names = some (v', a9, f9, o9) := by
          rcases hc with h | h
          · rw [if_pos h, if_neg (by decide), uf_X9_sums_73] at e9b
            rw [h]
            exact e9b
          · rw [if_neg (show ¬ r16 = 43 by rw [h]; decide), if_pos rfl, uf_X9_sums_73] at e9b
            rw [h]
            exact e9b
        by_cases hf : 0 ≤ f1.toInt
        · have q8 := su_f hf e8
          have q9 := su_g (by rw [q.1]; exact hf) e9'
          exact ⟨by rw [q8, q9]; exact q.1, Or.inl (by rw [q8]; exact hf)⟩
        · have st := pq_o (v := v) hb (by omega) q hf hcb en
          have qb := pq_b hb st hf
          obtain ⟨z1, z2 | ⟨z2, z3, z4, z5, z6, -⟩⟩ := q
          · exact absurd z2 hf
          · rw [z1, z2] at e9'
            rw [z2] at e8 st
            rw [z3, z4] at e9'
            generalize hj : i + (1 : Int32) = j at e8
            have ej := i_addE hj (by omega) (by omega)
            have IH := ih m' j dc2 p2 D2 (jn_w r16 v w) dc' p' f' D' v' a9 f9 o9 qb (by omega) (by omega) e8 e9'
            exact pq_t b1 st m1_f IH
      have T : ¬ x7 = 43 → (if x7 = 43 then fX9_sums_30 700 go9 (fX9_sums_5 700 go9 m') v base p n (-1) d tape text names else mm_bd1 (fX9_byteAt 700 base p n tape text) (fun (r_10 : Int32) => if r_10 = 45 then fX9_sums_30 700 go9 (fX9_sums_5 700 go9 m') v base p n (-1) d tape text names else some (v, p, (-1 : Int32), d))) = some (v', a9, f9, o9) → (if x7 = 45 then fX9_sums_30 700 go9 (fX9_sums_5 700 go9 m') v base p n (-1) d tape text names else some (v, p, (-1 : Int32), d)) = some (v', a9, f9, o9) := by
        intro h e
        rw [if_neg h] at e
        obtain ⟨x10, n10, e⟩ := mm_bd1s e
        have h10 := HB p x10 (by omega) n10
        rw [← hx] at h10
        rw [h10] at e
        exact e
      by_cases c0 : (120 : Int32) ≤ i
      · have d0' := i_le c0
        rw [if_pos c0] at e8
        have hx0 : x7 = 0 := by
          rw [hx]
          unfold nb_9
          rw [if_pos (Int32.le_iff_toInt_le.mpr (by omega))]
        have e9 := T (by rw [hx0]; decide) e9
        rw [if_neg (by rw [hx0]; decide)] at e9
        apply mm_sub4 e8
        apply mm_sub4 e9
        exact pq_s hb
      · rw [if_neg c0] at e8
        obtain ⟨r1, m1, e8⟩ := mm_bd1s e8
        have h1 := me_e m1
        rw [if_neg m1_f] at h1
        by_cases k1 : nb_8 (fun k => tape8.getD k 0) n p = 43
        · rw [decide_eq_true k1] at h1
          rw [if_neg (by rw [h1]; decide)] at e8
          have hx1 : x7 = 43 := by rw [hx]; exact (nb_c (by decide) (by decide)).mpr k1
          rw [if_pos hx1] at e9
          exact K 43 (Or.inl rfl) k1 e8 e9
        · rw [decide_eq_false k1] at h1
          have hx1 : ¬ x7 = 43 := fun h => k1 ((nb_c (by decide) (by decide)).mp (by rw [← hx]; exact h))
          rw [if_pos h1] at e8
          have e9 := T hx1 e9
          obtain ⟨r2, m2, e8⟩ := mm_bd1s e8
          have h2 := me_e m2
          rw [if_neg m1_f] at h2
          by_cases k2 : nb_8 (fun k => tape8.getD k 0) n p = 45
          · rw [decide_eq_true k2] at h2
            rw [if_neg (by rw [h2]; decide)] at e8
            have hx2 : x7 = 45 := by rw [hx]; exact (nb_c (by decide) (by decide)).mpr k2
            rw [if_pos hx2] at e9
            exact K 45 (Or.inr rfl) k2 e8 e9
          · rw [decide_eq_false k2] at h2
            have hx2 : ¬ x7 = 45 := fun h => k2 ((nb_c (by decide) (by decide)).mp (by rw [← hx]; exact h))
            rw [if_pos h2] at e8
            rw [if_neg hx2] at e9
            apply mm_sub4 e8
            apply mm_sub4 e9
            exact pq_s hb
theorem su_r {go8 : Int32 → Int32 → Int32 → Int32 → Int32 → List Int32 → List Int32 → Option (Int32 × Int32 × Int32 × List Int32)} {go9 : Int32 → Int32 → Int32 → Int32 → Int32 → List Int32 → List Int32 → List Int32 → Option (Int32 × Int32 × Int32 × Int32)} {tape8 : List Int32} {base n : Int32} {tape text names : List Int32} (HB : hb_w (fun k => tape8.getD k 0) base n tape text) (RG : rg_w tape8 base n tape text names (fX2_readProduct 700 go8) (fX9_product 700 go9)) : rg_w tape8 base n tape text names (fX2_readSum 700 go8) (fX9_sums 700 go9) := by
  intro d dc p D dc' p' f' D' v a9 f9 o9 d0 d6 hb e8 e9
  have n0 : (0 : Int32).toInt = 0 := by decide
  obtain ⟨b1, b2, b3, b4, b5⟩ := id hb
  unfold fX2_readSum at e8
  unfold fX9_sums at e9
  obtain ⟨dc1, p1, f1, D1, eg8, e8⟩ := mm_bd4s e8
  obtain ⟨w, a1, g1, o1, eg9, e9⟩ := mm_bd4s e9
  have q := RG d dc p D dc1 p1 f1 D1 w a1 g1 o1 d0 d6 hb eg8 eg9
  by_cases hf : 0 ≤ f1.toInt
  · have q8 := su_f hf e8
    have q9 := su_g (by rw [q.1]; exact hf) e9
    exact ⟨by rw [q8, q9]; exact q.1, Or.inl (by rw [q8]; exact hf)⟩
  · have qb := pq_b hb q hf
    have q' := q
    obtain ⟨z1, z2 | ⟨z2, z3, z4, z5, z6, -⟩⟩ := q'
    · exact absurd z2 hf
    · rw [z1, z2, z3, z4] at e9
      rw [z2] at e8 q
      exact pq_t b1 q m1_f (su_7 HB RG d0 d6 700 700 (0 : Int32) dc1 p1 D1 w dc' p' f' D' v a9 f9 o9 qb (by omega) (by omega) e8 e9)
theorem cm_r {go8 : Int32 → Int32 → Int32 → Int32 → Int32 → List Int32 → List Int32 → Option (Int32 × Int32 × Int32 × List Int32)} {go9 : Int32 → Int32 → Int32 → Int32 → Int32 → List Int32 → List Int32 → List Int32 → Option (Int32 × Int32 × Int32 × Int32)} {tape8 : List Int32} {base n : Int32} {tape text names : List Int32} (HB : hb_w (fun k => tape8.getD k 0) base n tape text) (RG : rg_w tape8 base n tape text names (fX2_readSum 700 go8) (fX9_sums 700 go9)) : rg_w tape8 base n tape text names (fX2_readCompared 700 go8) (fX9_compared 700 go9) := by
  intro d dc p D dc' p' f' D' v a9 f9 o9 d0 d6 hb e8 e9
  have n0 : (0 : Int32).toInt = 0 := by decide
  have n1 : (1 : Int32).toInt = 1 := by decide
  obtain ⟨b1, b2, b3, b4, b5⟩ := id hb
  unfold fX2_readCompared at e8
  unfold fX9_compared at e9
  obtain ⟨dc1, p1, f1, D1, eg8, e8⟩ := mm_bd4s e8
  obtain ⟨w, a1, g1, o1, eg9, e9⟩ := mm_bd4s e9
  have q := RG d dc p D dc1 p1 f1 D1 w a1 g1 o1 d0 d6 hb eg8 eg9
  obtain ⟨x6, n6, e9⟩ := mm_bd1s e9
  by_cases hf : 0 ≤ f1.toInt
  · rw [if_pos (Int32.le_iff_toInt_le.mpr (by rw [q.1]; omega))] at e9
    obtain ⟨r1, m1, e8⟩ := mm_bd1s e8
    have h1 := me_e m1
    rw [if_pos hf] at h1
    rw [if_pos h1] at e8
    obtain ⟨r2, m2, e8⟩ := mm_bd1s e8
    have h2 := me_e m2
    rw [if_pos hf] at h2
    rw [if_pos h2] at e8
    obtain ⟨r3, m3, e8⟩ := mm_bd1s e8
    have h3 := me_e m3
    rw [if_pos hf] at h3
    rw [if_pos h3] at e8
    apply mm_sub4 e8
    apply mm_sub4 e9
    exact ⟨q.1, Or.inl hf⟩
  · have qb := pq_b hb q hf
    have q' := q
    obtain ⟨z1, z2 | ⟨z2, z3, z4, z5, z6, -⟩⟩ := q'
    · exact absurd z2 hf
    · rw [z1, z2, z3, z4, if_neg (by decide)] at e9
      rw [z3] at n6
      rw [z2] at e8 q
      have hx := HB p1 x6 (by omega) n6
      have K : ∀ c : Int32, (c = 60 ∨ c = 61 ∨ c = 62) → nb_8 (fun k => tape8.getD k 0) n p1 = c → fX2_readCompared_32 700 go8 d n dc1 p1 (-1) tape8 D1 = some (dc', p', f', D') → fX9_compared_37 700 go9 w c base p1 n (-1) d tape text names = some (v, a9, f9, o9) → pq_w names (fun S => w :: S) n d dc1 p1 D1 dc' p' f' D' v a9 f9 o9 := by
        intro c hc hby e8 e9
        have hc1 : ¬ c = -1 := by rcases hc with h | h | h <;> rw [h] <;> decide
        have hcb : bi_w c := by
          unfold bi_w
          rcases hc with h | h | h
          · exact Or.inr (Or.inr (Or.inl h))
          · exact Or.inr (Or.inr (Or.inr (Or.inl h)))
          · exact Or.inr (Or.inr (Or.inr (Or.inr (Or.inl h))))
        have hlt := nb_l hc1 hby
        obtain ⟨c1, c2, c3, c4, c5⟩ := id qb
        rw [uf_X2_readCompared_32] at e8
        obtain ⟨r16, n16, e8⟩ := mm_bd1s e8
        have h16 := nx_e n16
        rw [hby] at h16
        subst h16
        rw [nm_eq] at e8
        rw [uf_X9_compared_37, nm_eq] at e9
        generalize hy : p1 + (1 : Int32) = p2 at e8 e9
        have ey := i_addE hy (by omega) (by omega)
        obtain ⟨dc3, p3, f3, D3, eg8', e8⟩ := mm_bd4s e8
        obtain ⟨dc4, D4, en, e8⟩ := mm_bd2s e8
        obtain ⟨u, a3, g3, o3, eg9', e9⟩ := mm_bd4s e9
        have q3 := RG d dc1 p2 D1 dc3 p3 f3 D3 u a3 g3 o3 d0 d6 (pb_n qb (by omega) hlt) eg8' eg9'
        have e9' : some (jn_w r16 w u, a3, g3, o3) = some (v, a9, f9, o9) := by
          rcases hc with h | h | h
          · rw [if_pos h] at e9
            rw [h]
            by_cases k : u ≤ w
            · rw [if_pos k] at e9
              have : jn_w 60 w u = 0 := by
                unfold jn_w
                rw [if_neg (by decide), if_neg (by decide), if_pos rfl, if_pos k]
              rw [this]
              exact e9
            · rw [if_neg k] at e9
              have : jn_w 60 w u = 1 := by
                unfold jn_w
                rw [if_neg (by decide), if_neg (by decide), if_pos rfl, if_neg k]
              rw [this]
              exact e9
          · rw [if_neg (show ¬ r16 = 60 by rw [h]; decide), if_pos h] at e9
            rw [h]
            by_cases k : w = u
            · rw [if_pos k] at e9
              have : jn_w 61 w u = 1 := by
                unfold jn_w
                rw [if_neg (by decide), if_neg (by decide), if_neg (by decide), if_pos rfl, if_pos k]
              rw [this]
              exact e9
            · rw [if_neg k] at e9
              have : jn_w 61 w u = 0 := by
                unfold jn_w
                rw [if_neg (by decide), if_neg (by decide), if_neg (by decide), if_pos rfl, if_neg k]
              rw [this]
              exact e9
          · rw [if_neg (show ¬ r16 = 60 by rw [h]; decide), if_neg (show ¬ r16 = 61 by rw [h]; decide)] at e9
            rw [h]
            by_cases k : w ≤ u
            · rw [if_pos k] at e9
              have : jn_w 62 w u = 0 := by
                unfold jn_w
                rw [if_neg (by decide), if_neg (by decide), if_neg (by decide), if_neg (by decide), if_pos rfl, if_pos k]
              rw [this]
              exact e9
            · rw [if_neg k] at e9
              have : jn_w 62 w u = 1 := by
                unfold jn_w
                rw [if_neg (by decide), if_neg (by decide), if_neg (by decide), if_neg (by decide), if_pos rfl, if_neg k]
              rw [this]
              exact e9
        apply mm_sub4 e8
        apply mm_sub4 e9'
        by_cases hf3 : 0 ≤ f3.toInt
        · exact ⟨q3.1, Or.inl hf3⟩
        · exact pq_o (v := w) qb (by omega) q3 hf3 hcb en
      refine pq_t b1 q m1_f ?_
      obtain ⟨r1, m1, e8⟩ := mm_bd1s e8
      have h1 := me_e m1
      rw [if_neg m1_f] at h1
      by_cases k1 : nb_8 (fun k => tape8.getD k 0) n p1 = 60
      · rw [decide_eq_true k1] at h1
        rw [if_neg (by rw [h1]; decide)] at e8
        have hx1 : x6 = 60 := by rw [hx]; exact (nb_c (by decide) (by decide)).mpr k1
        rw [if_pos hx1, hx1] at e9
        exact K 60 (Or.inl rfl) k1 e8 e9
      · rw [decide_eq_false k1] at h1
        have hx1 : ¬ x6 = 60 := fun h => k1 ((nb_c (by decide) (by decide)).mp (by rw [← hx]; exact h))
        rw [if_pos h1] at e8
        rw [if_neg hx1] at e9
        obtain ⟨r2, m2, e8⟩ := mm_bd1s e8
        have h2 := me_e m2
        rw [if_neg m1_f] at h2
        by_cases k2 : nb_8 (fun k => tape8.getD k 0) n p1 = 61
        · rw [decide_eq_true k2] at h2
          rw [if_neg (by rw [h2]; decide)] at e8
          have hx2 : x6 = 61 := by rw [hx]; exact (nb_c (by decide) (by decide)).mpr k2
          rw [if_pos hx2, hx2] at e9
          exact K 61 (Or.inr (Or.inl rfl)) k2 e8 e9
        · rw [decide_eq_false k2] at h2
          have hx2 : ¬ x6 = 61 := fun h => k2 ((nb_c (by decide) (by decide)).mp (by rw [← hx]; exact h))
          rw [if_pos h2] at e8
          rw [if_neg hx2] at e9
          obtain ⟨r3, m3, e8⟩ := mm_bd1s e8
          have h3 := me_e m3
          rw [if_neg m1_f] at h3
          by_cases k3 : nb_8 (fun k => tape8.getD k 0) n p1 = 62
          · rw [decide_eq_true k3] at h3
            rw [if_neg (by rw [h3]; decide)] at e8
            have hx3 : x6 = 62 := by rw [hx]; exact (nb_c (by decide) (by decide)).mpr k3
            rw [if_pos hx3, hx3] at e9
            exact K 62 (Or.inr (Or.inr rfl)) k3 e8 e9
          · rw [decide_eq_false k3] at h3
            have hx3 : ¬ x6 = 62 := fun h => k3 ((nb_c (by decide) (by decide)).mp (by rw [← hx]; exact h))
            rw [if_pos h3] at e8
            rw [if_neg hx3] at e9
            apply mm_sub4 e8
            apply mm_sub4 e9
            exact pq_s qb
end
section
/-! The law: both, either -/
theorem bo_f {go : Int32 → Int32 → Int32 → Int32 → Int32 → List Int32 → List Int32 → Option (Int32 × Int32 × Int32 × List Int32)} {d n : Int32} {tape8 : List Int32} {m : Nat} {i dc p f dc' p' f' : Int32} {D D' : List Int32} (hf : 0 ≤ f.toInt) (e : fX2_readBoth_7 700 go m d i n dc p f tape8 D = some (dc', p', f', D')) : f' = f := by
  cases m with
  | zero => exact absurd e (by intro h; cases h)
  | succ m =>
    rw [uf_X2_readBoth_7] at e
    by_cases c : (120 : Int32) ≤ i
    · rw [if_pos c] at e
      apply mm_sub4 e
      rfl
    · rw [if_neg c] at e
      obtain ⟨r1, m1, e⟩ := mm_bd1s e
      have h1 := me_e m1
      rw [if_pos hf] at h1
      rw [if_pos h1] at e
      apply mm_sub4 e
      rfl
theorem bo_g {go : Int32 → Int32 → Int32 → Int32 → Int32 → List Int32 → List Int32 → List Int32 → Option (Int32 × Int32 × Int32 × Int32)} {base at_ n f d v v' a9 f9 o9 : Int32} {tape text names : List Int32} {m : Nat} (hf : 0 ≤ f.toInt) (e : fX9_both_5 700 go m v base at_ n f d tape text names = some (v', a9, f9, o9)) : f9 = f := by
  have n0 : (0 : Int32).toInt = 0 := by decide
  cases m with
  | zero => exact absurd e (by intro h; cases h)
  | succ m =>
    rw [uf_X9_both_5] at e
    obtain ⟨r, a, et, e⟩ := mm_bd2s e
    unfold fX9_takes at et
    rw [if_pos (Int32.le_iff_toInt_le.mpr (by omega))] at et
    have et := sm_i et
    injection et with h1 h2
    rw [if_pos h1.symm] at e
    apply mm_sub4 e
    rfl
theorem bo_7 {go8 : Int32 → Int32 → Int32 → Int32 → Int32 → List Int32 → List Int32 → Option (Int32 × Int32 × Int32 × List Int32)} {go9 : Int32 → Int32 → Int32 → Int32 → Int32 → List Int32 → List Int32 → List Int32 → Option (Int32 × Int32 × Int32 × Int32)} {tape8 : List Int32} {base n d : Int32} {tape text names : List Int32} (HB : hb_w (fun k => tape8.getD k 0) base n tape text) (RG : rg_w tape8 base n tape text names (fX2_readCompared 700 go8) (fX9_compared 700 go9)) (d0 : 0 ≤ d.toInt) (d6 : d.toInt ≤ 6) : ∀ (m m' : Nat) (i dc p : Int32) (D : List Int32) (v dc' p' f' : Int32) (D' : List Int32) (v' a9 f9 o9 : Int32), pb_w n dc p D → 0 ≤ i.toInt → i.toInt ≤ p.toInt → fX2_readBoth_7 700 go8 m d i n dc p (-1) tape8 D = some (dc', p', f', D') → fX9_both_5 700 go9 m' v base p n (-1) d tape text names = some (v', a9, f9, o9) → pq_w names (fun S => v :: S) n d dc p D dc' p' f' D' v' a9 f9 o9 := by
  have n1 : (1 : Int32).toInt = 1 := by decide
  have n120 : (120 : Int32).toInt = 120 := by decide
  intro m
  induction m with
  | zero =>
    intro m' i dc p D v dc' p' f' D' v' a9 f9 o9 hb i0 i1 e8
    exact absurd e8 (by intro h; cases h)
  | succ m ih =>
    intro m' i dc p D v dc' p' f' D' v' a9 f9 o9 hb i0 i1 e8 e9
    cases m' with
    | zero => exact absurd e9 (by intro h; cases h)
    | succ m' =>
      obtain ⟨b1, b2, b3, b4, b5⟩ := id hb
      rw [uf_X2_readBoth_7] at e8
      rw [uf_X9_both_5] at e9
      obtain ⟨rt, at_, et, e9⟩ := mm_bd2s e9
      obtain ⟨t1, t2⟩ := tk_e HB (by omega) et
      rw [if_neg m1_f] at t1
      by_cases k1 : nb_8 (fun k => tape8.getD k 0) n p = 38
      · have hlt := nb_l (by decide) k1
        have k9 : nb_9 (fun k => tape8.getD k 0) n p = 38 := (nb_c (by decide) (by decide)).mpr k1
        rw [decide_eq_true k9] at t1
        rw [if_pos t1] at t2
        rw [if_neg (by rw [t1]; decide), t2] at e9
        rw [if_neg (fun h => absurd (i_le h) (by omega))] at e8
        obtain ⟨r1, m1, e8⟩ := mm_bd1s e8
        have h1 := me_e m1
        rw [if_neg m1_f, decide_eq_true k1] at h1
        rw [if_neg (by rw [h1]; decide), nm_eq] at e8
        generalize hy : p + (1 : Int32) = p1 at e8 e9
        have ey := i_addE hy (by omega) (by omega)
        obtain ⟨dc1, p2, f1, D1, eg8, e8⟩ := mm_bd4s e8
        obtain ⟨dc2, D2, en, e8⟩ := mm_bd2s e8
        rw [nm_eq] at e8
        obtain ⟨w, a1, g1, o1, eg9, e9⟩ := mm_bd4s e9
        have q := RG d dc p1 D dc1 p2 f1 D1 w a1 g1 o1 d0 d6 (pb_n hb (by omega) hlt) eg8 eg9
        have e9' : fX9_both_5 700 go9 m' (jn_w 38 v w) base a1 n g1 o1 tape text names = some (v', a9, f9, o9) := by
          by_cases hv : v = 0
          · rw [if_pos hv, uf_X9_both_31, uf_X9_both_32] at e9
            have : jn_w 38 v w = 0 := by
              unfold jn_w
              rw [if_neg (by decide), if_pos rfl, if_pos hv]
            rw [this]
            exact e9
          · rw [if_neg hv] at e9
            by_cases hw : w = 0
            · rw [if_pos hw, uf_X9_both_31, uf_X9_both_32] at e9
              have : jn_w 38 v w = 0 := by
                unfold jn_w
                rw [if_neg (by decide), if_pos rfl, if_neg hv, if_pos hw]
              rw [this]
              exact e9
            · rw [if_neg hw, uf_X9_both_32] at e9
              have : jn_w 38 v w = 1 := by
                unfold jn_w
                rw [if_neg (by decide), if_pos rfl, if_neg hv, if_neg hw]
              rw [this]
              exact e9
        by_cases hf : 0 ≤ f1.toInt
        · have q8 := bo_f hf e8
          have q9 := bo_g (by rw [q.1]; exact hf) e9'
          exact ⟨by rw [q8, q9]; exact q.1, Or.inl (by rw [q8]; exact hf)⟩
        · have st := pq_o (v := v) hb (by omega) q hf (Or.inr (Or.inl rfl)) en
          have qb := pq_b hb st hf
          obtain ⟨z1, z2 | ⟨z2, z3, z4, z5, z6, -⟩⟩ := q
          · exact absurd z2 hf
          · rw [z1, z2] at e9'
            rw [z2] at e8 st
            rw [z3, z4] at e9'
            generalize hj : i + (1 : Int32) = j at e8
            have ej := i_addE hj (by omega) (by omega)
            have IH := ih m' j dc2 p2 D2 (jn_w 38 v w) dc' p' f' D' v' a9 f9 o9 qb (by omega) (by omega) e8 e9'
            exact pq_t b1 st m1_f IH
      · have k9 : ¬ nb_9 (fun k => tape8.getD k 0) n p = 38 := fun h => k1 ((nb_c (by decide) (by decide)).mp h)
        rw [decide_eq_false k9] at t1
        rw [if_neg (by rw [t1]; decide)] at t2
        rw [if_pos t1, t2] at e9
        apply mm_sub4 e9
        by_cases c0 : (120 : Int32) ≤ i
        · rw [if_pos c0] at e8
          apply mm_sub4 e8
          exact pq_s hb
        · rw [if_neg c0] at e8
          obtain ⟨r1, m1, e8⟩ := mm_bd1s e8
          have h1 := me_e m1
          rw [if_neg m1_f, decide_eq_false k1] at h1
          rw [if_pos h1] at e8
          apply mm_sub4 e8
          exact pq_s hb
theorem bo_r {go8 : Int32 → Int32 → Int32 → Int32 → Int32 → List Int32 → List Int32 → Option (Int32 × Int32 × Int32 × List Int32)} {go9 : Int32 → Int32 → Int32 → Int32 → Int32 → List Int32 → List Int32 → List Int32 → Option (Int32 × Int32 × Int32 × Int32)} {tape8 : List Int32} {base n : Int32} {tape text names : List Int32} (HB : hb_w (fun k => tape8.getD k 0) base n tape text) (RG : rg_w tape8 base n tape text names (fX2_readCompared 700 go8) (fX9_compared 700 go9)) : rg_w tape8 base n tape text names (fX2_readBoth 700 go8) (fX9_both 700 go9) := by
  intro d dc p D dc' p' f' D' v a9 f9 o9 d0 d6 hb e8 e9
  have n0 : (0 : Int32).toInt = 0 := by decide
  obtain ⟨b1, b2, b3, b4, b5⟩ := id hb
  unfold fX2_readBoth at e8
  unfold fX9_both at e9
  obtain ⟨dc1, p1, f1, D1, eg8, e8⟩ := mm_bd4s e8
  obtain ⟨w, a1, g1, o1, eg9, e9⟩ := mm_bd4s e9
  have q := RG d dc p D dc1 p1 f1 D1 w a1 g1 o1 d0 d6 hb eg8 eg9
  by_cases hf : 0 ≤ f1.toInt
  · have q8 := bo_f hf e8
    have q9 := bo_g (by rw [q.1]; exact hf) e9
    exact ⟨by rw [q8, q9]; exact q.1, Or.inl (by rw [q8]; exact hf)⟩
  · have qb := pq_b hb q hf
    have q' := q
    obtain ⟨z1, z2 | ⟨z2, z3, z4, z5, z6, -⟩⟩ := q'
    · exact absurd z2 hf
    · rw [z1, z2, z3, z4] at e9
      rw [z2] at e8 q
      exact pq_t b1 q m1_f (bo_7 HB RG d0 d6 700 700 (0 : Int32) dc1 p1 D1 w dc' p' f' D' v a9 f9 o9 qb (by omega) (by omega) e8 e9)
theorem ei_f {go : Int32 → Int32 → Int32 → Int32 → Int32 → List Int32 → List Int32 → Option (Int32 × Int32 × Int32 × List Int32)} {d n : Int32} {tape8 : List Int32} {m : Nat} {i dc p f dc' p' f' : Int32} {D D' : List Int32} (hf : 0 ≤ f.toInt) (e : fX2_readEither_7 700 go m d i n dc p f tape8 D = some (dc', p', f', D')) : f' = f := by
  cases m with
  | zero => exact absurd e (by intro h; cases h)
  | succ m =>
    rw [uf_X2_readEither_7] at e
    by_cases c : (120 : Int32) ≤ i
    · rw [if_pos c] at e
      apply mm_sub4 e
      rfl
    · rw [if_neg c] at e
      obtain ⟨r1, m1, e⟩ := mm_bd1s e
      have h1 := me_e m1
      rw [if_pos hf] at h1
      rw [if_pos h1] at e
      apply mm_sub4 e
      rfl
theorem ei_g {go : Int32 → Int32 → Int32 → Int32 → Int32 → List Int32 → List Int32 → List Int32 → Option (Int32 × Int32 × Int32 × Int32)} {base at_ n f d v v' a9 f9 o9 : Int32} {tape text names : List Int32} {m : Nat} (hf : 0 ≤ f.toInt) (e : fX9_either_5 700 go m v base at_ n f d tape text names = some (v', a9, f9, o9)) : f9 = f := by
  have n0 : (0 : Int32).toInt = 0 := by decide
  cases m with
  | zero => exact absurd e (by intro h; cases h)
  | succ m =>
    rw [uf_X9_either_5] at e
    obtain ⟨r, a, et, e⟩ := mm_bd2s e
    unfold fX9_takes at et
    rw [if_pos (Int32.le_iff_toInt_le.mpr (by omega))] at et
    have et := sm_i et
    injection et with h1 h2
    rw [if_pos h1.symm] at e
    apply mm_sub4 e
    rfl
theorem ei_7 {go8 : Int32 → Int32 → Int32 → Int32 → Int32 → List Int32 → List Int32 → Option (Int32 × Int32 × Int32 × List Int32)} {go9 : Int32 → Int32 → Int32 → Int32 → Int32 → List Int32 → List Int32 → List Int32 → Option (Int32 × Int32 × Int32 × Int32)} {tape8 : List Int32} {base n d : Int32} {tape text names : List Int32} (HB : hb_w (fun k => tape8.getD k 0) base n tape text) (RG : rg_w tape8 base n tape text names (fX2_readBoth 700 go8) (fX9_both 700 go9)) (d0 : 0 ≤ d.toInt) (d6 : d.toInt ≤ 6) : ∀ (m m' : Nat) (i dc p : Int32) (D : List Int32) (v dc' p' f' : Int32) (D' : List Int32) (v' a9 f9 o9 : Int32), pb_w n dc p D → 0 ≤ i.toInt → i.toInt ≤ p.toInt → fX2_readEither_7 700 go8 m d i n dc p (-1) tape8 D = some (dc', p', f', D') → fX9_either_5 700 go9 m' v base p n (-1) d tape text names = some (v', a9, f9, o9) → pq_w names (fun S => v :: S) n d dc p D dc' p' f' D' v' a9 f9 o9 := by
  have n1 : (1 : Int32).toInt = 1 := by decide
  have n120 : (120 : Int32).toInt = 120 := by decide
  intro m
  induction m with
  | zero =>
    intro m' i dc p D v dc' p' f' D' v' a9 f9 o9 hb i0 i1 e8
    exact absurd e8 (by intro h; cases h)
  | succ m ih =>
    intro m' i dc p D v dc' p' f' D' v' a9 f9 o9 hb i0 i1 e8 e9
    cases m' with
    | zero => exact absurd e9 (by intro h; cases h)
    | succ m' =>
      obtain ⟨b1, b2, b3, b4, b5⟩ := id hb
      rw [uf_X2_readEither_7] at e8
      rw [uf_X9_either_5] at e9
      obtain ⟨rt, at_, et, e9⟩ := mm_bd2s e9
      obtain ⟨t1, t2⟩ := tk_e HB (by omega) et
      rw [if_neg m1_f] at t1
      by_cases k1 : nb_8 (fun k => tape8.getD k 0) n p = 124
      · have hlt := nb_l (by decide) k1
        have k9 : nb_9 (fun k => tape8.getD k 0) n p = 124 := (nb_c (by decide) (by decide)).mpr k1
        rw [decide_eq_true k9] at t1
        rw [if_pos t1] at t2
        rw [if_neg (by rw [t1]; decide), t2] at e9
        rw [if_neg (fun h => absurd (i_le h) (by omega))] at e8
        obtain ⟨r1, m1, e8⟩ := mm_bd1s e8
        have h1 := me_e m1
        rw [if_neg m1_f, decide_eq_true k1] at h1
        rw [if_neg (by rw [h1]; decide), nm_eq] at e8
        generalize hy : p + (1 : Int32) = p1 at e8 e9
        have ey := i_addE hy (by omega) (by omega)
        obtain ⟨dc1, p2, f1, D1, eg8, e8⟩ := mm_bd4s e8
        obtain ⟨dc2, D2, en, e8⟩ := mm_bd2s e8
        rw [nm_eq] at e8
        obtain ⟨w, a1, g1, o1, eg9, e9⟩ := mm_bd4s e9
        have q := RG d dc p1 D dc1 p2 f1 D1 w a1 g1 o1 d0 d6 (pb_n hb (by omega) hlt) eg8 eg9
        have e9' : fX9_either_5 700 go9 m' (jn_w 124 v w) base a1 n g1 o1 tape text names = some (v', a9, f9, o9) := by
          by_cases hv : v = 0
          · rw [if_pos hv] at e9
            by_cases hw : w = 0
            · rw [if_pos hw, uf_X9_either_32] at e9
              have : jn_w 124 v w = 0 := by
                unfold jn_w
                rw [if_pos rfl, if_pos hv, if_pos hw]
              rw [this]
              exact e9
            · rw [if_neg hw, uf_X9_either_27, uf_X9_either_32] at e9
              have : jn_w 124 v w = 1 := by
                unfold jn_w
                rw [if_pos rfl, if_pos hv, if_neg hw]
              rw [this]
              exact e9
          · rw [if_neg hv, uf_X9_either_27, uf_X9_either_32] at e9
            have : jn_w 124 v w = 1 := by
              unfold jn_w
              rw [if_pos rfl, if_neg hv]
            rw [this]
            exact e9
        by_cases hf : 0 ≤ f1.toInt
        · have q8 := ei_f hf e8
          have q9 := ei_g (by rw [q.1]; exact hf) e9'
          exact ⟨by rw [q8, q9]; exact q.1, Or.inl (by rw [q8]; exact hf)⟩
        · have st := pq_o (v := v) hb (by omega) q hf (Or.inl rfl) en
          have qb := pq_b hb st hf
          obtain ⟨z1, z2 | ⟨z2, z3, z4, z5, z6, -⟩⟩ := q
          · exact absurd z2 hf
          · rw [z1, z2] at e9'
            rw [z2] at e8 st
            rw [z3, z4] at e9'
            generalize hj : i + (1 : Int32) = j at e8
            have ej := i_addE hj (by omega) (by omega)
            have IH := ih m' j dc2 p2 D2 (jn_w 124 v w) dc' p' f' D' v' a9 f9 o9 qb (by omega) (by omega) e8 e9'
            exact pq_t b1 st m1_f IH
      · have k9 : ¬ nb_9 (fun k => tape8.getD k 0) n p = 124 := fun h => k1 ((nb_c (by decide) (by decide)).mp h)
        rw [decide_eq_false k9] at t1
        rw [if_neg (by rw [t1]; decide)] at t2
        rw [if_pos t1, t2] at e9
        apply mm_sub4 e9
        by_cases c0 : (120 : Int32) ≤ i
        · rw [if_pos c0] at e8
          apply mm_sub4 e8
          exact pq_s hb
        · rw [if_neg c0] at e8
          obtain ⟨r1, m1, e8⟩ := mm_bd1s e8
          have h1 := me_e m1
          rw [if_neg m1_f, decide_eq_false k1] at h1
          rw [if_pos h1] at e8
          apply mm_sub4 e8
          exact pq_s hb
theorem ei_r {go8 : Int32 → Int32 → Int32 → Int32 → Int32 → List Int32 → List Int32 → Option (Int32 × Int32 × Int32 × List Int32)} {go9 : Int32 → Int32 → Int32 → Int32 → Int32 → List Int32 → List Int32 → List Int32 → Option (Int32 × Int32 × Int32 × Int32)} {tape8 : List Int32} {base n : Int32} {tape text names : List Int32} (HB : hb_w (fun k => tape8.getD k 0) base n tape text) (RG : rg_w tape8 base n tape text names (fX2_readBoth 700 go8) (fX9_both 700 go9)) : rg_w tape8 base n tape text names (fX2_readEither 700 go8) (fX9_either 700 go9) := by
  intro d dc p D dc' p' f' D' v a9 f9 o9 d0 d6 hb e8 e9
  have n0 : (0 : Int32).toInt = 0 := by decide
  obtain ⟨b1, b2, b3, b4, b5⟩ := id hb
  unfold fX2_readEither at e8
  unfold fX9_either at e9
  obtain ⟨dc1, p1, f1, D1, eg8, e8⟩ := mm_bd4s e8
  obtain ⟨w, a1, g1, o1, eg9, e9⟩ := mm_bd4s e9
  have q := RG d dc p D dc1 p1 f1 D1 w a1 g1 o1 d0 d6 hb eg8 eg9
  by_cases hf : 0 ≤ f1.toInt
  · have q8 := ei_f hf e8
    have q9 := ei_g (by rw [q.1]; exact hf) e9
    exact ⟨by rw [q8, q9]; exact q.1, Or.inl (by rw [q8]; exact hf)⟩
  · have qb := pq_b hb q hf
    have q' := q
    obtain ⟨z1, z2 | ⟨z2, z3, z4, z5, z6, -⟩⟩ := q'
    · exact absurd z2 hf
    · rw [z1, z2, z3, z4] at e9
      rw [z2] at e8 q
      exact pq_t b1 q m1_f (ei_7 HB RG d0 d6 700 700 (0 : Int32) dc1 p1 D1 w dc' p' f' D' v a9 f9 o9 qb (by omega) (by omega) e8 e9)
end
section
/-! The law: numbers, single ones -/
def dg_w (r : Int32) : Prop := 48 ≤ r.toInt ∧ r.toInt ≤ 57
theorem di_e (x : Int32) : fX2_isDigit 700 x = some (decide (48 ≤ x.toInt ∧ x.toInt ≤ 57)) := by
  have n48 : (48 : Int32).toInt = 48 := by decide
  have n57 : (57 : Int32).toInt = 57 := by decide
  unfold fX2_isDigit
  by_cases c : x < (48 : Int32)
  · have d := i_lt c
    rw [if_pos c, decide_eq_false (by omega)]
  · have d := i_nlt c
    rw [if_neg c]
    by_cases c2 : (57 : Int32) < x
    · have d2 := i_lt c2
      rw [if_pos c2, decide_eq_false (by omega)]
    · have d2 := i_nlt c2
      rw [if_neg c2, decide_eq_true (by omega)]
theorem nb_d9 {b : Nat → Int32} {n p : Int32} : (48 ≤ (nb_9 b n p).toInt ∧ (nb_9 b n p).toInt ≤ 57) ↔ (48 ≤ (nb_8 b n p).toInt ∧ (nb_8 b n p).toInt ≤ 57) := by
  unfold nb_8 nb_9
  by_cases g : n ≤ p
  · rw [if_pos g, if_pos g]
    have n0 : (0 : Int32).toInt = 0 := by decide
    have n1 : (-1 : Int32).toInt = -1 := by decide
    omega
  · rw [if_neg g, if_neg g]
theorem nb_e {b : Nat → Int32} {n p : Int32} (h : p.toInt < n.toInt) : nb_9 b n p = nb_8 b n p := by
  unfold nb_8 nb_9
  rw [if_neg (fun k => absurd (i_le k) (by omega)), if_neg (fun k => absurd (i_le k) (by omega))]
theorem nb_p {b : Nat → Int32} {n p : Int32} (h : 48 ≤ (nb_8 b n p).toInt) : p.toInt < n.toInt := by
  unfold nb_8 at h
  by_cases g : n ≤ p
  · rw [if_pos g] at h
    exact absurd h (by decide)
  · exact i_nle g
def vd_w (x v : Int32) : Prop := (x.toInt = 0 ∧ v.toInt = 0) ∨ (x.toInt = 1 ∧ 0 ≤ v.toInt ∧ v.toInt < 10) ∨ (x.toInt = 2 ∧ 0 ≤ v.toInt ∧ v.toInt < 100) ∨ (x.toInt = 3 ∧ 0 ≤ v.toInt ∧ v.toInt < 1000) ∨ (x.toInt = 4 ∧ 0 ≤ v.toInt ∧ v.toInt < 10000)
theorem nu_4 {go : Int32 → Int32 → Int32 → Int32 → Int32 → List Int32 → List Int32 → List Int32 → Option (Int32 × Int32 × Int32 × Int32)} {tape8 : List Int32} {base n d : Int32} {tape text names : List Int32} (HB : hb_w (fun k => tape8.getD k 0) base n tape text) : ∀ (m m' : Nat) (x1 x2 dc p : Int32) (D : List Int32) (dc' p' : Int32) (D' : List Int32) (v a9 f9 o9 : Int32), pb_w n dc p D → vd_w x2 x1 → (x2.toInt = 0 → 48 ≤ (nb_8 (fun k => tape8.getD k 0) n p).toInt ∧ (nb_8 (fun k => tape8.getD k 0) n p).toInt ≤ 57) → fX2_readNumber_4 700 m x1 x2 n dc p tape8 D = some (dc', p', D') → fX9_one_176 700 go m' x1 x2 base p n (-1) d tape text names = some (v, a9, f9, o9) → f9 = -1 ∧ a9 = p' ∧ o9 = d ∧ p.toInt ≤ p'.toInt ∧ p'.toInt ≤ n.toInt ∧ 1 ≤ p'.toInt - p.toInt + x2.toInt ∧ dc'.toInt = dc.toInt + 1 ∧ cs_w dc.toInt.toNat D D' [(1000 : Int32) + v] ∧ 0 ≤ v.toInt ∧ v.toInt < 10000 := by
  have n1 : (1 : Int32).toInt = 1 := by decide
  have n4 : (4 : Int32).toInt = 4 := by decide
  have n48 : (48 : Int32).toInt = 48 := by decide
  have n57 : (57 : Int32).toInt = 57 := by decide
  have n0 : (0 : Int32).toInt = 0 := by decide
  intro m
  induction m with
  | zero =>
    intro m' x1 x2 dc p D dc' p' D' v a9 f9 o9 hb hv hd e8
    exact absurd e8 (by intro h; cases h)
  | succ m ih =>
    intro m' x1 x2 dc p D dc' p' D' v a9 f9 o9 hb hv hd e8 e9
    cases m' with
    | zero => exact absurd e9 (by intro h; cases h)
    | succ m' =>
      obtain ⟨b1, b2, b3, b4, b5⟩ := id hb
      have hv' := hv
      unfold vd_w at hv'
      rw [uf_X2_readNumber_4] at e8
      rw [uf_X9_one_176] at e9
      have E : ¬ x2.toInt = 0 → fX2_readNumber_48 700 x1 n dc p tape8 D = some (dc', p', D') → fX9_one_229 700 go x1 x2 base p n (-1) d tape text names = some (v, a9, f9, o9) → f9 = -1 ∧ a9 = p' ∧ o9 = d ∧ p.toInt ≤ p'.toInt ∧ p'.toInt ≤ n.toInt ∧ 1 ≤ p'.toInt - p.toInt + x2.toInt ∧ dc'.toInt = dc.toInt + 1 ∧ cs_w dc.toInt.toNat D D' [(1000 : Int32) + v] ∧ 0 ≤ v.toInt ∧ v.toInt < 10000 := by
        intro hx e8 e9
        rw [uf_X2_readNumber_48] at e8
        obtain ⟨w1, w2, en, e8⟩ := mm_bd2s e8
        obtain ⟨y1, y2⟩ := no_e b1 (by omega) b5 en
        rw [uf_X9_one_229, if_neg (fun k => hx (by rw [k]; exact n0))] at e9
        apply mm_sub3 e8
        apply mm_sub4 e9
        exact ⟨rfl, rfl, rfl, Int.le_refl _, b3, by omega, y1, y2, by omega, by omega⟩
      by_cases c : (4 : Int32) ≤ x2
      · have dc4 := i_le c
        rw [if_pos c] at e8 e9
        exact E (by omega) e8 e9
      · have dc4 := i_nle c
        rw [if_neg c] at e8 e9
        obtain ⟨r2, nr2, e8⟩ := mm_bd1s e8
        have h2 := nx_e nr2
        rw [di_e, bs_1] at e8
        obtain ⟨s2, ns2, e9⟩ := mm_bd1s e9
        have g2 := HB p s2 (by omega) ns2
        by_cases k : 48 ≤ r2.toInt ∧ r2.toInt ≤ 57
        · have k8 : 48 ≤ (nb_8 (fun k => tape8.getD k 0) n p).toInt ∧ (nb_8 (fun k => tape8.getD k 0) n p).toInt ≤ 57 := by rw [← h2]; exact k
          have hlt := nb_p k8.1
          have hs : s2 = r2 := by rw [g2, h2]; exact nb_e hlt
          rw [decide_eq_true k, if_neg (by decide)] at e8
          obtain ⟨r7, nr7, e8⟩ := mm_bd1s e8
          have h7 := nx_e nr7
          rw [← h2] at h7
          rw [nm_eq, nm_eq, nm_eq, h7] at e8
          rw [if_neg (fun q => absurd (i_lt q) (by rw [hs]; omega))] at e9
          obtain ⟨s3, ns3, e9⟩ := mm_bd1s e9
          have g3 := HB p s3 (by omega) ns3
          rw [← g2, hs] at g3
          rw [if_neg (fun q => absurd (i_lt q) (by rw [g3]; omega))] at e9
          obtain ⟨s4, ns4, e9⟩ := mm_bd1s e9
          have g4 := HB p s4 (by omega) ns4
          rw [← g2, hs] at g4
          rw [nm_eq, nm_eq, nm_eq, g4, Int32.mul_comm (10 : Int32) x1] at e9
          generalize hy1 : x1 * (10 : Int32) = y1 at e8 e9
          have ey1 := i_mulRE (c := 10) (by decide) hy1 (by omega) (by omega)
          generalize hy2 : y1 + r2 = y2 at e8 e9
          have ey2 := i_addE hy2 (by omega) (by omega)
          generalize hy3 : y2 - (48 : Int32) = y3 at e8 e9
          have ey3 := i_subE hy3 (by omega) (by omega)
          generalize hy4 : p + (1 : Int32) = p1 at e8 e9
          have ey4 := i_addE hy4 (by omega) (by omega)
          generalize hy5 : x2 + (1 : Int32) = x3 at e8 e9
          have ey5 := i_addE hy5 (by omega) (by omega)
          obtain ⟨q1, q2, q3, q4, q5, q6, q7, q8, q9, q10⟩ := ih m' y3 x3 dc p1 D dc' p' D' v a9 f9 o9 (pb_n hb (by omega) hlt) (by unfold vd_w; omega) (fun h => absurd h (by omega)) e8 e9
          exact ⟨q1, q2, q3, by omega, q5, by omega, q7, q8, q9, q10⟩
        · have hx : ¬ x2.toInt = 0 := fun h => k (by rw [h2]; exact hd h)
          have k9 : ¬ (48 ≤ s2.toInt ∧ s2.toInt ≤ 57) := fun h => k (by rw [h2]; rw [g2] at h; exact nb_d9.mp h)
          rw [decide_eq_false k, if_pos rfl] at e8
          by_cases k1 : s2 < (48 : Int32)
          · rw [if_pos k1] at e9
            exact E hx e8 e9
          · have d1 := i_nlt k1
            rw [if_neg k1] at e9
            obtain ⟨s3, ns3, e9⟩ := mm_bd1s e9
            have g3 := HB p s3 (by omega) ns3
            rw [← g2] at g3
            rw [g3, if_pos (show (57 : Int32) < s2 by rw [Int32.lt_iff_toInt_lt]; omega)] at e9
            exact E hx e8 e9
theorem na_e (x : Int32) : fX2_isName 700 x = some (decide (x = 98 ∨ x = 102 ∨ x = 107 ∨ x = 110 ∨ x = 114 ∨ x = 119)) := by
  unfold fX2_isName
  by_cases c1 : x = 98
  · rw [if_pos c1, decide_eq_true (Or.inl c1)]
  · rw [if_neg c1]
    by_cases c2 : x = 102
    · rw [if_pos c2, decide_eq_true (Or.inr (Or.inl c2))]
    · rw [if_neg c2]
      by_cases c3 : x = 107
      · rw [if_pos c3, decide_eq_true (Or.inr (Or.inr (Or.inl c3)))]
      · rw [if_neg c3]
        by_cases c4 : x = 110
        · rw [if_pos c4, decide_eq_true (Or.inr (Or.inr (Or.inr (Or.inl c4))))]
        · rw [if_neg c4]
          by_cases c5 : x = 114
          · rw [if_pos c5, decide_eq_true (Or.inr (Or.inr (Or.inr (Or.inr (Or.inl c5)))))]
          · rw [if_neg c5]
            by_cases c6 : x = 119
            · rw [if_pos c6, decide_eq_true (Or.inr (Or.inr (Or.inr (Or.inr (Or.inr c6)))))]
            · rw [if_neg c6, decide_eq_false]
              rintro (h | h | h | h | h | h)
              · exact c1 h
              · exact c2 h
              · exact c3 h
              · exact c4 h
              · exact c5 h
              · exact c6 h
theorem nn_e {x r : Int32} (e : fX9_nameOf 700 x = some r) : (na_w x → 0 ≤ r.toInt ∧ r.toInt < 6 ∧ ∀ nm : List Int32, mm_ig nm r = nw_w nm x) ∧ (¬ na_w x → r = -1) := by
  unfold fX9_nameOf at e
  unfold na_w nw_w
  by_cases c1 : x = 98
  · rw [if_pos c1] at e
    have e := sm_i e
    subst e
    exact ⟨fun _ => ⟨by decide, by decide, fun nm => by rw [if_pos c1]; rfl⟩, fun h => absurd (Or.inl c1) h⟩
  · rw [if_neg c1] at e
    by_cases c2 : x = 102
    · rw [if_pos c2] at e
      have e := sm_i e
      subst e
      exact ⟨fun _ => ⟨by decide, by decide, fun nm => by rw [if_neg c1, if_pos c2]; rfl⟩, fun h => absurd (Or.inr (Or.inl c2)) h⟩
    · rw [if_neg c2] at e
      by_cases c3 : x = 107
      · rw [if_pos c3] at e
        have e := sm_i e
        subst e
        exact ⟨fun _ => ⟨by decide, by decide, fun nm => by rw [if_neg c1, if_neg c2, if_pos c3]; rfl⟩, fun h => absurd (Or.inr (Or.inr (Or.inl c3))) h⟩
      · rw [if_neg c3] at e
        by_cases c4 : x = 110
        · rw [if_pos c4] at e
          have e := sm_i e
          subst e
          exact ⟨fun _ => ⟨by decide, by decide, fun nm => by rw [if_neg c1, if_neg c2, if_neg c3, if_pos c4]; rfl⟩, fun h => absurd (Or.inr (Or.inr (Or.inr (Or.inl c4)))) h⟩
        · rw [if_neg c4] at e
          by_cases c5 : x = 114
          · rw [if_pos c5] at e
            have e := sm_i e
            subst e
            exact ⟨fun _ => ⟨by decide, by decide, fun nm => by rw [if_neg c1, if_neg c2, if_neg c3, if_neg c4, if_pos c5]; rfl⟩, fun h => absurd (Or.inr (Or.inr (Or.inr (Or.inr (Or.inl c5))))) h⟩
          · rw [if_neg c5] at e
            by_cases c6 : x = 119
            · rw [if_pos c6] at e
              have e := sm_i e
              subst e
              exact ⟨fun _ => ⟨by decide, by decide, fun nm => by rw [if_neg c1, if_neg c2, if_neg c3, if_neg c4, if_neg c5]; rfl⟩, fun h => absurd (Or.inr (Or.inr (Or.inr (Or.inr (Or.inr c6))))) h⟩
            · rw [if_neg c6] at e
              have e := sm_i e
              subst e
              refine ⟨fun h => ?_, fun _ => rfl⟩
              rcases h with h | h | h | h | h | h
              · exact absurd h c1
              · exact absurd h c2
              · exact absurd h c3
              · exact absurd h c4
              · exact absurd h c5
              · exact absurd h c6
theorem fl_8 {p f r : Int32} (e : fX2_fail 700 p f = some r) : r = if 0 ≤ f.toInt then f else p := by
  have n0 : (0 : Int32).toInt = 0 := by decide
  unfold fX2_fail at e
  by_cases c : (0 : Int32) ≤ f
  · have d := i_le c
    rw [if_pos c] at e
    rw [if_pos (by omega)]
    exact (sm_i e).symm
  · have d := i_nle c
    rw [if_neg c] at e
    rw [if_neg (by omega)]
    exact (sm_i e).symm
theorem fl_9 {p f r s : Int32} (e : fX9_wrong 700 p f = some (r, s)) : s = if 0 ≤ f.toInt then f else p := by
  have n0 : (0 : Int32).toInt = 0 := by decide
  unfold fX9_wrong fX9_wrong_19 at e
  by_cases c : (0 : Int32) ≤ f
  · have d := i_le c
    rw [if_pos c] at e
    rw [if_pos (by omega)]
    apply mm_sub2 e
    rfl
  · have d := i_nle c
    rw [if_neg c] at e
    rw [if_neg (by omega)]
    apply mm_sub2 e
    rfl
end
section
/-! The law: single ones -/
theorem pq_u {nm : List Int32} {n d d1 dc p p1 dc1 p2 f1 w a1 g1 o1 dc2 c v : Int32} {D D1 D2 : List Int32} (hb : pb_w n dc p D) (hp : p1.toInt = p.toInt + 1) (h1 : pq_w nm id n d1 dc p1 D dc1 p2 f1 D1 w a1 g1 o1) (hf : ¬ 0 ≤ f1.toInt) (hn : fX2_note 700 c dc1 D1 = some (dc2, D2)) (hu : ¬ c = 59 ∧ ¬ c = 63) (hv : ∀ S : List Int32, sx_w nm c (w :: S) = v :: S) : pq_w nm id n d dc p D dc2 p2 f1 D2 v a1 g1 d := by
  obtain ⟨b1, b2, b3, b4, b5⟩ := hb
  obtain ⟨x1, h1 | ⟨x2, x3, x3', x4, x5, cs, x6, x7, x8, xp, x9⟩⟩ := h1
  · exact absurd h1 hf
  · obtain ⟨y1, y2⟩ := no_e (by omega) (by omega) x6.1 hn
    refine ⟨x1, Or.inr ⟨x2, x3, rfl, by omega, x5, cs ++ [c], ?_, ?_, ?_, pu_a xp (pu_1 hu), fun S => ?_⟩⟩
    · refine cs_t x6 ?_
      have e : dc.toInt.toNat + cs.length = dc1.toInt.toNat := by omega
      rw [e]
      exact y2
    · rw [List.length_append, List.length_singleton]
      omega
    · rw [List.length_append, List.length_singleton]
      omega
    · rw [xs_a, x9]
      exact hv S
theorem on_r {go8 : Int32 → Int32 → Int32 → Int32 → Int32 → List Int32 → List Int32 → Option (Int32 × Int32 × Int32 × List Int32)} {go9 : Int32 → Int32 → Int32 → Int32 → Int32 → List Int32 → List Int32 → List Int32 → Option (Int32 × Int32 × Int32 × Int32)} {tape8 : List Int32} {base n : Int32} {tape text names : List Int32} (HB : hb_w (fun k => tape8.getD k 0) base n tape text) (RG : rg_w tape8 base n tape text names go8 go9) : rg_w tape8 base n tape text names (fX2_readOneo 700 go8) (fX9_oneo 700 go9) := by
  intro d dc p D dc' p' f' D' v a9 f9 o9 d0 d6 hb e8 e9
  have n0 : (0 : Int32).toInt = 0 := by decide
  have n1 : (1 : Int32).toInt = 1 := by decide
  have n6 : (6 : Int32).toInt = 6 := by decide
  obtain ⟨b1, b2, b3, b4, b5⟩ := id hb
  have RE : rg_w tape8 base n tape text names (fX2_readEither 700 go8) (fX9_either 700 go9) := ei_r HB (bo_r HB (cm_r HB (su_r HB (pd_r HB RG))))
  unfold fX2_readOneo at e8
  unfold fX9_oneo at e9
  rw [if_pos (by decide)] at e9
  obtain ⟨r, nr, e8⟩ := mm_bd1s e8
  have hr := nx_e nr
  obtain ⟨s, ns, e9⟩ := mm_bd1s e9
  have hs := HB p s (by omega) ns
  rw [di_e, bs_1] at e8
  -- a fault here
  have FL : fX2_readOne_157 700 go8 n dc p (-1) tape8 D = some (dc', p', f', D') → f' = p := by
    intro e
    rw [uf_X2_readOne_157] at e
    obtain ⟨w, ew, e⟩ := mm_bd1s e
    have hw := fl_8 ew
    rw [if_neg m1_f] at hw
    apply mm_sub4 e
    exact hw
  have F9 : (mm_bd2 (fX9_wrong 700 p (-1)) (fun (r_42 : Int32) (w_43 : Int32) => some (r_42, p, w_43, d))) = some (v, a9, f9, o9) → f9 = p := by
    intro e
    obtain ⟨w1, w2, ew, e⟩ := mm_bd2s e
    have hw := fl_9 ew
    rw [if_neg m1_f] at hw
    apply mm_sub4 e
    exact hw
  have FF : f' = p → f9 = p → pq_w names id n d dc p D dc' p' f' D' v a9 f9 o9 := fun h1 h2 => ⟨by rw [h1, h2], Or.inl (by rw [h1]; omega)⟩
  -- a sign ahead
  have SG : ∀ c : Int32, (c = 33 ∨ c = 45) → r = c → s = c → pq_w names id n d dc p D dc' p' f' D' v a9 f9 o9 := by
    intro c hc h1 h2
    have hlt : p.toInt < n.toInt := nb_l (c := c) (b := (fun k => tape8.getD k 0)) (by rcases hc with h | h <;> rw [h] <;> decide) (by rw [← hr]; exact h1)
    have e9' : fX9_one_32 700 go9 c base p n (-1) d tape text names = some (v, a9, f9, o9) := by
      rcases hc with h | h
      · rw [if_pos (by rw [h2, h]), h2] at e9
        exact e9
      · rw [if_neg (by rw [h2, h]; decide), if_pos (by rw [h2, h]), h2] at e9
        exact e9
    have hd : ¬ (48 ≤ r.toInt ∧ r.toInt ≤ 57) := by rcases hc with h | h <;> rw [h1, h] <;> decide
    have hn : ¬ (r = 98 ∨ r = 102 ∨ r = 107 ∨ r = 110 ∨ r = 114 ∨ r = 119) := by rcases hc with h | h <;> rw [h1, h] <;> decide
    rw [decide_eq_false hd, if_pos rfl, na_e, bs_1, decide_eq_false hn, if_pos rfl] at e8
    rw [uf_X9_one_32] at e9'
    by_cases g : (6 : Int32) ≤ d
    · have dg := i_le g
      rw [if_pos g, uf_X2_readOne_99, if_pos g] at e8
      rw [if_pos (Int32.toInt_inj.mp (by omega))] at e9'
      exact FF (FL e8) (F9 e9')
    · have dg := i_nle g
      rw [if_neg g] at e8
      rw [if_neg (fun k => absurd (i_eq k) (by omega)), nm_eq, nm_eq, if_neg (by rcases hc with h | h <;> rw [h] <;> decide)] at e9'
      have e8' : fX2_readOne_62 700 go8 d c n dc p (-1) tape8 D = some (dc', p', f', D') := by
        rcases hc with h | h
        · rw [if_pos (by rw [h1, h]), h1] at e8
          exact e8
        · rw [if_neg (by rw [h1, h]; decide), if_pos (by rw [h1, h]), h1] at e8
          exact e8
      rw [uf_X2_readOne_62, nm_eq] at e8'
      generalize hy : p + (1 : Int32) = p1 at e8' e9'
      have ey := i_addE hy (by omega) (by omega)
      generalize hz : d + (1 : Int32) = d1 at e8' e9'
      have ez := i_addE hz (by omega) (by omega)
      obtain ⟨dc1, p2, f1, D1, eg8, e8a⟩ := mm_bd4s e8'
      obtain ⟨w, a1, g1, o1, eg9, e9a⟩ := mm_bd4s e9'
      have q := RG d1 dc p1 D dc1 p2 f1 D1 w a1 g1 o1 (by omega) (by omega) (pb_n hb (by omega) hlt) eg8 eg9
      rw [uf_X9_one_83, if_neg (by rcases hc with h | h <;> rw [h] <;> decide), uf_X9_one_104, nm_eq, if_neg (by rcases hc with h | h <;> rw [h] <;> decide)] at e9a
      have e8b : fX2_readOne_93 700 go8 (if c = 33 then (33 : Int32) else (126 : Int32)) n dc1 p2 f1 tape8 D1 = some (dc', p', f', D') := by
        by_cases k : c = 33
        · rw [if_pos k] at e8a ⊢
          exact e8a
        · rw [if_neg k] at e8a ⊢
          exact e8a
      rw [uf_X2_readOne_93] at e8b
      obtain ⟨dc2, D2, en, e8c⟩ := mm_bd2s e8b
      have e9b : some ((if c = 45 then -w else (if w = 0 then (1 : Int32) else (0 : Int32))), a1, g1, o1 - (1 : Int32)) = some (v, a9, f9, o9) := by
        by_cases k : c = 45
        · rw [if_pos k] at e9a ⊢
          exact e9a
        · rw [if_neg k] at e9a ⊢
          by_cases k2 : w = 0
          · rw [if_pos k2] at e9a ⊢
            exact e9a
          · rw [if_neg k2] at e9a ⊢
            exact e9a
      apply mm_sub4 e8c
      apply mm_sub4 e9b
      by_cases hf : 0 ≤ f1.toInt
      · exact ⟨q.1, Or.inl hf⟩
      · have U := pq_u (d := d) (v := (if c = 45 then -w else (if w = 0 then (1 : Int32) else (0 : Int32)))) hb (by omega) q hf en (by rcases hc with h | h <;> rw [h] <;> decide) (fun S => by
          rcases hc with h | h
          · subst h
            rfl
          · subst h
            rfl)
        obtain ⟨-, z2 | ⟨-, -, z4, -⟩⟩ := q
        · exact absurd z2 hf
        · have ho : o1 - (1 : Int32) = d := by
            rw [z4]
            generalize hk : d1 - (1 : Int32) = k
            have ek := i_subE hk (by omega) (by omega)
            exact Int32.toInt_inj.mp (by omega)
          rw [ho]
          exact U
  by_cases c33 : r = 33
  · exact SG 33 (Or.inl rfl) c33 (by rw [hs]; exact (nb_c (by decide) (by decide)).mpr (by rw [← hr]; exact c33))
  by_cases c45 : r = 45
  · exact SG 45 (Or.inr rfl) c45 (by rw [hs]; exact (nb_c (by decide) (by decide)).mpr (by rw [← hr]; exact c45))
  have s33 : ¬ s = 33 := fun h => c33 (by rw [hr]; exact (nb_c (by decide) (by decide)).mp (by rw [← hs]; exact h))
  have s45 : ¬ s = 45 := fun h => c45 (by rw [hr]; exact (nb_c (by decide) (by decide)).mp (by rw [← hs]; exact h))
  rw [if_neg s33, if_neg s45] at e9
  by_cases c40 : r = 40
  · have s40 : s = 40 := by rw [hs]; exact (nb_c (by decide) (by decide)).mpr (by rw [← hr]; exact c40)
    have hlt : p.toInt < n.toInt := nb_l (c := 40) (b := (fun k => tape8.getD k 0)) (by decide) (by rw [← hr]; exact c40)
    rw [if_pos s40, s40, uf_X9_one_32] at e9
    have hd : ¬ (48 ≤ r.toInt ∧ r.toInt ≤ 57) := by rw [c40]; decide
    have hn : ¬ (r = 98 ∨ r = 102 ∨ r = 107 ∨ r = 110 ∨ r = 114 ∨ r = 119) := by rw [c40]; decide
    rw [decide_eq_false hd, if_pos rfl, na_e, bs_1, decide_eq_false hn, if_pos rfl] at e8
    by_cases g : (6 : Int32) ≤ d
    · have dg := i_le g
      rw [if_pos g, uf_X2_readOne_99, if_pos g] at e8
      rw [if_pos (Int32.toInt_inj.mp (by omega))] at e9
      exact FF (FL e8) (F9 e9)
    · have dg := i_nle g
      rw [if_neg g, if_neg c33, if_neg c45, uf_X2_readOne_99, if_neg g, if_pos c40, nm_eq] at e8
      rw [if_neg (fun k => absurd (i_eq k) (by omega)), nm_eq, nm_eq, if_pos rfl] at e9
      generalize hy : p + (1 : Int32) = p1 at e8 e9
      have ey := i_addE hy (by omega) (by omega)
      generalize hz : d + (1 : Int32) = d1 at e8 e9
      have ez := i_addE hz (by omega) (by omega)
      obtain ⟨dc1, p2, f1, D1, eg8, e8⟩ := mm_bd4s e8
      obtain ⟨w, a1, g1, o1, eg9, e9⟩ := mm_bd4s e9
      have q := RE d1 dc p1 D dc1 p2 f1 D1 w a1 g1 o1 (by omega) (by omega) (pb_n hb (by omega) hlt) eg8 eg9
      obtain ⟨rm, em, e8⟩ := mm_bd1s e8
      have hm := me_e em
      rw [uf_X9_one_83, if_pos rfl] at e9
      obtain ⟨rt, at_, et, e9⟩ := mm_bd2s e9
      by_cases hf : 0 ≤ f1.toInt
      · rw [if_pos hf] at hm
        rw [if_pos hm] at e8
        obtain ⟨u, eu, e8⟩ := mm_bd1s e8
        have hu := fl_8 eu
        rw [if_pos hf] at hu
        have hf9 : 0 ≤ g1.toInt := by rw [q.1]; exact hf
        unfold fX9_takes at et
        rw [if_pos (Int32.le_iff_toInt_le.mpr (by omega))] at et
        have et := sm_i et
        injection et with h1 h2
        rw [if_pos h1.symm] at e9
        obtain ⟨u1, u2, eu9, e9⟩ := mm_bd2s e9
        have hu9 := fl_9 eu9
        rw [if_pos hf9] at hu9
        apply mm_sub4 e8
        apply mm_sub4 e9
        exact ⟨by rw [hu, hu9]; exact q.1, Or.inl (by rw [hu]; exact hf)⟩
      · have q' := q
        obtain ⟨z1, z2 | ⟨z2, z3, z4, z5, z6, cs, z7, z8, z9, zp, z10⟩⟩ := q'
        · exact absurd z2 hf
        · rw [z3, z1, z2] at et
          obtain ⟨t1, t2⟩ := tk_e HB (by omega) et
          rw [if_neg m1_f] at t1
          rw [if_neg hf] at hm
          by_cases k : nb_8 (fun k => tape8.getD k 0) n p2 = 41
          · have k9 : nb_9 (fun k => tape8.getD k 0) n p2 = 41 := (nb_c (by decide) (by decide)).mpr k
            have hlt2 := nb_l (by decide) k
            rw [decide_eq_true k] at hm
            rw [decide_eq_true k9] at t1
            rw [if_pos t1] at t2
            rw [if_neg (by rw [hm]; decide), nm_eq] at e8
            rw [if_neg (by rw [t1]; decide), uf_X9_one_104, nm_eq, if_pos rfl, t2] at e9
            generalize hy2 : p2 + (1 : Int32) = p3 at e8 e9
            have ey2 := i_addE hy2 (by omega) (by omega)
            apply mm_sub4 e8
            apply mm_sub4 e9
            have ho : o1 - (1 : Int32) = d := by
              rw [z4]
              generalize hk : d1 - (1 : Int32) = k
              have ek := i_subE hk (by omega) (by omega)
              exact Int32.toInt_inj.mp (by omega)
            exact ⟨z1, Or.inr ⟨z2, rfl, ho, by omega, by omega, cs, z7, z8, by omega, zp, z10⟩⟩
          · have k9 : ¬ nb_9 (fun k => tape8.getD k 0) n p2 = 41 := fun h => k ((nb_c (by decide) (by decide)).mp h)
            rw [decide_eq_false k] at hm
            rw [decide_eq_false k9] at t1
            rw [if_neg (by rw [t1]; decide)] at t2
            rw [if_pos hm] at e8
            rw [if_pos t1] at e9
            obtain ⟨u, eu, e8⟩ := mm_bd1s e8
            have hu := fl_8 eu
            rw [if_neg hf] at hu
            obtain ⟨u1, u2, eu9, e9⟩ := mm_bd2s e9
            have hu9 := fl_9 eu9
            rw [if_neg (by rw [z1]; exact hf), t2] at hu9
            apply mm_sub4 e8
            apply mm_sub4 e9
            exact ⟨by rw [hu, hu9], Or.inl (by rw [hu]; omega)⟩
  have s40 : ¬ s = 40 := fun h => c40 (by rw [hr]; exact (nb_c (by decide) (by decide)).mp (by rw [← hs]; exact h))
  rw [if_neg s40] at e9
  obtain ⟨k, ek, e9⟩ := mm_bd1s e9
  obtain ⟨kn, kx⟩ := nn_e ek
  by_cases hna : na_w r
  · have hd : ¬ (48 ≤ r.toInt ∧ r.toInt ≤ 57) := by
      rcases hna with h | h | h | h | h | h <;> rw [h] <;> decide
    have hlt : p.toInt < n.toInt := nb_l (c := r) (b := (fun k => tape8.getD k 0)) (by rcases hna with h | h | h | h | h | h <;> rw [h] <;> decide) hr.symm
    have hsr : s = r := by rw [hs, hr]; exact nb_e hlt
    rw [hsr] at kn
    obtain ⟨k0, k5, kv⟩ := kn hna
    rw [decide_eq_false hd, if_pos rfl, na_e, bs_1, decide_eq_true (show r = 98 ∨ r = 102 ∨ r = 107 ∨ r = 110 ∨ r = 114 ∨ r = 119 from hna), if_neg (by decide), nm_eq] at e8
    rw [if_neg (fun q => absurd (i_lt q) (by omega)), nm_eq] at e9
    have e9 := ck_x e9
    obtain ⟨dc1, D1, en, e8⟩ := mm_bd2s e8
    obtain ⟨y1, y2⟩ := no_e b1 (by omega) b5 en
    generalize hy : p + (1 : Int32) = p1 at e8 e9
    have ey := i_addE hy (by omega) (by omega)
    apply mm_sub4 e8
    apply mm_sub4 e9
    refine ⟨rfl, Or.inr ⟨rfl, rfl, rfl, by omega, by omega, [r], y2, by rw [List.length_singleton]; omega, by rw [List.length_singleton]; omega, pu_1 (na_u hna), fun S => ?_⟩⟩
    rw [kv names]
    exact sx_n hna
  · have hns : ¬ na_w s := by
      intro h
      apply hna
      have h0 : ¬ s = 0 := by rcases h with h | h | h | h | h | h <;> rw [h] <;> decide
      have h1 : ¬ s = -1 := by rcases h with h | h | h | h | h | h <;> rw [h] <;> decide
      have : r = s := by rw [hr]; exact (nb_c h0 h1).mp hs.symm
      rw [this]
      exact h
    have hk := kx hns
    rw [hk, if_pos (by decide)] at e9
    by_cases hd : 48 ≤ r.toInt ∧ r.toInt ≤ 57
    · rw [decide_eq_true hd, if_neg (by decide)] at e8
      obtain ⟨dc1, p1, D1, en, e8⟩ := mm_bd3s e8
      unfold fX2_readNumber at en
      obtain ⟨q1, q2, q3, q4, q5, q6, q7, q8, q9, q10⟩ := nu_4 HB 700 700 (0 : Int32) (0 : Int32) dc p D dc1 p1 D1 v a9 f9 o9 hb (Or.inl ⟨n0, n0⟩) (fun _ => by rw [← hr]; exact hd) en e9
      have n1000 : (1000 : Int32).toInt = 1000 := by decide
      have hc := i_addE (rfl : (1000 : Int32) + v = _) (by omega) (by omega)
      have hne : ∀ z : Int32, z.toInt < 1000 → ¬ (1000 : Int32) + v = z := fun z hz h => absurd (i_eq h) (by omega)
      apply mm_sub4 e8
      refine ⟨q1, Or.inr ⟨rfl, q2, q3, q4, q5, [(1000 : Int32) + v], q8, by rw [List.length_singleton]; omega, by rw [List.length_singleton]; omega, pu_1 ⟨hne _ (by decide), hne _ (by decide)⟩, fun S => ?_⟩⟩
      show sx_w names ((1000 : Int32) + v) S = v :: S
      unfold sx_w
      rw [if_neg (by rintro (h | h | h | h | h | h) <;> exact hne _ (by decide) h), if_neg (hne _ (by decide)), if_neg (hne _ (by decide)), if_pos (Int32.le_iff_toInt_le.mpr (by omega))]
      have hv : ((1000 : Int32) + v) - (1000 : Int32) = v := by
        rw [Int32.add_comm, Int32.add_sub_cancel]
      rw [hv]
    · rw [decide_eq_false hd, if_pos rfl, na_e, bs_1, decide_eq_false (show ¬ (r = 98 ∨ r = 102 ∨ r = 107 ∨ r = 110 ∨ r = 114 ∨ r = 119) from hna), if_pos rfl] at e8
      have h8 : f' = p := by
        by_cases g : (6 : Int32) ≤ d
        · rw [if_pos g, uf_X2_readOne_99, if_pos g] at e8
          exact FL e8
        · rw [if_neg g, if_neg c33, if_neg c45, uf_X2_readOne_99, if_neg g, if_neg c40] at e8
          exact FL e8
      have h9 : f9 = p := by
        rw [show (700 : Nat) = 699 + 1 from rfl, uf_X9_one_176, if_neg (by decide)] at e9
        obtain ⟨s2, ns2, e9⟩ := mm_bd1s e9
        have g2 := HB p s2 (by omega) ns2
        have k9 : ¬ (48 ≤ s2.toInt ∧ s2.toInt ≤ 57) := fun h => hd (by rw [hr]; rw [g2] at h; exact nb_d9.mp h)
        have Q : fX9_one_229 700 go9 (0 : Int32) (0 : Int32) base p n (-1) d tape text names = some (v, a9, f9, o9) → f9 = p := by
          intro e
          rw [uf_X9_one_229, if_pos rfl] at e
          exact F9 e
        by_cases k1 : s2 < (48 : Int32)
        · rw [if_pos k1] at e9
          exact Q e9
        · have d1 := i_nlt k1
          have n48 : (48 : Int32).toInt = 48 := by decide
          have n57 : (57 : Int32).toInt = 57 := by decide
          rw [if_neg k1] at e9
          obtain ⟨s3, ns3, e9⟩ := mm_bd1s e9
          have g3 := HB p s3 (by omega) ns3
          rw [← g2] at g3
          rw [g3, if_pos (show (57 : Int32) < s2 by rw [Int32.lt_iff_toInt_lt]; omega)] at e9
          exact Q e9
      exact FF h8 h9
theorem on_M {tape8 : List Int32} {base n : Int32} {tape text names : List Int32} (HB : hb_w (fun k => tape8.getD k 0) base n tape text) : ∀ (M M' : Nat), rg_w tape8 base n tape text names (fX2_readOne 700 M) (fX9_one 700 M') := by
  intro M
  induction M with
  | zero =>
    intro M' d dc p D dc' p' f' D' v a9 f9 o9 d0 d6 hb e8
    exact absurd e8 (by intro h; cases h)
  | succ M ih =>
    intro M'
    cases M' with
    | zero =>
      intro d dc p D dc' p' f' D' v a9 f9 o9 d0 d6 hb e8 e9
      exact absurd e9 (by intro h; cases h)
    | succ M' =>
      intro d dc p D dc' p' f' D' v a9 f9 o9 d0 d6 hb e8 e9
      exact on_r HB (ih M') d dc p D dc' p' f' D' v a9 f9 o9 d0 d6 hb e8 e9
end
section
/-! The law: lines -/
def wy_w (nm : List Int32) : List Int32 → Bool → List Int32 → Int32
  | [], _, _ => 0
  | c :: cs, k, S => if c = 59 then (if k = true then S.headD 0 else wy_w nm cs true S.tail) else if c = 63 then wy_w nm cs (!decide (S.headD 0 = 0)) S.tail else wy_w nm cs k (sx_w nm c S)
theorem wy_a (nm : List Int32) : ∀ (a b : List Int32) (k : Bool) (S : List Int32), pu_w a → wy_w nm (a ++ b) k S = wy_w nm b k (xs_w nm a S) := by
  intro a
  induction a with
  | nil =>
    intro b k S _
    rfl
  | cons c a ih =>
    intro b k S h
    obtain ⟨h1, h2⟩ := h c (List.mem_cons_self ..)
    show (if c = 59 then (if k = true then S.headD 0 else wy_w nm (a ++ b) true S.tail) else if c = 63 then wy_w nm (a ++ b) (!decide (S.headD 0 = 0)) S.tail else wy_w nm (a ++ b) k (sx_w nm c S)) = _
    rw [if_neg h1, if_neg h2, ih b k _ (fun x hx => h x (List.mem_cons_of_mem c hx))]
    rfl
/-- a line: its steps, whether it holds, what it gives -/
def li_w (nm : List Int32) (h : Bool) (v : Int32) (L : List Int32) : Prop := ∀ rest S : List Int32, wy_w nm (L ++ rest) true S = if h = true then v else wy_w nm rest true S
theorem li_1 {nm cs : List Int32} {v : Int32} (hp : pu_w cs) (hx : ∀ S : List Int32, xs_w nm cs S = v :: S) : li_w nm true v (cs ++ [59]) := by
  intro rest S
  rw [List.append_assoc, wy_a nm cs _ true S hp, hx, if_pos rfl]
  rfl
theorem li_2 {nm cs cs2 : List Int32} {u v : Int32} (hp : pu_w cs) (hx : ∀ S : List Int32, xs_w nm cs S = u :: S) (hp2 : pu_w cs2) (hx2 : ∀ S : List Int32, xs_w nm cs2 S = v :: S) : li_w nm (!decide (u = 0)) v (cs ++ ([63] ++ (cs2 ++ [59]))) := by
  intro rest S
  rw [List.append_assoc, wy_a nm cs _ true S hp, hx]
  show wy_w nm ((cs2 ++ [59]) ++ rest) (!decide (u = 0)) S = _
  rw [List.append_assoc, wy_a nm cs2 _ _ S hp2, hx2]
  show (if (!decide (u = 0)) = true then v else wy_w nm rest true S) = _
  rfl
/-- the tape's rest behind a fault, in the class -/
theorem tf_f {n sc dc p f i r8 s8 sc' dc' p' f' : Int32} {tape8 stp D stp' D' : List Int32} {m : Nat} (hf : 0 ≤ f.toInt) (e : fX2_readTape_21 700 m i n sc dc p f tape8 stp D = some (r8, s8, sc', dc', p', f', stp', D')) : r8 = f ∧ f' = f ∧ sc' = sc ∧ stp' = stp ∧ s8 = 0 := by
  have n0 : (0 : Int32).toInt = 0 := by decide
  have K : fX2_readTape_71 700 n sc dc p f tape8 stp D = some (r8, s8, sc', dc', p', f', stp', D') → r8 = f ∧ f' = f ∧ sc' = sc ∧ stp' = stp ∧ s8 = 0 := by
    intro e
    rw [uf_X2_readTape_71, if_pos (Int32.le_iff_toInt_le.mpr (by omega)), uf_X2_readTape_108] at e
    apply mm_sub8 e
    exact ⟨rfl, rfl, rfl, rfl, rfl⟩
  have K2 : fX2_readTape_56 700 n sc dc p f tape8 stp D = some (r8, s8, sc', dc', p', f', stp', D') → r8 = f ∧ f' = f ∧ sc' = sc ∧ stp' = stp ∧ s8 = 0 := by
    intro e
    rw [uf_X2_readTape_56] at e
    by_cases c : n ≤ p
    · rw [if_pos c] at e
      exact K e
    · rw [if_neg c] at e
      obtain ⟨w, ew, e⟩ := mm_bd1s e
      have hw := fl_8 ew
      rw [if_pos hf] at hw
      rw [hw] at e
      exact K e
  cases m with
  | zero => exact absurd e (by intro h; cases h)
  | succ m =>
    rw [uf_X2_readTape_21] at e
    by_cases c : (120 : Int32) ≤ i
    · rw [if_pos c] at e
      exact K2 e
    · rw [if_neg c] at e
      obtain ⟨r1, m1, e⟩ := mm_bd1s e
      have h1 := me_e m1
      rw [if_pos hf] at h1
      rw [if_pos h1] at e
      exact K2 e
/-- and in the reference -/
theorem tf_g {base a n f o x3 x4 g b9 a9 n9 f9 o9 : Int32} {tape text names : List Int32} {m : Nat} (hf : 0 ≤ f.toInt) (e : fX9_workOut_96 700 (fX9_workOut_33 700 m) x3 x4 base a n f o tape text names = some (g, b9, a9, n9, f9, o9)) : f9 = f := by
  have n0 : (0 : Int32).toInt = 0 := by decide
  rw [uf_X9_workOut_96] at e
  obtain ⟨r, w, et, e⟩ := mm_bd2s e
  unfold fX9_takes at et
  rw [if_pos (Int32.le_iff_toInt_le.mpr (by omega))] at et
  have et := sm_i et
  injection et with h1 h2
  subst h1
  cases m with
  | zero => exact absurd e (by intro h; cases h)
  | succ m =>
    rw [uf_X9_workOut_33, if_pos (by decide), if_pos (Int32.le_iff_toInt_le.mpr (by omega))] at e
    apply mm_sub6 e
    rfl
theorem tf_74 {base a n f o x3 x4 x6 x7 g b9 a9 n9 f9 o9 : Int32} {tape text names : List Int32} {m : Nat} (hf : 0 ≤ f.toInt) (e : fX9_workOut_74 700 (fX9_workOut_33 700 m) x3 x4 x6 x7 base a n f o tape text names = some (g, b9, a9, n9, f9, o9)) : f9 = f := by
  have n0 : (0 : Int32).toInt = 0 := by decide
  rw [uf_X9_workOut_74, if_pos (Int32.le_iff_toInt_le.mpr (by omega))] at e
  exact tf_g hf e
/-- a line -/
theorem ln_e {tape8 : List Int32} {base n : Int32} {tape text names : List Int32} (HB : hb_w (fun k => tape8.getD k 0) base n tape text) {dc p dc' p' f' x3 x4 g b9 a9 n9 f9 o9 : Int32} {D D' : List Int32} {m : Nat} (hb : pb_w n dc p D) (hx : x3 = 0 ∨ x3 = 1) (e8 : fX2_readLine 700 n dc p (-1) tape8 D = some (dc', p', f', D')) (e9 : fX9_workOut_33 700 (m + 1) x3 x4 1 base p n (-1) 0 tape text names = some (g, b9, a9, n9, f9, o9)) : (0 ≤ f'.toInt ∧ f9 = f') ∨ (f' = -1 ∧ p.toInt ≤ p'.toInt ∧ p'.toInt ≤ n.toInt ∧ ∃ (L : List Int32) (h : Bool) (v : Int32), cs_w dc.toInt.toNat D D' L ∧ dc'.toInt = dc.toInt + L.length ∧ (L.length : Int) ≤ p'.toInt - p.toInt + 1 ∧ 1 ≤ L.length ∧ li_w names h v L ∧ fX9_workOut_96 700 (fX9_workOut_33 700 m) (if h = true ∧ x3 = 0 then (1 : Int32) else x3) (if h = true ∧ x3 = 0 then v else x4) base p' n (-1) 0 tape text names = some (g, b9, a9, n9, f9, o9)) := by
  have n0 : (0 : Int32).toInt = 0 := by decide
  have n1 : (1 : Int32).toInt = 1 := by decide
  obtain ⟨b1, b2, b3, b4, b5⟩ := id hb
  have RE : rg_w tape8 base n tape text names (fX2_readEither 700 (fX2_readOne 700 8)) (fX9_either 700 (fX9_one 700 8)) := ei_r HB (bo_r HB (cm_r HB (su_r HB (pd_r HB (on_M HB 8 8)))))
  rw [uf_X2_readLine] at e8
  rw [uf_X9_workOut_33, if_neg (by decide)] at e9
  obtain ⟨dc1, p1, f1, D1, eg8, e8⟩ := mm_bd4s e8
  obtain ⟨u, a1, g1, o1, eg9, e9⟩ := mm_bd4s e9
  have q := RE 0 dc p D dc1 p1 f1 D1 u a1 g1 o1 (by decide) (by decide) hb eg8 eg9
  obtain ⟨rm, em, e8⟩ := mm_bd1s e8
  have hm := me_e em
  obtain ⟨rt, at_, et, e9⟩ := mm_bd2s e9
  -- what follows a line's last part
  have G : ∀ (x6 x7 a o : Int32) (h : Bool), x7 = mm_b h → fX9_workOut_74 700 (fX9_workOut_33 700 m) x3 x4 x6 x7 base a n (-1) o tape text names = some (g, b9, a9, n9, f9, o9) → fX9_workOut_96 700 (fX9_workOut_33 700 m) (if h = true ∧ x3 = 0 then (1 : Int32) else x3) (if h = true ∧ x3 = 0 then x6 else x4) base a n (-1) o tape text names = some (g, b9, a9, n9, f9, o9) := by
    intro x6 x7 a o h hh e
    rw [uf_X9_workOut_74, if_neg (by decide)] at e
    cases h with
    | false =>
      rw [if_pos (by rw [hh]; decide)] at e
      rw [if_neg (fun k => absurd k.1 (by decide)), if_neg (fun k => absurd k.1 (by decide))]
      exact e
    | true =>
      rw [if_neg (by rw [hh]; decide)] at e
      by_cases k : x3 = 0
      · rw [if_pos k] at e
        rw [if_pos ⟨rfl, k⟩, if_pos ⟨rfl, k⟩]
        exact e
      · rw [if_neg k] at e
        rw [if_neg (fun h => k h.2), if_neg (fun h => k h.2)]
        exact e
  by_cases hf : 0 ≤ f1.toInt
  · rw [if_pos hf] at hm
    rw [if_pos hm, uf_X2_readLine_35] at e8
    obtain ⟨w1, w2, -, e8⟩ := mm_bd2s e8
    have hf9 : 0 ≤ g1.toInt := by rw [q.1]; exact hf
    unfold fX9_takes at et
    rw [if_pos (Int32.le_iff_toInt_le.mpr (by omega))] at et
    have et := sm_i et
    injection et with h1 h2
    rw [if_pos h1.symm] at e9
    have q9 := tf_74 hf9 e9
    apply mm_sub4 e8
    exact Or.inl ⟨hf, by rw [q9]; exact q.1⟩
  · have qb := pq_b hb q hf
    obtain ⟨z1, z2 | ⟨z2, z3, z4, z5, z6, cs, z7, z8, z9, zp, z10⟩⟩ := q
    · exact absurd z2 hf
    · rw [z3, z1, z2] at et
      obtain ⟨t1, t2⟩ := tk_e HB (by omega) et
      rw [if_neg m1_f] at t1
      rw [if_neg hf] at hm
      rw [z1, z2, z4] at e9
      rw [z2] at e8
      have hc1 : dc.toInt.toNat + cs.length = dc1.toInt.toNat := by omega
      by_cases k : nb_8 (fun k => tape8.getD k 0) n p1 = 63
      · have k9 : nb_9 (fun k => tape8.getD k 0) n p1 = 63 := (nb_c (by decide) (by decide)).mpr k
        have hlt := nb_l (by decide) k
        rw [decide_eq_true k] at hm
        rw [decide_eq_true k9] at t1
        rw [if_pos t1] at t2
        rw [if_neg (by rw [hm]; decide), nm_eq] at e8
        rw [if_neg (by rw [t1]; decide), t2] at e9
        obtain ⟨dc2, D2, en, e8⟩ := mm_bd2s e8
        obtain ⟨y1, y2⟩ := no_e (by omega) (by omega) z7.1 en
        have e9' : fX9_workOut_66 700 (fX9_workOut_33 700 m) x3 x4 (mm_b (!decide (u = 0))) base (p1 + (1 : Int32)) n (-1) 0 tape text names = some (g, b9, a9, n9, f9, o9) := by
          by_cases hu : u = 0
          · rw [if_pos hu] at e9
            rw [decide_eq_true hu]
            exact e9
          · rw [if_neg hu] at e9
            rw [decide_eq_false hu]
            exact e9
        rw [uf_X9_workOut_66] at e9'
        generalize hy : p1 + (1 : Int32) = p2 at e8 e9'
        have ey := i_addE hy (by omega) (by omega)
        obtain ⟨dc3, p3, f3, D3, eh8, e8⟩ := mm_bd4s e8
        obtain ⟨v, a3, g3, o3, eh9, e9a⟩ := mm_bd4s e9'
        have q2 := RE 0 dc2 p2 D2 dc3 p3 f3 D3 v a3 g3 o3 (by decide) (by decide) ⟨by omega, by omega, by omega, b4, y2.1⟩ eh8 eh9
        rw [uf_X2_readLine_35] at e8
        obtain ⟨dc4, D4, en4, e8⟩ := mm_bd2s e8
        by_cases hf3 : 0 ≤ f3.toInt
        · have q9 := tf_74 (by rw [q2.1]; exact hf3) e9a
          apply mm_sub4 e8
          exact Or.inl ⟨hf3, by rw [q9]; exact q2.1⟩
        · obtain ⟨w1, w2 | ⟨w2, w3, w4, w5, w6, cs2, w7, w8, w9, wp, w10⟩⟩ := q2
          · exact absurd w2 hf3
          · rw [w1, w2, w3, w4] at e9a
            obtain ⟨v1, v2⟩ := no_e (by omega) (by omega) w7.1 en4
            apply mm_sub4 e8
            have hc2 : dc1.toInt.toNat + 1 = dc2.toInt.toNat := by omega
            have hc3 : dc2.toInt.toNat + cs2.length = dc3.toInt.toNat := by omega
            refine Or.inr ⟨w2, by omega, w6, cs ++ ([63] ++ (cs2 ++ [59])), !decide (u = 0), v, ?_, ?_, ?_, ?_, li_2 zp (fun S => z10 S) wp (fun S => w10 S), G v _ p3 0 _ rfl e9a⟩
            · refine cs_t z7 ?_
              rw [hc1]
              refine cs_t y2 ?_
              rw [List.length_singleton, hc2]
              refine cs_t w7 ?_
              rw [hc3]
              exact v2
            · simp only [List.length_append, List.length_singleton]
              omega
            · simp only [List.length_append, List.length_singleton]
              omega
            · simp only [List.length_append, List.length_singleton]
              omega
      · have k9 : ¬ nb_9 (fun k => tape8.getD k 0) n p1 = 63 := fun h => k ((nb_c (by decide) (by decide)).mp h)
        rw [decide_eq_false k] at hm
        rw [decide_eq_false k9] at t1
        rw [if_neg (by rw [t1]; decide)] at t2
        rw [if_pos hm, uf_X2_readLine_35] at e8
        rw [if_pos t1, t2] at e9
        obtain ⟨dc4, D4, en4, e8⟩ := mm_bd2s e8
        obtain ⟨v1, v2⟩ := no_e (by omega) (by omega) z7.1 en4
        apply mm_sub4 e8
        refine Or.inr ⟨rfl, by omega, z6, cs ++ [59], true, u, ?_, ?_, ?_, ?_, li_1 zp (fun S => z10 S), G u 1 p1 0 true rfl e9⟩
        · refine cs_t z7 ?_
          rw [hc1]
          exact v2
        · rw [List.length_append, List.length_singleton]
          omega
        · rw [List.length_append, List.length_singleton]
          omega
        · rw [List.length_append, List.length_singleton]
          omega
theorem cp_g {xs ys : List Int32} {n : Int32} (h1 : xs.length = 121) (h2 : ys.length = 121) (n0 : 0 ≤ n.toInt) (n1 : n.toInt ≤ 121) (k : Nat) (hk : k < n.toInt.toNat) : (mm_cp xs ys 0 0 n).getD k 0 = xs.getD k 0 := by
  have e0 : (0 : Int32).toNatClampNeg = 0 := by decide
  have en : n.toNatClampNeg = n.toInt.toNat := rfl
  unfold mm_cp
  rw [e0, en, List.take_zero, List.drop_zero, List.nil_append, List.getD_eq_getElem?_getD, List.getD_eq_getElem?_getD, List.getElem?_append_left (by rw [List.length_take]; omega), List.getElem?_take, if_pos hk]
/-- the lines behind the first -/
theorem tl_21 {tape8 : List Int32} {base n : Int32} {tape text names : List Int32} (HB : hb_w (fun k => tape8.getD k 0) base n tape text) {sc r8 s8 sc' dc' p' f' g b9 a9 n9 f9 o9 : Int32} {stp stp' D' : List Int32} (hl : stp.length = 121) : ∀ (m m' : Nat) (i dc p x3 x4 : Int32) (D : List Int32), 0 ≤ dc.toInt → dc.toInt ≤ p.toInt + 1 → 0 ≤ p.toInt → p.toInt ≤ n.toInt → n.toInt ≤ 120 → D.length = 121 → 0 ≤ i.toInt → i.toInt ≤ p.toInt → (x3 = 0 ∨ x3 = 1) → (x3 = 0 → x4 = 0) → fX2_readTape_21 700 m i n sc dc p (-1) tape8 stp D = some (r8, s8, sc', dc', p', f', stp', D') → fX9_workOut_96 700 (fX9_workOut_33 700 m') x3 x4 base p n (-1) 0 tape text names = some (g, b9, a9, n9, f9, o9) → f9 = f' ∧ r8 = f' ∧ s8 = 0 ∧ ((0 ≤ f'.toInt ∧ sc' = sc ∧ stp' = stp) ∨ (f' = -1 ∧ ∃ prog : List Int32, (∀ k : Nat, k < dc.toInt.toNat → stp'.getD k 0 = D.getD k 0) ∧ (∀ k : Nat, k < prog.length → stp'.getD (dc.toInt.toNat + k) 0 = prog.getD k 0) ∧ sc'.toInt = dc.toInt + prog.length ∧ sc'.toInt ≤ 121 ∧ ∀ S : List Int32, g = if x3 = 0 then wy_w names prog true S else x4)) := by
  have n0 : (0 : Int32).toInt = 0 := by decide
  have n1 : (1 : Int32).toInt = 1 := by decide
  have n120 : (120 : Int32).toInt = 120 := by decide
  intro m
  induction m with
  | zero =>
    intro m' i dc p x3 x4 D h0 h1 p0 h2 h3 h4 i0 i1 hx hx4 e8
    exact absurd e8 (by intro h; cases h)
  | succ m ih =>
    intro m' i dc p x3 x4 D h0 h1 p0 h2 h3 h4 i0 i1 hx hx4 e8 e9
    rw [uf_X9_workOut_96] at e9
    obtain ⟨rt, at_, et, e9⟩ := mm_bd2s e9
    obtain ⟨t1, t2⟩ := tk_e HB p0 et
    rw [if_neg m1_f] at t1
    rw [uf_X2_readTape_21] at e8
    cases m' with
    | zero => exact absurd e9 (by intro h; cases h)
    | succ m' =>
      by_cases k : nb_8 (fun k => tape8.getD k 0) n p = 59
      · have k9 : nb_9 (fun k => tape8.getD k 0) n p = 59 := (nb_c (by decide) (by decide)).mpr k
        have hlt := nb_l (by decide) k
        rw [decide_eq_true k9] at t1
        rw [if_pos t1] at t2
        rw [t1, t2] at e9
        have e9m : fX9_workOut_33 700 (m' + 1) x3 x4 1 base (p + (1 : Int32)) n (-1) 0 tape text names = some (g, b9, a9, n9, f9, o9) := e9
        rw [if_neg (fun h => absurd (i_le h) (by omega))] at e8
        obtain ⟨r1, m1, e8⟩ := mm_bd1s e8
        have h1' := me_e m1
        rw [if_neg m1_f, decide_eq_true k] at h1'
        rw [if_neg (by rw [h1']; decide), nm_eq] at e8
        generalize hy : p + (1 : Int32) = p1 at e8 e9m
        have ey := i_addE hy (by omega) (by omega)
        obtain ⟨dc1, p2, f1, D1, el, e8⟩ := mm_bd4s e8
        rw [nm_eq] at e8
        rcases ln_e HB ⟨h0, by omega, by omega, h3, h4⟩ hx el e9m with ⟨hf, hf9⟩ | ⟨q1, q2, q3, L, h, v, q4, q5, q6, q6', q7, q8⟩
        · obtain ⟨u1, u2, u3, u4, u5⟩ := tf_f hf e8
          exact ⟨by rw [hf9, u2], by rw [u1, u2], u5, Or.inl ⟨by rw [u2]; exact hf, u3, u4⟩⟩
        · rw [q1] at e8
          generalize hj : i + (1 : Int32) = j at e8
          have ej := i_addE hj (by omega) (by omega)
          have hx' : (if h = true ∧ x3 = 0 then (1 : Int32) else x3) = 0 ∨ (if h = true ∧ x3 = 0 then (1 : Int32) else x3) = 1 := by
            by_cases w : h = true ∧ x3 = 0
            · rw [if_pos w]
              exact Or.inr rfl
            · rw [if_neg w]
              exact hx
          have hx4' : (if h = true ∧ x3 = 0 then (1 : Int32) else x3) = 0 → (if h = true ∧ x3 = 0 then v else x4) = 0 := by
            intro w
            by_cases w2 : h = true ∧ x3 = 0
            · rw [if_pos w2] at w
              exact absurd w (by decide)
            · rw [if_neg w2] at w ⊢
              exact hx4 w
          obtain ⟨v1, v2, v2', v3⟩ := ih m' j dc1 p2 _ _ D1 (by omega) (by omega) (by omega) q3 h3 q4.1 (by omega) (by omega) hx' hx4' e8 q8
          refine ⟨v1, v2, v2', ?_⟩
          rcases v3 with v3 | ⟨v4, prog, v7, v8, v9, v9', v10⟩
          · exact Or.inl v3
          · have hdc : dc.toInt.toNat + L.length = dc1.toInt.toNat := by omega
            refine Or.inr ⟨v4, L ++ prog, fun k hk => ?_, fun k hk => ?_, ?_, v9', fun S => ?_⟩
            · rw [v7 k (by omega), q4.2.1 k hk]
            · rw [List.length_append] at hk
              by_cases w : k < L.length
              · rw [v7 (dc.toInt.toNat + k) (by omega), q4.2.2 k w, List.getD_eq_getElem?_getD, List.getD_eq_getElem?_getD, List.getElem?_append_left w]
              · have e1 : dc.toInt.toNat + k = dc1.toInt.toNat + (k - L.length) := by omega
                rw [e1, v8 (k - L.length) (by omega), List.getD_eq_getElem?_getD, List.getD_eq_getElem?_getD, List.getElem?_append_right (by omega)]
            · rw [List.length_append]
              omega
            · have q := v10 S
              rw [q7 prog S]
              by_cases w : x3 = 0
              · rw [if_pos w]
                by_cases w2 : h = true
                · rw [if_pos w2]
                  rw [if_pos (c := h = true ∧ x3 = 0) ⟨w2, w⟩, if_pos (c := h = true ∧ x3 = 0) ⟨w2, w⟩, if_neg (by decide)] at q
                  exact q
                · rw [if_neg w2]
                  rw [if_neg (c := h = true ∧ x3 = 0) (fun z => w2 z.1), if_neg (c := h = true ∧ x3 = 0) (fun z => w2 z.1), if_pos w] at q
                  exact q
              · rw [if_neg w]
                rw [if_neg (c := h = true ∧ x3 = 0) (fun z => w z.2), if_neg (c := h = true ∧ x3 = 0) (fun z => w z.2), if_neg w] at q
                exact q
      · have k9 : ¬ nb_9 (fun k => tape8.getD k 0) n p = 59 := fun h => k ((nb_c (by decide) (by decide)).mp h)
        rw [decide_eq_false k9] at t1
        rw [if_neg (by rw [t1]; decide)] at t2
        rw [t1, t2] at e9
        have e9m : fX9_workOut_33 700 (m' + 1) x3 x4 0 base p n (-1) 0 tape text names = some (g, b9, a9, n9, f9, o9) := e9
        rw [uf_X9_workOut_33, if_pos rfl, if_neg (by decide)] at e9m
        have e8m : fX2_readTape_56 700 n sc dc p (-1) tape8 stp D = some (r8, s8, sc', dc', p', f', stp', D') := by
          by_cases c0 : (120 : Int32) ≤ i
          · rw [if_pos c0] at e8
            exact e8
          · rw [if_neg c0] at e8
            obtain ⟨r1, m1, e8⟩ := mm_bd1s e8
            have h1' := me_e m1
            rw [if_neg m1_f, decide_eq_false k] at h1'
            rw [if_pos h1'] at e8
            exact e8
        rw [uf_X2_readTape_56] at e8m
        by_cases c : n ≤ p
        · rw [if_pos c, uf_X2_readTape_71, if_neg (by decide)] at e8m
          rw [if_pos c] at e9m
          have e8n := ck_x e8m
          rw [nm_eq, uf_X2_readTape_108] at e8n
          apply mm_sub8 e8n
          apply mm_sub6 e9m
          refine ⟨rfl, rfl, rfl, Or.inr ⟨rfl, [], fun k hk => cp_g h4 hl h0 (by omega) k hk, fun k hk => absurd hk (by rw [List.length_nil]; omega), by rw [List.length_nil]; omega, by omega, fun S => ?_⟩⟩
          by_cases w : x3 = 0
          · rw [if_pos w]
            exact hx4 w
          · rw [if_neg w]
        · rw [if_neg c] at e8m e9m
          obtain ⟨w, ew, e8n⟩ := mm_bd1s e8m
          have hw := fl_8 ew
          rw [if_neg m1_f] at hw
          obtain ⟨w1, w2, ew9, e9n⟩ := mm_bd2s e9m
          have hw9 := fl_9 ew9
          rw [if_neg m1_f] at hw9
          rw [hw, uf_X2_readTape_71, if_pos (Int32.le_iff_toInt_le.mpr (by omega)), uf_X2_readTape_108] at e8n
          apply mm_sub8 e8n
          apply mm_sub6 e9n
          exact ⟨hw9, rfl, rfl, Or.inl ⟨p0, rfl, rfl⟩⟩
/-- the whole tape -/
theorem lw_e {tape8 : List Int32} {base n : Int32} {tape text names : List Int32} (HB : hb_w (fun k => tape8.getD k 0) base n tape text) {sc dc0 pl0 fa0 r8 s8 sc' dc' p' f' b1 a1 n1 f1 o1 g b9 a9 n9 f9 o9 : Int32} {stp D0 stp' D' : List Int32} (h0 : 0 ≤ n.toInt) (h1 : n.toInt ≤ 120) (hl : stp.length = 121) (hd : D0.length = 121) (e8 : fX2_readTape 700 n sc dc0 pl0 fa0 tape8 stp D0 = some (r8, s8, sc', dc', p', f', stp', D')) (e9 : fX9_workOut 700 base n b1 a1 n1 f1 o1 tape text names = some (g, b9, a9, n9, f9, o9)) : f9 = f' ∧ r8 = f' ∧ s8 = 0 ∧ ((0 ≤ f'.toInt ∧ sc' = sc ∧ stp' = stp) ∨ (f' = -1 ∧ ∃ prog : List Int32, (∀ k : Nat, k < prog.length → stp'.getD k 0 = prog.getD k 0) ∧ sc'.toInt = prog.length ∧ 1 ≤ prog.length ∧ sc'.toInt ≤ 121 ∧ ∀ S : List Int32, g = wy_w names prog true S)) := by
  have n0 : (0 : Int32).toInt = 0 := by decide
  have z0 : (0 : Int32).toInt.toNat = 0 := by decide
  rw [uf_X2_readTape] at e8
  rw [uf_X9_workOut] at e9
  obtain ⟨dc1, p1, f1', D1, el, e8⟩ := mm_bd4s e8
  rcases ln_e (m := 699) HB ⟨by omega, by omega, by omega, h1, hd⟩ (Or.inl rfl) el e9 with ⟨hf, hf9⟩ | ⟨q1, q2, q3, L, h, v, q4, q5, q6, q6', q7, q8⟩
  · obtain ⟨u1, u2, u3, u4, u5⟩ := tf_f hf e8
    exact ⟨by rw [hf9, u2], by rw [u1, u2], u5, Or.inl ⟨by rw [u2]; exact hf, u3, u4⟩⟩
  · rw [q1] at e8
    have hx' : (if h = true ∧ (0 : Int32) = 0 then (1 : Int32) else 0) = 0 ∨ (if h = true ∧ (0 : Int32) = 0 then (1 : Int32) else 0) = 1 := by
      by_cases w : h = true ∧ (0 : Int32) = 0
      · rw [if_pos w]
        exact Or.inr rfl
      · rw [if_neg w]
        exact Or.inl rfl
    have hx4' : (if h = true ∧ (0 : Int32) = 0 then (1 : Int32) else 0) = 0 → (if h = true ∧ (0 : Int32) = 0 then v else (0 : Int32)) = 0 := by
      intro w
      by_cases w2 : h = true ∧ (0 : Int32) = 0
      · rw [if_pos w2] at w
        exact absurd w (by decide)
      · rw [if_neg w2]
    obtain ⟨v1, v2, v2', v3⟩ := tl_21 HB hl 700 699 (0 : Int32) dc1 p1 _ _ D1 (by omega) (by omega) (by omega) q3 h1 q4.1 (by omega) (by omega) hx' hx4' e8 q8
    refine ⟨v1, v2, v2', ?_⟩
    rcases v3 with v3 | ⟨v4, prog, v7, v8, v9, v9', v10⟩
    · exact Or.inl v3
    · rw [z0] at q4
      have hdc : L.length = dc1.toInt.toNat := by omega
      refine Or.inr ⟨v4, L ++ prog, fun k hk => ?_, ?_, ?_, v9', fun S => ?_⟩
      · rw [List.length_append] at hk
        by_cases w : k < L.length
        · have e1 := q4.2.2 k w
          rw [Nat.zero_add] at e1
          rw [v7 k (by omega), e1, List.getD_eq_getElem?_getD, List.getD_eq_getElem?_getD, List.getElem?_append_left w]
        · have e1 : k = dc1.toInt.toNat + (k - L.length) := by omega
          have e2 := v8 (k - L.length) (by omega)
          rw [← e1] at e2
          rw [e2, List.getD_eq_getElem?_getD, List.getD_eq_getElem?_getD, List.getElem?_append_right (by omega)]
      · rw [List.length_append]
        omega
      · rw [List.length_append]
        omega
      · have q := v10 S
        rw [q7 prog S]
        by_cases w2 : h = true
        · rw [if_pos w2]
          rw [if_pos (c := h = true ∧ (0 : Int32) = 0) ⟨w2, rfl⟩, if_pos (c := h = true ∧ (0 : Int32) = 0) ⟨w2, rfl⟩, if_neg (by decide)] at q
          exact q
        · rw [if_neg w2]
          rw [if_neg (c := h = true ∧ (0 : Int32) = 0) (fun z => w2 z.1), if_neg (c := h = true ∧ (0 : Int32) = 0) (fun z => w2 z.1), if_pos rfl] at q
          exact q
end
section
/-! law alike -/
theorem hb_t {n : Int32} {tape text : List Int32} : hb_w (fun k => tape.getD k 0) (-1) n tape text := by
  intro p r p0 e
  unfold fX9_byteAt at e
  unfold nb_9
  by_cases c : n ≤ p
  · rw [if_pos c] at e ⊢
    exact (sm_i e).symm
  · rw [if_neg c, if_neg (by decide)] at e
    rw [if_neg c]
    exact (sm_i (ck_x e)).symm
theorem lx_37 {x2 tm txm b a en f o : Int32} {tape names : List Int32} (h2 : x2.toInt ≤ 120) : ∀ (m : Nat) (x3 : Int32) (text : List Int32) (r tm' txm' b' a' en' f' o' : Int32) (text' : List Int32), fX9_law_37 700 m x2 x3 tm txm b a en f o tape text names = some (r, tm', txm', b', a', en', f', o', text') → 0 ≤ x3.toInt → text.length = 120 → r = 1 ∧ tm' = tm ∧ txm' = x2 ∧ text'.length = 120 ∧ (∀ k : Nat, k < x3.toInt.toNat → text'.getD k 0 = text.getD k 0) ∧ (∀ k : Nat, x3.toInt.toNat ≤ k → (k : Int) < x2.toInt → text'.getD k 0 = tape.getD k 0) := by
  have n1 : (1 : Int32).toInt = 1 := by decide
  intro m
  induction m with
  | zero =>
    intro x3 text r tm' txm' b' a' en' f' o' text' e
    exact absurd e (by intro h; cases h)
  | succ m ih =>
    intro x3 text r tm' txm' b' a' en' f' o' text' e p0 l
    rw [uf_X9_law_37] at e
    by_cases c : x2 ≤ x3
    · have d := i_le c
      rw [if_pos c] at e
      apply mm_sub9 e
      exact ⟨rfl, rfl, rfl, l, fun _ _ => rfl, fun k k0 k1 => absurd k1 (by omega)⟩
    · have d := i_nle c
      rw [if_neg c] at e
      have e := ck_x e
      rw [nm_eq] at e
      have e := ck_x e
      rw [nm_eq, nm_eq] at e
      have s1 := ps_is text x3 (mm_ig tape x3)
      generalize hy : x3 + (1 : Int32) = y at e
      have ey := i_addE hy (by omega) (by omega)
      obtain ⟨q1, q2, q3, q4, q5, q6⟩ := ih y _ r tm' txm' b' a' en' f' o' text' e (by omega) (by rw [is_len]; exact l)
      refine ⟨q1, q2, q3, q4, fun k hk => ?_, fun k k0 k1 => ?_⟩
      · rw [q5 k (by omega), ps_ne s1 (by omega) (by omega)]
      · by_cases g : x3.toInt.toNat = k
        · rw [q5 k (by omega), ← g, ps_at s1 (by omega)]
          rfl
        · exact q6 k (by omega) k1
set_option maxHeartbeats 4000000 in
theorem rs_law_a {v_wearing_size : Int32} {v_wearing_stepCount : Int32} {v_wearing_draftCount : Int32} {v_wearing_place : Int32} {v_wearing_fault : Int32} {v_wearing_tape : List Int32} {v_wearing_steps : List Int32} {v_wearing_draft : List Int32} {v_wearing_stack : List Int32} {m_tapeMany : Int32} {m_textMany : Int32} {m_base : Int32} {m_at : Int32} {m_ends : Int32} {m_fault : Int32} {m_opened : Int32} {m_tape : List Int32} {m_text : List Int32} {m_names : List Int32} {m_bends : List Int32} {m_high : List Int32} {m_to : List Int32} {m_pileSize : List Int32} (g8_0 : gi_la v_wearing_size v_wearing_stepCount v_wearing_draftCount v_wearing_tape v_wearing_steps v_wearing_draft v_wearing_stack) (g9_0 : gm_tx m_tapeMany m_textMany m_tape m_text m_names m_bends m_high m_to m_pileSize) (hr_0 : rl_tp v_wearing_size v_wearing_tape m_tapeMany m_tape) : ∃ (r : Int32) (p_wearing_size : Int32) (p_wearing_stepCount : Int32) (p_wearing_draftCount : Int32) (p_wearing_place : Int32) (p_wearing_fault : Int32) (p_wearing_steps : List Int32) (p_wearing_draft : List Int32) (q_tapeMany : Int32) (q_textMany : Int32) (q_base : Int32) (q_at : Int32) (q_ends : Int32) (q_fault : Int32) (q_opened : Int32) (q_text : List Int32), fX8_law 700 v_wearing_size v_wearing_stepCount v_wearing_draftCount v_wearing_place v_wearing_fault v_wearing_tape v_wearing_steps v_wearing_draft = some (r, p_wearing_size, p_wearing_stepCount, p_wearing_draftCount, p_wearing_place, p_wearing_fault, p_wearing_steps, p_wearing_draft) ∧ fX9_law 700 m_tapeMany m_textMany m_base m_at m_ends m_fault m_opened m_tape m_text m_names = some (r, q_tapeMany, q_textMany, q_base, q_at, q_ends, q_fault, q_opened, q_text) ∧ gi_la p_wearing_size p_wearing_stepCount p_wearing_draftCount v_wearing_tape p_wearing_steps p_wearing_draft v_wearing_stack ∧ gm_tx q_tapeMany q_textMany m_tape q_text m_names m_bends m_high m_to m_pileSize ∧ rl_tp p_wearing_size v_wearing_tape q_tapeMany m_tape := by
  obtain ⟨⟨r8, p_wearing_size, p_wearing_stepCount, p_wearing_draftCount, p_wearing_place, p_wearing_fault, p_wearing_steps, p_wearing_draft⟩, e8, -⟩ := st8_law (v_wearing_place := v_wearing_place) (v_wearing_fault := v_wearing_fault) g8_0
  obtain ⟨⟨r9, q_tapeMany, q_textMany, q_base, q_at, q_ends, q_fault, q_opened, q_text⟩, e9, -⟩ := st9_law (v_base := m_base) (v_at := m_at) (v_ends := m_ends) (v_fault := m_fault) (v_opened := m_opened) g9_0
  have k8 := wp_get (st8_law g8_0) e8
  have k9 := wp_get (st9_law g9_0) e9
  obtain ⟨a0, a1, -, -, -, -, -, a7, a8, -⟩ := id g8_0
  obtain ⟨-, -, -, -, -, c5, -⟩ := id g9_0
  obtain ⟨rfl, rfl⟩ := hr_0
  have n0 : (0 : Int32).toInt = 0 := by decide
  have X : r9 = r8 ∧ q_tapeMany = p_wearing_size := by
    have f8 := e8
    have f9 := e9
    unfold fX8_law at f8
    unfold fX9_law at f9
    obtain ⟨u0, u1, u2, u3, u4, u5, u6, u7, et, f8⟩ := mm_bd8s f8
    obtain ⟨v0, v1, v2, v3, v4, v5, ew, f9⟩ := mm_bd6s f9
    obtain ⟨q1, q2, q3, q4⟩ := lw_e hb_t a0 a1 a7 a8 et ew
    rcases q4 with ⟨hf, -⟩ | ⟨hf, -⟩
    · rw [if_pos (Int32.le_iff_toInt_le.mpr (by rw [q2]; omega))] at f8
      rw [if_neg (fun h => absurd (i_lt h) (by rw [q1]; omega))] at f9
      apply mm_sub8 f8
      apply mm_sub9 f9
      exact ⟨by rw [q1, q2], q3.symm⟩
    · rw [if_neg (by rw [q2, hf]; decide)] at f8
      rw [if_pos (by rw [q1, hf]; decide)] at f9
      obtain ⟨w1, w2, -⟩ := lx_37 a1 700 _ _ _ _ _ _ _ _ _ _ _ f9 (by decide) c5
      apply mm_sub8 f8
      exact ⟨w1, by rw [w2, q3]⟩
  obtain ⟨er, es⟩ := X
  subst er
  subst es
  exact ⟨_, _, _, _, _, _, _, _, _, _, _, _, _, _, _, _, e8, e9, k8, k9, rfl, rfl⟩
end
section
/-! The law: steps worked off -/
def sk_w (t : Int32) (st S : List Int32) : Prop := st.length = 121 ∧ 0 ≤ t.toInt ∧ S.length = t.toInt.toNat ∧ ∀ i : Nat, i < S.length → st.getD (S.length - 1 - i) 0 = S.getD i 0
theorem po_e {t r t' : Int32} {st S : List Int32} (h : sk_w t st S) (ht : t.toInt ≤ 121) (e : fX2_pop 700 t st = some (r, t')) : r = S.headD 0 ∧ sk_w t' st S.tail ∧ t'.toInt ≤ t.toInt := by
  have n0 : (0 : Int32).toInt = 0 := by decide
  have n1 : (1 : Int32).toInt = 1 := by decide
  obtain ⟨h1, h2, h3, h4⟩ := h
  unfold fX2_pop at e
  by_cases c : t = 0
  · rw [if_pos c] at e
    rw [c, n0] at h3
    have hS : S = [] := List.length_eq_zero_iff.mp h3
    subst hS
    apply mm_sub2 e
    exact ⟨rfl, ⟨h1, h2, by rw [c, n0]; rfl, fun i hi => absurd hi (by intro k; cases k)⟩, Int.le_refl _⟩
  · have d := i_ne c
    rw [if_neg c, nm_eq] at e
    have e := ck_x e
    generalize hy : t - (1 : Int32) = y at e
    have ey := i_subE hy (by omega) (by omega)
    apply mm_sub2 e
    cases S with
    | nil => exact absurd h3 (by rw [List.length_nil]; omega)
    | cons a S =>
      rw [List.length_cons] at h3 h4
      have q := h4 0 (by omega)
      have hk : S.length + 1 - 1 - 0 = y.toInt.toNat := by omega
      rw [hk] at q
      refine ⟨q, ⟨h1, by omega, by show S.length = _; omega, fun i hi => ?_⟩, by omega⟩
      have hi : i < S.length := hi
      have q2 := h4 (i + 1) (by omega)
      have hk2 : S.length + 1 - 1 - (i + 1) = S.length - 1 - i := by omega
      rw [hk2] at q2
      exact q2
theorem ps_e {v t t' : Int32} {st st' S : List Int32} (h : sk_w t st S) (ht : t.toInt < 121) (e : fX2_push 700 v t st = some (t', st')) : sk_w t' st' (v :: S) ∧ t'.toInt = t.toInt + 1 := by
  have n121 : (121 : Int32).toInt = 121 := by decide
  have n1 : (1 : Int32).toInt = 1 := by decide
  obtain ⟨h1, h2, h3, h4⟩ := h
  unfold fX2_push at e
  rw [if_neg (fun k => absurd (i_le k) (by omega))] at e
  have e := ck_x e
  rw [nm_eq, nm_eq] at e
  generalize hy : t + (1 : Int32) = y at e
  have ey := i_addE hy (by omega) (by omega)
  apply mm_sub2 e
  refine ⟨⟨by rw [is_len]; exact h1, by omega, by rw [List.length_cons]; omega, fun i hi => ?_⟩, by omega⟩
  rw [List.length_cons] at hi
  rw [List.length_cons, ge_is _ _ _ _ (by omega)]
  cases i with
  | zero =>
    rw [if_pos (by omega)]
    rfl
  | succ i =>
    rw [if_neg (by omega)]
    have hk : S.length + 1 - 1 - (i + 1) = S.length - 1 - i := by omega
    rw [hk, h4 i (by omega)]
    rfl
theorem jo_e {c a b r : Int32} (e : fX2_joined 700 c a b = some r) : r = jn_w c a b := by
  unfold fX2_joined at e
  unfold jn_w
  by_cases c37 : c = 37
  · subst c37
    rw [if_pos rfl] at e
    rw [if_neg (by decide), if_neg (by decide), if_neg (by decide), if_neg (by decide), if_neg (by decide), if_neg (by decide), if_neg (by decide), if_neg (by decide), if_neg (by decide), if_pos rfl]
    by_cases k : b = 0
    · rw [if_pos k] at e ⊢
      exact (sm_i e).symm
    · rw [if_neg k] at e ⊢
      exact (sm_i (ck_x e)).symm
  rw [if_neg c37] at e
  by_cases c38 : c = 38
  · subst c38
    rw [if_pos rfl] at e
    rw [if_neg (by decide), if_pos rfl]
    by_cases k : a = 0
    · rw [if_pos k] at e ⊢
      exact (sm_i e).symm
    · rw [if_neg k] at e ⊢
      by_cases k2 : b = 0
      · rw [if_pos k2] at e ⊢
        exact (sm_i e).symm
      · rw [if_neg k2] at e ⊢
        exact (sm_i e).symm
  rw [if_neg c38] at e
  by_cases c42 : c = 42
  · subst c42
    rw [if_pos rfl] at e
    exact (sm_i e).symm
  rw [if_neg c42] at e
  by_cases c43 : c = 43
  · subst c43
    rw [if_pos rfl] at e
    exact (sm_i e).symm
  rw [if_neg c43] at e
  by_cases c45 : c = 45
  · subst c45
    rw [if_pos rfl] at e
    exact (sm_i e).symm
  rw [if_neg c45] at e
  by_cases c47 : c = 47
  · subst c47
    rw [if_pos rfl] at e
    rw [if_neg (by decide), if_neg (by decide), if_neg (by decide), if_neg (by decide), if_neg (by decide), if_neg (by decide), if_neg (by decide), if_neg (by decide), if_pos rfl]
    by_cases k : b = 0
    · rw [if_pos k] at e ⊢
      exact (sm_i e).symm
    · rw [if_neg k] at e ⊢
      exact (sm_i (ck_x e)).symm
  rw [if_neg c47] at e
  by_cases c60 : c = 60
  · subst c60
    rw [if_pos rfl] at e
    rw [if_neg (by decide), if_neg (by decide), if_pos rfl]
    by_cases k : b ≤ a
    · rw [if_pos k] at e ⊢
      exact (sm_i e).symm
    · rw [if_neg k] at e ⊢
      exact (sm_i e).symm
  rw [if_neg c60] at e
  by_cases c61 : c = 61
  · subst c61
    rw [if_pos rfl] at e
    rw [if_neg (by decide), if_neg (by decide), if_neg (by decide), if_pos rfl]
    by_cases k : a = b
    · rw [if_pos k] at e ⊢
      exact (sm_i e).symm
    · rw [if_neg k] at e ⊢
      exact (sm_i e).symm
  rw [if_neg c61] at e
  by_cases c62 : c = 62
  · subst c62
    rw [if_pos rfl] at e
    rw [if_neg (by decide), if_neg (by decide), if_neg (by decide), if_neg (by decide), if_pos rfl]
    by_cases k : a ≤ b
    · rw [if_pos k] at e ⊢
      exact (sm_i e).symm
    · rw [if_neg k] at e ⊢
      exact (sm_i e).symm
  rw [if_neg c62] at e
  by_cases c124 : c = 124
  · subst c124
    rw [if_pos rfl] at e
    rw [if_pos rfl]
    by_cases k : a = 0
    · rw [if_pos k] at e ⊢
      by_cases k2 : b = 0
      · rw [if_pos k2] at e ⊢
        exact (sm_i e).symm
      · rw [if_neg k2] at e ⊢
        exact (sm_i e).symm
    · rw [if_neg k] at e ⊢
      exact (sm_i e).symm
  rw [if_neg c124] at e
  rw [if_neg c124, if_neg c38, if_neg c60, if_neg c61, if_neg c62, if_neg c43, if_neg c45, if_neg c42, if_neg c47, if_neg c37]
  exact (sm_i e).symm
def cl_w (v : Int32) : Int32 := mm_max (0 : Int32) (mm_min (9 : Int32) v)
theorem wo_24 {x1 x2 x3 x4 x5 x6 sc : Int32} {stp P : List Int32} (hs : sc.toInt = P.length) (hs1 : sc.toInt ≤ 121) (hP : ∀ k : Nat, k < P.length → stp.getD k 0 = P.getD k 0) : ∀ (m : Nat) (b : Bool) (x8 t : Int32) (st S : List Int32) (r t' : Int32) (st' : List Int32), fX2_worth_24 700 m x1 x2 x3 x4 x5 x6 (mm_b b) x8 sc t stp st = some (r, t', st') → 0 ≤ x8.toInt → x8.toInt ≤ sc.toInt → sk_w t st S → t.toInt ≤ x8.toInt → r = cl_w (wy_w [x1, x2, x3, x4, x5, x6] (P.drop x8.toInt.toNat) b S) := by
  have n0 : (0 : Int32).toInt = 0 := by decide
  have n1 : (1 : Int32).toInt = 1 := by decide
  intro m
  induction m with
  | zero =>
    intro b x8 t st S r t' st' e
    exact absurd e (by intro h; cases h)
  | succ m ih =>
    intro b x8 t st S r t' st' e p0 p1 hk ht
    rw [uf_X2_worth_24] at e
    by_cases c : sc ≤ x8
    · have d := i_le c
      rw [if_pos c] at e
      have hd : P.drop x8.toInt.toNat = [] := List.drop_of_length_le (by omega)
      rw [hd]
      apply mm_sub3 e
      rfl
    · have d := i_nle c
      rw [if_neg c] at e
      have e := ck_x e
      rw [nm_eq] at e
      have hlt : x8.toInt.toNat < P.length := by omega
      have hc : mm_ig stp x8 = P.getD x8.toInt.toNat 0 := hP _ hlt
      rw [hc] at e
      have hdr : P.drop x8.toInt.toNat = P.getD x8.toInt.toNat 0 :: P.drop (x8.toInt.toNat + 1) := by
        rw [List.drop_eq_getElem_cons hlt, List.getD_eq_getElem?_getD, List.getElem?_eq_getElem hlt]
        rfl
      rw [hdr]
      generalize P.getD x8.toInt.toNat 0 = y at e ⊢
      generalize hy : x8 + (1 : Int32) = x9 at *
      have ey := i_addE hy (by omega) (by omega)
      have hx9 : x8.toInt.toNat + 1 = x9.toInt.toNat := by omega
      rw [hx9]
      -- a value pushed
      have PU : ∀ (v t1 : Int32) (s1 : List Int32), fX2_push 700 v t st = some (t1, s1) → fX2_worth_24 700 m x1 x2 x3 x4 x5 x6 (mm_b b) x9 sc t1 stp s1 = some (r, t', st') → ¬ y = 59 → ¬ y = 63 → sx_w [x1, x2, x3, x4, x5, x6] y S = v :: S → r = cl_w (wy_w [x1, x2, x3, x4, x5, x6] (y :: P.drop x9.toInt.toNat) b S) := by
        intro v t1 s1 ep e h1 h2 h3
        obtain ⟨q1, q2⟩ := ps_e hk (by omega) ep
        have q := ih b x9 t1 s1 (v :: S) r t' st' e (by omega) (by omega) q1 (by omega)
        show r = cl_w (if y = 59 then (if b = true then S.headD 0 else wy_w [x1, x2, x3, x4, x5, x6] (P.drop x9.toInt.toNat) true S.tail) else if y = 63 then wy_w [x1, x2, x3, x4, x5, x6] (P.drop x9.toInt.toNat) (!decide (S.headD 0 = 0)) S.tail else wy_w [x1, x2, x3, x4, x5, x6] (P.drop x9.toInt.toNat) b (sx_w [x1, x2, x3, x4, x5, x6] y S))
        rw [if_neg h1, if_neg h2, h3]
        exact q
      -- one popped, one pushed
      have P1 : ∀ (u v t1 t2 : Int32) (s2 : List Int32), fX2_pop 700 t st = some (u, t1) → fX2_push 700 v t1 st = some (t2, s2) → fX2_worth_24 700 m x1 x2 x3 x4 x5 x6 (mm_b b) x9 sc t2 stp s2 = some (r, t', st') → ¬ y = 59 → ¬ y = 63 → (u = S.headD 0 → sx_w [x1, x2, x3, x4, x5, x6] y S = v :: S.tail) → r = cl_w (wy_w [x1, x2, x3, x4, x5, x6] (y :: P.drop x9.toInt.toNat) b S) := by
        intro u v t1 t2 s2 eo ep e h1 h2 h3
        obtain ⟨o1, o2, o3⟩ := po_e hk (by omega) eo
        obtain ⟨q1, q2⟩ := ps_e o2 (by omega) ep
        have q := ih b x9 t2 s2 (v :: S.tail) r t' st' e (by omega) (by omega) q1 (by omega)
        show r = cl_w (if y = 59 then (if b = true then S.headD 0 else wy_w [x1, x2, x3, x4, x5, x6] (P.drop x9.toInt.toNat) true S.tail) else if y = 63 then wy_w [x1, x2, x3, x4, x5, x6] (P.drop x9.toInt.toNat) (!decide (S.headD 0 = 0)) S.tail else wy_w [x1, x2, x3, x4, x5, x6] (P.drop x9.toInt.toNat) b (sx_w [x1, x2, x3, x4, x5, x6] y S))
        rw [if_neg h1, if_neg h2, h3 o1]
        exact q
      by_cases c33 : y = 33
      · rw [if_pos c33] at e
        obtain ⟨u, t1, eo, e⟩ := mm_bd2s e
        have e2 : fX2_worth_242 700 (fX2_worth_24 700 m) x1 x2 x3 x4 x5 x6 (mm_b b) x8 (if u = 0 then (1 : Int32) else (0 : Int32)) sc t1 stp st = some (r, t', st') := by
          by_cases k : u = 0
          · rw [if_pos k] at e ⊢
            exact e
          · rw [if_neg k] at e ⊢
            exact e
        rw [uf_X2_worth_242] at e2
        obtain ⟨t2, s2, ep, e2⟩ := mm_bd2s e2
        rw [uf_X2_worth_317, nm_eq, hy] at e2
        exact P1 u _ t1 t2 s2 eo ep e2 (by rw [c33]; decide) (by rw [c33]; decide) (fun h => by rw [c33, h]; rfl)
      rw [if_neg c33] at e
      by_cases c59 : y = 59
      · rw [if_pos c59] at e
        obtain ⟨u, t1, eo, e⟩ := mm_bd2s e
        obtain ⟨o1, o2, o3⟩ := po_e hk (by omega) eo
        show r = cl_w (if y = 59 then (if b = true then S.headD 0 else wy_w [x1, x2, x3, x4, x5, x6] (P.drop x9.toInt.toNat) true S.tail) else _)
        rw [if_pos c59]
        cases b with
        | false =>
          rw [if_pos (by decide), uf_X2_worth_317, nm_eq, hy] at e
          rw [if_neg (by decide)]
          exact ih true x9 t1 st S.tail r t' st' e (by omega) (by omega) o2 (by omega)
        | true =>
          rw [if_neg (by decide)] at e
          rw [if_pos rfl]
          apply mm_sub3 e
          rw [o1]
          rfl
      rw [if_neg c59] at e
      by_cases c63 : y = 63
      · rw [if_pos c63] at e
        obtain ⟨u, t1, eo, e⟩ := mm_bd2s e
        obtain ⟨o1, o2, o3⟩ := po_e hk (by omega) eo
        show r = cl_w (if y = 59 then _ else if y = 63 then wy_w [x1, x2, x3, x4, x5, x6] (P.drop x9.toInt.toNat) (!decide (S.headD 0 = 0)) S.tail else _)
        rw [if_neg c59, if_pos c63]
        have e2 : fX2_worth_173 700 (fX2_worth_24 700 m) x1 x2 x3 x4 x5 x6 x8 (mm_b (!decide (S.headD 0 = 0))) sc t1 stp st = some (r, t', st') := by
          rw [← o1]
          by_cases k : u = 0
          · rw [if_pos k] at e
            rw [decide_eq_true k]
            exact e
          · rw [if_neg k] at e
            rw [decide_eq_false k]
            exact e
        rw [uf_X2_worth_173, uf_X2_worth_317, nm_eq, hy] at e2
        exact ih _ x9 t1 st S.tail r t' st' e2 (by omega) (by omega) o2 (by omega)
      rw [if_neg c63] at e
      by_cases c98 : y = 98
      · rw [if_pos c98] at e
        obtain ⟨t1, s1, ep, e⟩ := mm_bd2s e
        rw [uf_X2_worth_317, nm_eq, hy] at e
        exact PU _ t1 s1 ep e (by rw [c98]; decide) (by rw [c98]; decide) (by rw [c98]; rfl)
      rw [if_neg c98] at e
      by_cases c102 : y = 102
      · rw [if_pos c102] at e
        obtain ⟨t1, s1, ep, e⟩ := mm_bd2s e
        rw [uf_X2_worth_317, nm_eq, hy] at e
        exact PU _ t1 s1 ep e (by rw [c102]; decide) (by rw [c102]; decide) (by rw [c102]; rfl)
      rw [if_neg c102] at e
      by_cases c107 : y = 107
      · rw [if_pos c107] at e
        obtain ⟨t1, s1, ep, e⟩ := mm_bd2s e
        rw [uf_X2_worth_317, nm_eq, hy] at e
        exact PU _ t1 s1 ep e (by rw [c107]; decide) (by rw [c107]; decide) (by rw [c107]; rfl)
      rw [if_neg c107] at e
      by_cases c110 : y = 110
      · rw [if_pos c110] at e
        obtain ⟨t1, s1, ep, e⟩ := mm_bd2s e
        rw [uf_X2_worth_317, nm_eq, hy] at e
        exact PU _ t1 s1 ep e (by rw [c110]; decide) (by rw [c110]; decide) (by rw [c110]; rfl)
      rw [if_neg c110] at e
      by_cases c114 : y = 114
      · rw [if_pos c114] at e
        obtain ⟨t1, s1, ep, e⟩ := mm_bd2s e
        rw [uf_X2_worth_317, nm_eq, hy] at e
        exact PU _ t1 s1 ep e (by rw [c114]; decide) (by rw [c114]; decide) (by rw [c114]; rfl)
      rw [if_neg c114] at e
      by_cases c119 : y = 119
      · rw [if_pos c119] at e
        obtain ⟨t1, s1, ep, e⟩ := mm_bd2s e
        rw [uf_X2_worth_317, nm_eq, hy] at e
        exact PU _ t1 s1 ep e (by rw [c119]; decide) (by rw [c119]; decide) (by rw [c119]; rfl)
      rw [if_neg c119] at e
      by_cases c126 : y = 126
      · rw [if_pos c126] at e
        obtain ⟨u, t1, eo, e⟩ := mm_bd2s e
        obtain ⟨t2, s2, ep, e⟩ := mm_bd2s e
        rw [uf_X2_worth_317, nm_eq, hy] at e
        exact P1 u _ t1 t2 s2 eo ep e (by rw [c126]; decide) (by rw [c126]; decide) (fun h => by rw [c126, h]; rfl)
      rw [if_neg c126] at e
      have hna : ¬ (y = 98 ∨ y = 102 ∨ y = 107 ∨ y = 110 ∨ y = 114 ∨ y = 119) := by
        rintro (h | h | h | h | h | h)
        · exact c98 h
        · exact c102 h
        · exact c107 h
        · exact c110 h
        · exact c114 h
        · exact c119 h
      have e := ck_x e
      by_cases g : y < (1000 : Int32)
      · rw [if_pos g] at e
        obtain ⟨u1, t1, eo1, e⟩ := mm_bd2s e
        have e := ck_x e
        obtain ⟨u2, t2, eo2, e⟩ := mm_bd2s e
        obtain ⟨v, ej, e⟩ := mm_bd1s e
        obtain ⟨t3, s3, ep, e⟩ := mm_bd2s e
        rw [uf_X2_worth_317, nm_eq, hy] at e
        obtain ⟨o1, o2, o3⟩ := po_e hk (by omega) eo1
        obtain ⟨o4, o5, o6⟩ := po_e o2 (by omega) eo2
        obtain ⟨q1, q2⟩ := ps_e o5 (by omega) ep
        have hj := jo_e ej
        have q := ih b x9 t3 s3 (v :: S.tail.tail) r t' st' e (by omega) (by omega) q1 (by omega)
        show r = cl_w (if y = 59 then (if b = true then S.headD 0 else wy_w [x1, x2, x3, x4, x5, x6] (P.drop x9.toInt.toNat) true S.tail) else if y = 63 then wy_w [x1, x2, x3, x4, x5, x6] (P.drop x9.toInt.toNat) (!decide (S.headD 0 = 0)) S.tail else wy_w [x1, x2, x3, x4, x5, x6] (P.drop x9.toInt.toNat) b (sx_w [x1, x2, x3, x4, x5, x6] y S))
        rw [if_neg c59, if_neg c63]
        have hx : sx_w [x1, x2, x3, x4, x5, x6] y S = v :: S.tail.tail := by
          unfold sx_w
          rw [if_neg hna, if_neg c33, if_neg c126, if_neg (Int32.not_le.mpr g), hj, o1, o4]
        rw [hx]
        exact q
      · rw [if_neg g] at e
        have e := ck_x e
        obtain ⟨t1, s1, ep, e⟩ := mm_bd2s e
        rw [uf_X2_worth_317, nm_eq, hy] at e
        refine PU _ t1 s1 ep e c59 c63 ?_
        unfold sx_w
        rw [if_neg hna, if_neg c33, if_neg c126, if_pos (Int32.not_lt.mp g)]
theorem wr_e {x1 x2 x3 x4 x5 x6 sc sk r sk' : Int32} {stp st st' P : List Int32} (hs : sc.toInt = P.length) (hs0 : 1 ≤ P.length) (hs1 : sc.toInt ≤ 121) (hP : ∀ k : Nat, k < P.length → stp.getD k 0 = P.getD k 0) (hl : st.length = 121) (e : fX2_worth 700 x1 x2 x3 x4 x5 x6 sc sk stp st = some (r, sk', st')) : r = cl_w (wy_w [x1, x2, x3, x4, x5, x6] P true []) := by
  have n0 : (0 : Int32).toInt = 0 := by decide
  have z0 : (0 : Int32).toInt.toNat = 0 := by decide
  rw [uf_X2_worth, if_neg (fun h => absurd (i_eq h) (by omega))] at e
  have q := wo_24 hs hs1 hP 700 true (0 : Int32) (0 : Int32) st [] r sk' st' e (by omega) (by omega) ⟨hl, by omega, by rw [z0]; rfl, fun i hi => absurd hi (by intro k; cases k)⟩ (by omega)
  rw [z0, List.drop_zero] at q
  exact q
theorem wr_0 {x1 x2 x3 x4 x5 x6 sc sk r sk' : Int32} {stp st st' : List Int32} (hs : sc = 0) (e : fX2_worth 700 x1 x2 x3 x4 x5 x6 sc sk stp st = some (r, sk', st')) : r = (1 : Int32) + ((2 : Int32) * x3) := by
  rw [uf_X2_worth, if_pos hs] at e
  apply mm_sub3 e
  rfl
end
