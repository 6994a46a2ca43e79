/-! The geometry kept: sheet, fold, flat, image, back -/
set_option maxHeartbeats 4000000 in
set_option maxRecDepth 20000 in
theorem rs_sheet_ge {x1 : Int32} {v_now_rows : Int32} {v_now_cols : Int32} {v_now_high : Int32} {v_now_wide : Int32} {v_now_folds : Int32} {v_now_wrong : Int32} {v_now_more : Int32} {v_now_rowOf : List Int32} {v_now_colOf : List Int32} {v_now_below : List Int32} {v_now_face : List Int32} {v_now_worn : List Int32} {v_now_last : List Int32} {v_now_bend : List Int32} {v_now_tall : List Int32} {v_hasImage : Bool} {v_kept_rows : Int32} {v_kept_cols : Int32} {v_kept_high : Int32} {v_kept_wide : Int32} {v_kept_folds : Int32} {v_kept_rowOf : List Int32} {v_kept_colOf : List Int32} {v_kept_below : List Int32} {v_kept_face : List Int32} {m_rowsOf : Int32} {m_columnsOf : Int32} {m_folded : Int32} {m_wronged : Int32} {m_shapeRows : List Int32} {m_shapeColumns : List Int32} {m_row : List Int32} {m_column : List Int32} {m_below : List Int32} {m_face : List Int32} {m_worn : List Int32} {m_lastBend : List Int32} {m_isKept : Bool} {m_imageRows : Int32} {m_imageColumns : Int32} {m_imageFolded : Int32} (g8_0 : gi_sh v_now_rows v_now_cols v_now_high v_now_wide v_now_rowOf v_now_colOf v_now_below v_now_face v_now_worn v_now_last v_now_bend v_now_tall) (g9_0 : gm_sh m_rowsOf m_columnsOf m_isKept m_imageRows m_imageColumns m_shapeRows m_shapeColumns m_row m_column m_below m_face m_worn m_lastBend) (hr_0 : rl_ge v_now_rows v_now_cols v_now_high v_now_wide v_now_folds v_now_rowOf v_now_colOf v_now_below v_now_face v_hasImage v_kept_rows v_kept_cols v_kept_high v_kept_wide v_kept_folds v_kept_rowOf v_kept_colOf v_kept_below v_kept_face m_rowsOf m_columnsOf m_folded m_isKept m_imageRows m_imageColumns m_imageFolded m_shapeRows m_shapeColumns m_row m_column m_below m_face) : ∃ (r8 : Int32) (p_now_rows : Int32) (p_now_cols : Int32) (p_now_high : Int32) (p_now_wide : Int32) (p_now_folds : Int32) (p_now_wrong : Int32) (p_now_more : Int32) (p_now_rowOf : List Int32) (p_now_colOf : List Int32) (p_now_below : List Int32) (p_now_face : List Int32) (p_now_worn : List Int32) (p_now_last : List Int32) (r9 : Int32) (q_rowsOf : Int32) (q_columnsOf : Int32) (q_folded : Int32) (q_wronged : Int32) (q_shapeRows : List Int32) (q_shapeColumns : List Int32) (q_row : List Int32) (q_column : List Int32) (q_below : List Int32) (q_face : List Int32) (q_worn : List Int32) (q_lastBend : List Int32), fX8_sheet 700 x1 v_now_rows v_now_cols v_now_high v_now_wide v_now_folds v_now_wrong v_now_more v_now_rowOf v_now_colOf v_now_below v_now_face v_now_worn v_now_last = some (r8, p_now_rows, p_now_cols, p_now_high, p_now_wide, p_now_folds, p_now_wrong, p_now_more, p_now_rowOf, p_now_colOf, p_now_below, p_now_face, p_now_worn, p_now_last) ∧ fX9_sheet 700 x1 m_rowsOf m_columnsOf m_folded m_wronged m_shapeRows m_shapeColumns m_row m_column m_below m_face m_worn m_lastBend = some (r9, q_rowsOf, q_columnsOf, q_folded, q_wronged, q_shapeRows, q_shapeColumns, q_row, q_column, q_below, q_face, q_worn, q_lastBend) ∧ gi_sh p_now_rows p_now_cols p_now_high p_now_wide p_now_rowOf p_now_colOf p_now_below p_now_face p_now_worn p_now_last v_now_bend v_now_tall ∧ gm_sh q_rowsOf q_columnsOf m_isKept m_imageRows m_imageColumns q_shapeRows q_shapeColumns q_row q_column q_below q_face q_worn q_lastBend ∧ rl_ge p_now_rows p_now_cols p_now_high p_now_wide p_now_folds p_now_rowOf p_now_colOf p_now_below p_now_face v_hasImage v_kept_rows v_kept_cols v_kept_high v_kept_wide v_kept_folds v_kept_rowOf v_kept_colOf v_kept_below v_kept_face q_rowsOf q_columnsOf q_folded m_isKept m_imageRows m_imageColumns m_imageFolded q_shapeRows q_shapeColumns q_row q_column q_below q_face := by
  obtain ⟨⟨r8, p_now_rows, p_now_cols, p_now_high, p_now_wide, p_now_folds, p_now_wrong, p_now_more, p_now_rowOf, p_now_colOf, p_now_below, p_now_face, p_now_worn, p_now_last⟩, e8, -⟩ := st8_sheet (x1 := x1) (v_now_folds := v_now_folds) (v_now_wrong := v_now_wrong) (v_now_more := v_now_more) g8_0
  obtain ⟨⟨r9, q_rowsOf, q_columnsOf, q_folded, q_wronged, q_shapeRows, q_shapeColumns, q_row, q_column, q_below, q_face, q_worn, q_lastBend⟩, e9, -⟩ := st9_sheet (x1 := x1) (v_folded := m_folded) (v_wronged := m_wronged) g9_0
  have k8 := wp_get (st8_sheet g8_0) e8
  have k9 := wp_get (st9_sheet g9_0) e9
  obtain ⟨a0, a1, a2, a3, a4, a5, a6, a7, a8, a9, a10, a11, a12, a13, a14, a15, a16, a17⟩ := id g8_0
  obtain ⟨z0, z1, z2, z3, z4, z5, z6, z7, z8, z9, z10, z11, z12, z13⟩ := id g9_0
  have n0 : (0 : Int32).toInt = 0 := by decide
  have n5 : (5 : Int32).toInt = 5 := by decide
  have y0 : (0 : Int32).toInt.toNat = 0 := by decide
  have y5 : (5 : Int32).toInt.toNat = 5 := by decide
  obtain ⟨b1, b2, b3, b4, b5, b6⟩ := hr_0
  have R : rl_ge p_now_rows p_now_cols p_now_high p_now_wide p_now_folds p_now_rowOf p_now_colOf p_now_below p_now_face v_hasImage v_kept_rows v_kept_cols v_kept_high v_kept_wide v_kept_folds v_kept_rowOf v_kept_colOf v_kept_below v_kept_face q_rowsOf q_columnsOf q_folded m_isKept m_imageRows m_imageColumns m_imageFolded q_shapeRows q_shapeColumns q_row q_column q_below q_face := by
    rcases st_8 a8 a9 a10 a11 a12 a13 e8 with ⟨o8, h8⟩ | ⟨o8, h8⟩
    · rcases st_9 z6 z7 z8 z9 z10 z11 e9 with ⟨o9, h9⟩ | ⟨o9, h9⟩
      · obtain ⟨c1, c2, c3, c4, c5, c6, c7, c8, c9, c10, c11, c12, c13, c14⟩ := h8
        obtain ⟨d1, d2, d3, d4, d5, d6, d7, d8, d9, d10, d11, d12, d13⟩ := h9
        subst c2 c3 c4 c5 c6 c9 c10 c11 c12 d2 d3 d4 d6 d7 d8 d9 d10 d11
        exact ⟨b1, b2, b3, b4, b5, b6⟩
      · exact absurd o9 o8
    · rcases st_9 z6 z7 z8 z9 z10 z11 e9 with ⟨o9, h9⟩ | ⟨o9, h9⟩
      · exact absurd o8 o9
      · obtain ⟨c1, c2, c3, c4, c5, c6, c7, c8, c9, c10⟩ := h8
        obtain ⟨d1, d2, d3, d4, d5, d6, d7, d8, d9, d10, d11⟩ := h9
        rw [c2, c3, c4, c5, c6, d2, d3, d4, d6, d7]
        refine ⟨rfl, rfl, rfl, b4, ⟨?_, ?_, fl_x c9 d9⟩, fun hk => ?_⟩
        · rw [ge_is _ _ _ _ (by omega), y0, if_pos rfl]
        · rw [ge_is _ _ _ _ (by omega), y0, if_pos rfl]
        · obtain ⟨f1, f2, f3, f4⟩ := b6 hk
          subst f1 f2
          have hk2 : ¬ (m_isKept = false) := by rw [b4, hk]; decide
          obtain ⟨u0, u1, u2, u3, -⟩ := z13 hk2
          refine ⟨rfl, rfl, f3, lg_t f4 (i_fl u0 u1 u2 u3).2.2 ?_ ?_ (fun j j0 j1 => d8 j (by omega) (by omega))⟩
          · rw [ge_is _ _ _ _ (by omega), y0, if_neg (by decide)]
          · rw [ge_is _ _ _ _ (by omega), y0, if_neg (by decide)]
  exact ⟨_, _, _, _, _, _, _, _, _, _, _, _, _, _, _, _, _, _, _, _, _, _, _, _, _, _, _, e8, e9, k8, k9, R⟩
set_option maxHeartbeats 4000000 in
set_option maxRecDepth 20000 in
theorem rs_fold_ge {x1 : Int32} {x2 : Int32} {v_now_rows : Int32} {v_now_cols : Int32} {v_now_high : Int32} {v_now_wide : Int32} {v_now_folds : Int32} {v_now_wrong : Int32} {v_now_more : Int32} {v_now_rowOf : List Int32} {v_now_colOf : List Int32} {v_now_below : List Int32} {v_now_face : List Int32} {v_now_worn : List Int32} {v_now_last : List Int32} {v_now_bend : List Int32} {v_now_tall : List Int32} {v_wearing_stepCount : Int32} {v_wearing_stacked : Int32} {v_wearing_steps : List Int32} {v_wearing_stack : List Int32} {v_changes_value : Int32} {v_wearing_size : Int32} {v_wearing_draftCount : Int32} {v_wearing_tape : List Int32} {v_wearing_draft : List Int32} {v_hasImage : Bool} {v_kept_rows : Int32} {v_kept_cols : Int32} {v_kept_high : Int32} {v_kept_wide : Int32} {v_kept_folds : Int32} {v_kept_rowOf : List Int32} {v_kept_colOf : List Int32} {v_kept_below : List Int32} {v_kept_face : List Int32} {m_rowsOf : Int32} {m_columnsOf : Int32} {m_folded : Int32} {m_wronged : Int32} {m_textMany : Int32} {m_base : Int32} {m_at : Int32} {m_ends : Int32} {m_fault : Int32} {m_opened : Int32} {m_bentMany : Int32} {m_bentWrong : Int32} {m_moreWorn : Int32} {m_limit : List Int32} {m_shapeRows : List Int32} {m_shapeColumns : List Int32} {m_row : List Int32} {m_column : List Int32} {m_below : List Int32} {m_face : List Int32} {m_worn : List Int32} {m_lastBend : List Int32} {m_tape : List Int32} {m_text : List Int32} {m_names : List Int32} {m_bends : List Int32} {m_high : List Int32} {m_to : List Int32} {m_pileSize : List Int32} {m_keptMany : Int32} {m_done : Int32} {m_changeWas : List Int32} {m_changeIs : List Int32} {m_isKept : Bool} {m_imageRows : Int32} {m_imageColumns : Int32} {m_tapeMany : Int32} {m_imageFolded : Int32} (g8_0 : gi_sh v_now_rows v_now_cols v_now_high v_now_wide v_now_rowOf v_now_colOf v_now_below v_now_face v_now_worn v_now_last v_now_bend v_now_tall) (g8_1 : gi_la v_wearing_size v_wearing_stepCount v_wearing_draftCount v_wearing_tape v_wearing_steps v_wearing_draft v_wearing_stack) (g9_0 : gm_ch m_keptMany m_done m_limit m_changeWas m_changeIs) (g9_1 : gm_sh m_rowsOf m_columnsOf m_isKept m_imageRows m_imageColumns m_shapeRows m_shapeColumns m_row m_column m_below m_face m_worn m_lastBend) (g9_2 : gm_tx m_tapeMany m_textMany m_tape m_text m_names m_bends m_high m_to m_pileSize) (hr_0 : rl_ge v_now_rows v_now_cols v_now_high v_now_wide v_now_folds v_now_rowOf v_now_colOf v_now_below v_now_face v_hasImage v_kept_rows v_kept_cols v_kept_high v_kept_wide v_kept_folds v_kept_rowOf v_kept_colOf v_kept_below v_kept_face m_rowsOf m_columnsOf m_folded m_isKept m_imageRows m_imageColumns m_imageFolded m_shapeRows m_shapeColumns m_row m_column m_below m_face) : ∃ (r8 : Int32) (p_now_high : Int32) (p_now_wide : Int32) (p_now_folds : Int32) (p_now_wrong : Int32) (p_now_more : Int32) (p_now_rowOf : List Int32) (p_now_colOf : List Int32) (p_now_below : List Int32) (p_now_face : List Int32) (p_now_worn : List Int32) (p_now_last : List Int32) (p_now_bend : List Int32) (p_now_tall : List Int32) (p_wearing_stacked : Int32) (p_wearing_stack : List Int32) (r9 : Int32) (q_folded : Int32) (q_wronged : Int32) (q_base : Int32) (q_at : Int32) (q_ends : Int32) (q_fault : Int32) (q_opened : Int32) (q_bentMany : Int32) (q_bentWrong : Int32) (q_moreWorn : Int32) (q_shapeRows : List Int32) (q_shapeColumns : List Int32) (q_row : List Int32) (q_column : List Int32) (q_below : List Int32) (q_face : List Int32) (q_worn : List Int32) (q_lastBend : List Int32) (q_names : List Int32) (q_bends : List Int32) (q_high : List Int32) (q_to : List Int32) (q_pileSize : List Int32), fX8_fold 700 x1 x2 v_now_rows v_now_cols v_now_high v_now_wide v_now_folds v_now_wrong v_now_more v_now_rowOf v_now_colOf v_now_below v_now_face v_now_worn v_now_last v_now_bend v_now_tall v_wearing_stepCount v_wearing_stacked v_wearing_steps v_wearing_stack v_changes_value = some (r8, p_now_high, p_now_wide, p_now_folds, p_now_wrong, p_now_more, p_now_rowOf, p_now_colOf, p_now_below, p_now_face, p_now_worn, p_now_last, p_now_bend, p_now_tall, p_wearing_stacked, p_wearing_stack) ∧ fX9_fold 700 x1 x2 m_rowsOf m_columnsOf m_folded m_wronged m_textMany m_base m_at m_ends m_fault m_opened m_bentMany m_bentWrong m_moreWorn m_limit m_shapeRows m_shapeColumns m_row m_column m_below m_face m_worn m_lastBend m_tape m_text m_names m_bends m_high m_to m_pileSize = some (r9, q_folded, q_wronged, q_base, q_at, q_ends, q_fault, q_opened, q_bentMany, q_bentWrong, q_moreWorn, q_shapeRows, q_shapeColumns, q_row, q_column, q_below, q_face, q_worn, q_lastBend, q_names, q_bends, q_high, q_to, q_pileSize) ∧ gi_sh v_now_rows v_now_cols p_now_high p_now_wide p_now_rowOf p_now_colOf p_now_below p_now_face p_now_worn p_now_last p_now_bend p_now_tall ∧ gi_la v_wearing_size v_wearing_stepCount v_wearing_draftCount v_wearing_tape v_wearing_steps v_wearing_draft p_wearing_stack ∧ gm_sh m_rowsOf m_columnsOf m_isKept m_imageRows m_imageColumns q_shapeRows q_shapeColumns q_row q_column q_below q_face q_worn q_lastBend ∧ gm_tx m_tapeMany m_textMany m_tape m_text q_names q_bends q_high q_to q_pileSize ∧ rl_ge v_now_rows v_now_cols p_now_high p_now_wide p_now_folds p_now_rowOf p_now_colOf p_now_below p_now_face v_hasImage v_kept_rows v_kept_cols v_kept_high v_kept_wide v_kept_folds v_kept_rowOf v_kept_colOf v_kept_below v_kept_face m_rowsOf m_columnsOf q_folded m_isKept m_imageRows m_imageColumns m_imageFolded q_shapeRows q_shapeColumns q_row q_column q_below q_face := by
  obtain ⟨⟨r8, p_now_high, p_now_wide, p_now_folds, p_now_wrong, p_now_more, p_now_rowOf, p_now_colOf, p_now_below, p_now_face, p_now_worn, p_now_last, p_now_bend, p_now_tall, p_wearing_stacked, p_wearing_stack⟩, e8, -⟩ := st8_fold (x1 := x1) (x2 := x2) (v_now_folds := v_now_folds) (v_now_wrong := v_now_wrong) (v_now_more := v_now_more) (v_wearing_stacked := v_wearing_stacked) (v_changes_value := v_changes_value) g8_0 g8_1
  obtain ⟨⟨r9, q_folded, q_wronged, q_base, q_at, q_ends, q_fault, q_opened, q_bentMany, q_bentWrong, q_moreWorn, q_shapeRows, q_shapeColumns, q_row, q_column, q_below, q_face, q_worn, q_lastBend, q_names, q_bends, q_high, q_to, q_pileSize⟩, e9, -⟩ := st9_fold (x1 := x1) (x2 := x2) (v_folded := m_folded) (v_wronged := m_wronged) (v_base := m_base) (v_at := m_at) (v_ends := m_ends) (v_fault := m_fault) (v_opened := m_opened) (v_bentMany := m_bentMany) (v_bentWrong := m_bentWrong) (v_moreWorn := m_moreWorn) g9_0 g9_1 g9_2
  have k8 := wp_get (st8_fold g8_0 g8_1) e8
  have k9 := wp_get (st9_fold g9_0 g9_1 g9_2) e9
  obtain ⟨a0, a1, a2, a3, a4, a5, a6, a7, a8, a9, a10, a11, a12, a13, a14, a15, a16, a17⟩ := id g8_0
  obtain ⟨z0, z1, z2, z3, z4, z5, z6, z7, z8, z9, z10, z11, z12, z13⟩ := id g9_1
  obtain ⟨t0, t1, t2, t3, t4, t5, t6, t7, t8, t9, t10⟩ := id g9_2
  have n0 : (0 : Int32).toInt = 0 := by decide
  have n5 : (5 : Int32).toInt = 5 := by decide
  have y0 : (0 : Int32).toInt.toNat = 0 := by decide
  have y5 : (5 : Int32).toInt.toNat = 5 := by decide
  obtain ⟨b1, b2, b3, b4, b5, b6⟩ := hr_0
  subst b1 b2
  have hf := i_fl z0 z1 z2 z3
  obtain ⟨l1, l2, l3⟩ := id b5
  have g1 : mm_ig m_shapeRows (0 : Int32) = v_now_high := by rw [ge_ig, y0]; exact l1
  have g2 : mm_ig m_shapeColumns (0 : Int32) = v_now_wide := by rw [ge_ig, y0]; exact l2
  have R : rl_ge m_rowsOf m_columnsOf p_now_high p_now_wide p_now_folds p_now_rowOf p_now_colOf p_now_below p_now_face v_hasImage v_kept_rows v_kept_cols v_kept_high v_kept_wide v_kept_folds v_kept_rowOf v_kept_colOf v_kept_below v_kept_face m_rowsOf m_columnsOf q_folded m_isKept m_imageRows m_imageColumns m_imageFolded q_shapeRows q_shapeColumns q_row q_column q_below q_face := by
    rcases fo_8 e8 with ⟨o8, h8⟩ | ⟨o8, h8⟩
    · rcases fo_9 z4 z5 g1 g2 ⟨a4, a5⟩ ⟨a6, a7⟩ e9 with ⟨o9, h9⟩ | ⟨o9, h9⟩
      · obtain ⟨c1, c2, c3, c4, c5, c6, c7⟩ := h8
        obtain ⟨d1, d2, d3, d4, d5, d6, d7⟩ := h9
        subst c1 c2 c3 c4 c5 c6 c7 d1 d2 d3 d4 d5 d6 d7
        exact ⟨rfl, rfl, b3, b4, b5, b6⟩
      · exact absurd o9 o8
    · rcases fo_9 z4 z5 g1 g2 ⟨a4, a5⟩ ⟨a6, a7⟩ e9 with ⟨o9, h9⟩ | ⟨o9, h9⟩
      · exact absurd o8 o9
      · obtain ⟨c1, c2⟩ := h8
        obtain ⟨d1, d2⟩ := h9
        have q := tr_e (m := (m_rowsOf.toInt * m_columnsOf.toInt).toNat) (lv := (0 : Int32)) (by omega) (by omega) (by omega) (by omega) o8.1.1 o8.1.2 a8 a9 a10 a11 a15 z6 z7 z8 z9 t8 t9 t10 z4 z5 ⟨a4, a5⟩ ⟨a6, a7⟩ (fun k hk => zn_n a16 (by omega) (by omega) (by omega)) (fun k hk => zn_n a17 (by omega) (by omega) (by omega)) g1 g2 (by rw [y0]; exact l3) c2 d2
        rw [ge_ig, ge_ig, y0, Nat.mul_zero] at q
        obtain ⟨q1, q2, q3, q4, q5, -⟩ := q
        refine ⟨rfl, rfl, by rw [c1, d1, b3], b4, ⟨q1, q2, q3⟩, fun hk => ?_⟩
        obtain ⟨f1, f2, f3, f4⟩ := b6 hk
        subst f1 f2
        have hk2 : ¬ (m_isKept = false) := by rw [b4, hk]; decide
        obtain ⟨u0, u1, u2, u3, -⟩ := z13 hk2
        exact ⟨rfl, rfl, f3, lg_t f4 (i_fl u0 u1 u2 u3).2.2 (q5 5 (by omega) (by omega)).1 (q5 5 (by omega) (by omega)).2 (fun j j0 j1 => q4 j (by omega) (by omega))⟩
  exact ⟨_, _, _, _, _, _, _, _, _, _, _, _, _, _, _, _, _, _, _, _, _, _, _, _, _, _, _, _, _, _, _, _, _, _, _, _, _, _, _, _, e8, e9, k8.1, k8.2, k9.1, k9.2, R⟩
set_option maxHeartbeats 4000000 in
set_option maxRecDepth 20000 in
theorem rs_flat_ge {v_now_rows : Int32} {v_now_cols : Int32} {v_now_high : Int32} {v_now_wide : Int32} {v_now_rowOf : List Int32} {v_now_colOf : List Int32} {v_now_below : List Int32} {v_now_face : List Int32} {v_now_worn : List Int32} {v_now_last : List Int32} {v_now_bend : List Int32} {v_now_tall : List Int32} {v_now_folds : Int32} {v_hasImage : Bool} {v_kept_rows : Int32} {v_kept_cols : Int32} {v_kept_high : Int32} {v_kept_wide : Int32} {v_kept_folds : Int32} {v_kept_rowOf : List Int32} {v_kept_colOf : List Int32} {v_kept_below : List Int32} {v_kept_face : List Int32} {m_rowsOf : Int32} {m_columnsOf : Int32} {m_shapeRows : List Int32} {m_shapeColumns : List Int32} {m_row : List Int32} {m_column : List Int32} {m_below : List Int32} {m_face : List Int32} {m_isKept : Bool} {m_imageRows : Int32} {m_imageColumns : Int32} {m_worn : List Int32} {m_lastBend : List Int32} {m_folded : Int32} {m_imageFolded : Int32} (g8_0 : gi_sh v_now_rows v_now_cols v_now_high v_now_wide v_now_rowOf v_now_colOf v_now_below v_now_face v_now_worn v_now_last v_now_bend v_now_tall) (g9_0 : gm_sh m_rowsOf m_columnsOf m_isKept m_imageRows m_imageColumns m_shapeRows m_shapeColumns m_row m_column m_below m_face m_worn m_lastBend) (hr_0 : rl_ge v_now_rows v_now_cols v_now_high v_now_wide v_now_folds v_now_rowOf v_now_colOf v_now_below v_now_face v_hasImage v_kept_rows v_kept_cols v_kept_high v_kept_wide v_kept_folds v_kept_rowOf v_kept_colOf v_kept_below v_kept_face m_rowsOf m_columnsOf m_folded m_isKept m_imageRows m_imageColumns m_imageFolded m_shapeRows m_shapeColumns m_row m_column m_below m_face) : ∃ (r : Int32) (p_now_high : Int32) (p_now_wide : Int32) (p_now_rowOf : List Int32) (p_now_colOf : List Int32) (p_now_below : List Int32) (p_now_face : List Int32) (q_shapeRows : List Int32) (q_shapeColumns : List Int32) (q_row : List Int32) (q_column : List Int32) (q_below : List Int32) (q_face : List Int32), fX8_flat 700 v_now_rows v_now_cols v_now_high v_now_wide v_now_rowOf v_now_colOf v_now_below v_now_face = some (r, p_now_high, p_now_wide, p_now_rowOf, p_now_colOf, p_now_below, p_now_face) ∧ fX9_flat 700 m_rowsOf m_columnsOf m_shapeRows m_shapeColumns m_row m_column m_below m_face = some (r, q_shapeRows, q_shapeColumns, q_row, q_column, q_below, q_face) ∧ gi_sh v_now_rows v_now_cols p_now_high p_now_wide p_now_rowOf p_now_colOf p_now_below p_now_face v_now_worn v_now_last v_now_bend v_now_tall ∧ gm_sh m_rowsOf m_columnsOf m_isKept m_imageRows m_imageColumns q_shapeRows q_shapeColumns q_row q_column q_below q_face m_worn m_lastBend ∧ rl_ge v_now_rows v_now_cols p_now_high p_now_wide v_now_folds p_now_rowOf p_now_colOf p_now_below p_now_face v_hasImage v_kept_rows v_kept_cols v_kept_high v_kept_wide v_kept_folds v_kept_rowOf v_kept_colOf v_kept_below v_kept_face m_rowsOf m_columnsOf m_folded m_isKept m_imageRows m_imageColumns m_imageFolded q_shapeRows q_shapeColumns q_row q_column q_below q_face := by
  obtain ⟨⟨r8, p_now_high, p_now_wide, p_now_rowOf, p_now_colOf, p_now_below, p_now_face⟩, e8, -⟩ := st8_flat   g8_0
  obtain ⟨⟨r9, q_shapeRows, q_shapeColumns, q_row, q_column, q_below, q_face⟩, e9, -⟩ := st9_flat   g9_0
  have k8 := wp_get (st8_flat g8_0) e8
  have k9 := wp_get (st9_flat g9_0) e9
  obtain ⟨a0, a1, a2, a3, a4, a5, a6, a7, a8, a9, a10, a11, a12, a13, a14, a15, a16, a17⟩ := id g8_0
  obtain ⟨z0, z1, z2, z3, z4, z5, z6, z7, z8, z9, z10, z11, z12, z13⟩ := id g9_0
  have n0 : (0 : Int32).toInt = 0 := by decide
  have n5 : (5 : Int32).toInt = 5 := by decide
  have y0 : (0 : Int32).toInt.toNat = 0 := by decide
  have y5 : (5 : Int32).toInt.toNat = 5 := by decide
  obtain ⟨b1, b2, b3, b4, b5, b6⟩ := hr_0
  subst b1 b2
  have hf := i_fl z0 z1 z2 z3
  obtain ⟨l1, l2, l3⟩ := id b5
  have RR : r9 = r8 ∧ rl_ge m_rowsOf m_columnsOf p_now_high p_now_wide v_now_folds p_now_rowOf p_now_colOf p_now_below p_now_face v_hasImage v_kept_rows v_kept_cols v_kept_high v_kept_wide v_kept_folds v_kept_rowOf v_kept_colOf v_kept_below v_kept_face m_rowsOf m_columnsOf m_folded m_isKept m_imageRows m_imageColumns m_imageFolded q_shapeRows q_shapeColumns q_row q_column q_below q_face := by
    have f8 := e8
    have f9 := e9
    unfold fX8_flat at f8
    unfold fX9_flat at f9
    obtain ⟨u, eu, f8⟩ := mm_bd1s f8
    obtain ⟨w3, w4, w5, w6, w7, w8, el, f8⟩ := mm_bd6s f8
    have f9 := ck_x (ck_x f9)
    rw [nm_eq] at f9
    obtain ⟨x3, x4, x5, x6, x7, x8, er, f9⟩ := mm_bd6s f9
    have hu : v_now_high * v_now_wide = u := sm_i eu
    obtain ⟨c1, c2, c3⟩ := lo_e (m := (m_rowsOf.toInt * m_columnsOf.toInt).toNat) (by omega) (by omega) a0 a1 a2 a3 a8 a9 a10 a11 el
    obtain ⟨d1, d2, -, d4, d5⟩ := li_e (m := (m_rowsOf.toInt * m_columnsOf.toInt).toNat) (by omega) (by omega) z2 z3 (by omega) (by omega) z6 z7 z8 z9 er
    rw [y0, Nat.mul_zero] at d4 d5
    apply mm_sub7 f8
    apply mm_sub7 f9
    rw [c1, c2, d1, d2]
    refine ⟨?_, rfl, rfl, b3, b4, ⟨?_, ?_, fl_x c3 d5⟩, fun hk => ?_⟩
    · rw [← hu, ge_ig, ge_ig, y0, l1, l2]
    · rw [ge_is _ _ _ _ (by omega), y0, if_pos rfl]
    · rw [ge_is _ _ _ _ (by omega), y0, if_pos rfl]
    · obtain ⟨f1, f2, f3, f4⟩ := b6 hk
      subst f1 f2
      have hk2 : ¬ (m_isKept = false) := by rw [b4, hk]; decide
      obtain ⟨u0, u1, u2, u3, -⟩ := z13 hk2
      refine ⟨rfl, rfl, f3, lg_t f4 (i_fl u0 u1 u2 u3).2.2 ?_ ?_ (fun j j0 j1 => d4 j (by omega) (by omega))⟩
      · rw [ge_is _ _ _ _ (by omega), y0, if_neg (by decide)]
      · rw [ge_is _ _ _ _ (by omega), y0, if_neg (by decide)]
  obtain ⟨er, R⟩ := RR
  subst er
  exact ⟨_, _, _, _, _, _, _, _, _, _, _, _, _, e8, e9, k8, k9, R⟩
set_option maxHeartbeats 4000000 in
set_option maxRecDepth 20000 in
theorem rs_image_ge {v_hasImage : Bool} {v_now_rows : Int32} {v_now_cols : Int32} {v_now_high : Int32} {v_now_wide : Int32} {v_now_folds : Int32} {v_now_wrong : Int32} {v_now_more : Int32} {v_now_rowOf : List Int32} {v_now_colOf : List Int32} {v_now_below : List Int32} {v_now_face : List Int32} {v_now_worn : List Int32} {v_now_last : List Int32} {v_kept_rows : Int32} {v_kept_cols : Int32} {v_kept_high : Int32} {v_kept_wide : Int32} {v_kept_folds : Int32} {v_kept_wrong : Int32} {v_kept_more : Int32} {v_kept_rowOf : List Int32} {v_kept_colOf : List Int32} {v_kept_below : List Int32} {v_kept_face : List Int32} {v_kept_worn : List Int32} {v_kept_last : List Int32} {v_now_bend : List Int32} {v_now_tall : List Int32} {v_kept_bend : List Int32} {v_kept_tall : List Int32} {m_rowsOf : Int32} {m_columnsOf : Int32} {m_folded : Int32} {m_wronged : Int32} {m_isKept : Bool} {m_imageRows : Int32} {m_imageColumns : Int32} {m_imageFolded : Int32} {m_imageWronged : Int32} {m_shapeRows : List Int32} {m_shapeColumns : List Int32} {m_row : List Int32} {m_column : List Int32} {m_below : List Int32} {m_face : List Int32} {m_worn : List Int32} {m_lastBend : List Int32} (g8_0 : gi_sh v_now_rows v_now_cols v_now_high v_now_wide v_now_rowOf v_now_colOf v_now_below v_now_face v_now_worn v_now_last v_now_bend v_now_tall) (g8_1 : gi_sh v_kept_rows v_kept_cols v_kept_high v_kept_wide v_kept_rowOf v_kept_colOf v_kept_below v_kept_face v_kept_worn v_kept_last v_kept_bend v_kept_tall) (g9_0 : gm_sh m_rowsOf m_columnsOf m_isKept m_imageRows m_imageColumns m_shapeRows m_shapeColumns m_row m_column m_below m_face m_worn m_lastBend) (hr_0 : rl_ge v_now_rows v_now_cols v_now_high v_now_wide v_now_folds v_now_rowOf v_now_colOf v_now_below v_now_face v_hasImage v_kept_rows v_kept_cols v_kept_high v_kept_wide v_kept_folds v_kept_rowOf v_kept_colOf v_kept_below v_kept_face m_rowsOf m_columnsOf m_folded m_isKept m_imageRows m_imageColumns m_imageFolded m_shapeRows m_shapeColumns m_row m_column m_below m_face) : ∃ (r : Int32) (p_hasImage : Bool) (p_kept_rows : Int32) (p_kept_cols : Int32) (p_kept_high : Int32) (p_kept_wide : Int32) (p_kept_folds : Int32) (p_kept_wrong : Int32) (p_kept_more : Int32) (p_kept_rowOf : List Int32) (p_kept_colOf : List Int32) (p_kept_below : List Int32) (p_kept_face : List Int32) (p_kept_worn : List Int32) (p_kept_last : List Int32) (q_isKept : Bool) (q_imageRows : Int32) (q_imageColumns : Int32) (q_imageFolded : Int32) (q_imageWronged : Int32) (q_shapeRows : List Int32) (q_shapeColumns : List Int32) (q_row : List Int32) (q_column : List Int32) (q_below : List Int32) (q_face : List Int32) (q_worn : List Int32) (q_lastBend : List Int32), fX8_image 700 v_hasImage v_now_rows v_now_cols v_now_high v_now_wide v_now_folds v_now_wrong v_now_more v_now_rowOf v_now_colOf v_now_below v_now_face v_now_worn v_now_last v_kept_rows v_kept_cols v_kept_high v_kept_wide v_kept_folds v_kept_wrong v_kept_more v_kept_rowOf v_kept_colOf v_kept_below v_kept_face v_kept_worn v_kept_last = some (r, p_hasImage, p_kept_rows, p_kept_cols, p_kept_high, p_kept_wide, p_kept_folds, p_kept_wrong, p_kept_more, p_kept_rowOf, p_kept_colOf, p_kept_below, p_kept_face, p_kept_worn, p_kept_last) ∧ fX9_image 700 m_rowsOf m_columnsOf m_folded m_wronged m_isKept m_imageRows m_imageColumns m_imageFolded m_imageWronged m_shapeRows m_shapeColumns m_row m_column m_below m_face m_worn m_lastBend = some (r, q_isKept, q_imageRows, q_imageColumns, q_imageFolded, q_imageWronged, q_shapeRows, q_shapeColumns, q_row, q_column, q_below, q_face, q_worn, q_lastBend) ∧ gi_sh p_kept_rows p_kept_cols p_kept_high p_kept_wide p_kept_rowOf p_kept_colOf p_kept_below p_kept_face p_kept_worn p_kept_last v_kept_bend v_kept_tall ∧ gm_sh m_rowsOf m_columnsOf q_isKept q_imageRows q_imageColumns q_shapeRows q_shapeColumns q_row q_column q_below q_face q_worn q_lastBend ∧ rl_ge v_now_rows v_now_cols v_now_high v_now_wide v_now_folds v_now_rowOf v_now_colOf v_now_below v_now_face p_hasImage p_kept_rows p_kept_cols p_kept_high p_kept_wide p_kept_folds p_kept_rowOf p_kept_colOf p_kept_below p_kept_face m_rowsOf m_columnsOf m_folded q_isKept q_imageRows q_imageColumns q_imageFolded q_shapeRows q_shapeColumns q_row q_column q_below q_face := by
  obtain ⟨⟨r8, p_hasImage, p_kept_rows, p_kept_cols, p_kept_high, p_kept_wide, p_kept_folds, p_kept_wrong, p_kept_more, p_kept_rowOf, p_kept_colOf, p_kept_below, p_kept_face, p_kept_worn, p_kept_last⟩, e8, -⟩ := st8_image  (v_hasImage := v_hasImage) (v_now_folds := v_now_folds) (v_now_wrong := v_now_wrong) (v_now_more := v_now_more) (v_kept_folds := v_kept_folds) (v_kept_wrong := v_kept_wrong) (v_kept_more := v_kept_more) g8_0 g8_1
  obtain ⟨⟨r9, q_isKept, q_imageRows, q_imageColumns, q_imageFolded, q_imageWronged, q_shapeRows, q_shapeColumns, q_row, q_column, q_below, q_face, q_worn, q_lastBend⟩, e9, -⟩ := st9_image  (v_folded := m_folded) (v_wronged := m_wronged) (v_imageFolded := m_imageFolded) (v_imageWronged := m_imageWronged) g9_0
  have k8 := wp_get (st8_image g8_0 g8_1) e8
  have k9 := wp_get (st9_image g9_0) e9
  obtain ⟨a0, a1, a2, a3, a4, a5, a6, a7, a8, a9, a10, a11, a12, a13, a14, a15, a16, a17⟩ := id g8_0
  obtain ⟨c0, c1, c2, c3, c4, c5, c6, c7, c8, c9, c10, c11, c12, c13, c14, c15, c16, c17⟩ := id g8_1
  obtain ⟨z0, z1, z2, z3, z4, z5, z6, z7, z8, z9, z10, z11, z12, z13⟩ := id g9_0
  have n0 : (0 : Int32).toInt = 0 := by decide
  have n5 : (5 : Int32).toInt = 5 := by decide
  have y0 : (0 : Int32).toInt.toNat = 0 := by decide
  have y5 : (5 : Int32).toInt.toNat = 5 := by decide
  obtain ⟨b1, b2, b3, b4, b5, b6⟩ := hr_0
  subst b1 b2
  have hf := i_fl z0 z1 z2 z3
  obtain ⟨l1, l2, l3⟩ := id b5
  have RR : r9 = r8 ∧ rl_ge m_rowsOf m_columnsOf v_now_high v_now_wide v_now_folds v_now_rowOf v_now_colOf v_now_below v_now_face p_hasImage p_kept_rows p_kept_cols p_kept_high p_kept_wide p_kept_folds p_kept_rowOf p_kept_colOf p_kept_below p_kept_face m_rowsOf m_columnsOf m_folded q_isKept q_imageRows q_imageColumns q_imageFolded q_shapeRows q_shapeColumns q_row q_column q_below q_face := by
    have f8 := e8
    have f9 := e9
    unfold fX8_image at f8
    unfold fX9_image at f9
    rw [cp_e c8 c9 c10 c11 c12 c13 a8 a9 a10 a11 a12 a13] at f8
    obtain ⟨x1, x2, x3, x4, x5, x6, x7, x8, er, f9⟩ := mm_bd8s f9
    obtain ⟨⟨d1, d2⟩, d3, -, d5, -⟩ := co_e (by omega) (by omega) (by omega) (by omega) (by omega) z6 z7 z8 z9 z10 z11 er
    rw [y0, y5] at d5
    rw [y5] at d3
    have f8' : some (v_now_folds, true, m_rowsOf, m_columnsOf, v_now_high, v_now_wide, v_now_folds, v_now_wrong, v_now_more, v_now_rowOf, v_now_colOf, v_now_below, v_now_face, v_now_worn, v_now_last) = some (r8, p_hasImage, p_kept_rows, p_kept_cols, p_kept_high, p_kept_wide, p_kept_folds, p_kept_wrong, p_kept_more, p_kept_rowOf, p_kept_colOf, p_kept_below, p_kept_face, p_kept_worn, p_kept_last) := f8
    apply mm_sub15 f8'
    apply mm_sub14 f9
    rw [d1, d2]
    refine ⟨b3, rfl, rfl, b3, rfl, lg_t b5 hf.2.2 ?_ ?_ (fun j j0 j1 => d3 j (by omega) (by omega)), fun _ => ⟨rfl, rfl, b3, ?_, ?_, fun k hk => ?_⟩⟩
    · rw [ge_is _ _ _ _ (by omega), y5, if_neg (by decide)]
    · rw [ge_is _ _ _ _ (by omega), y5, if_neg (by decide)]
    · rw [ge_is _ _ _ _ (by omega), y5, if_pos rfl, ge_ig, y0]
      exact l1
    · rw [ge_is _ _ _ _ (by omega), y5, if_pos rfl, ge_ig, y0]
      exact l2
    · obtain ⟨u1, u2, u3, u4⟩ := d5 k (by omega)
      obtain ⟨v1, v2, v3, v4⟩ := l3 k hk
      exact ⟨by rw [u1]; exact v1, by rw [u2]; exact v2, by rw [u3]; exact v3, by rw [u4]; exact v4⟩
  obtain ⟨er, R⟩ := RR
  subst er
  exact ⟨_, _, _, _, _, _, _, _, _, _, _, _, _, _, _, _, _, _, _, _, _, _, _, _, _, _, _, _, e8, e9, k8, k9, R⟩
set_option maxHeartbeats 4000000 in
set_option maxRecDepth 20000 in
theorem rs_back_ge {v_hasImage : Bool} {v_now_rows : Int32} {v_now_cols : Int32} {v_now_high : Int32} {v_now_wide : Int32} {v_now_folds : Int32} {v_now_wrong : Int32} {v_now_more : Int32} {v_now_rowOf : List Int32} {v_now_colOf : List Int32} {v_now_below : List Int32} {v_now_face : List Int32} {v_now_worn : List Int32} {v_now_last : List Int32} {v_kept_rows : Int32} {v_kept_cols : Int32} {v_kept_high : Int32} {v_kept_wide : Int32} {v_kept_folds : Int32} {v_kept_wrong : Int32} {v_kept_more : Int32} {v_kept_rowOf : List Int32} {v_kept_colOf : List Int32} {v_kept_below : List Int32} {v_kept_face : List Int32} {v_kept_worn : List Int32} {v_kept_last : List Int32} {v_now_bend : List Int32} {v_now_tall : List Int32} {v_kept_bend : List Int32} {v_kept_tall : List Int32} {m_rowsOf : Int32} {m_columnsOf : Int32} {m_folded : Int32} {m_wronged : Int32} {m_isKept : Bool} {m_imageRows : Int32} {m_imageColumns : Int32} {m_imageFolded : Int32} {m_imageWronged : Int32} {m_shapeRows : List Int32} {m_shapeColumns : List Int32} {m_row : List Int32} {m_column : List Int32} {m_below : List Int32} {m_face : List Int32} {m_worn : List Int32} {m_lastBend : List Int32} (g8_0 : gi_sh v_now_rows v_now_cols v_now_high v_now_wide v_now_rowOf v_now_colOf v_now_below v_now_face v_now_worn v_now_last v_now_bend v_now_tall) (g8_1 : gi_sh v_kept_rows v_kept_cols v_kept_high v_kept_wide v_kept_rowOf v_kept_colOf v_kept_below v_kept_face v_kept_worn v_kept_last v_kept_bend v_kept_tall) (g9_0 : gm_sh m_rowsOf m_columnsOf m_isKept m_imageRows m_imageColumns m_shapeRows m_shapeColumns m_row m_column m_below m_face m_worn m_lastBend) (hr_0 : rl_ge v_now_rows v_now_cols v_now_high v_now_wide v_now_folds v_now_rowOf v_now_colOf v_now_below v_now_face v_hasImage v_kept_rows v_kept_cols v_kept_high v_kept_wide v_kept_folds v_kept_rowOf v_kept_colOf v_kept_below v_kept_face m_rowsOf m_columnsOf m_folded m_isKept m_imageRows m_imageColumns m_imageFolded m_shapeRows m_shapeColumns m_row m_column m_below m_face) : ∃ (r : Int32) (p_now_rows : Int32) (p_now_cols : Int32) (p_now_high : Int32) (p_now_wide : Int32) (p_now_folds : Int32) (p_now_wrong : Int32) (p_now_more : Int32) (p_now_rowOf : List Int32) (p_now_colOf : List Int32) (p_now_below : List Int32) (p_now_face : List Int32) (p_now_worn : List Int32) (p_now_last : List Int32) (q_rowsOf : Int32) (q_columnsOf : Int32) (q_folded : Int32) (q_wronged : Int32) (q_shapeRows : List Int32) (q_shapeColumns : List Int32) (q_row : List Int32) (q_column : List Int32) (q_below : List Int32) (q_face : List Int32) (q_worn : List Int32) (q_lastBend : List Int32), fX8_back 700 v_hasImage v_now_rows v_now_cols v_now_high v_now_wide v_now_folds v_now_wrong v_now_more v_now_rowOf v_now_colOf v_now_below v_now_face v_now_worn v_now_last v_kept_rows v_kept_cols v_kept_high v_kept_wide v_kept_folds v_kept_wrong v_kept_more v_kept_rowOf v_kept_colOf v_kept_below v_kept_face v_kept_worn v_kept_last = some (r, p_now_rows, p_now_cols, p_now_high, p_now_wide, p_now_folds, p_now_wrong, p_now_more, p_now_rowOf, p_now_colOf, p_now_below, p_now_face, p_now_worn, p_now_last) ∧ fX9_back 700 m_rowsOf m_columnsOf m_folded m_wronged m_isKept m_imageRows m_imageColumns m_imageFolded m_imageWronged m_shapeRows m_shapeColumns m_row m_column m_below m_face m_worn m_lastBend = some (r, q_rowsOf, q_columnsOf, q_folded, q_wronged, q_shapeRows, q_shapeColumns, q_row, q_column, q_below, q_face, q_worn, q_lastBend) ∧ gi_sh p_now_rows p_now_cols p_now_high p_now_wide p_now_rowOf p_now_colOf p_now_below p_now_face p_now_worn p_now_last v_now_bend v_now_tall ∧ gm_sh q_rowsOf q_columnsOf m_isKept m_imageRows m_imageColumns q_shapeRows q_shapeColumns q_row q_column q_below q_face q_worn q_lastBend ∧ rl_ge p_now_rows p_now_cols p_now_high p_now_wide p_now_folds p_now_rowOf p_now_colOf p_now_below p_now_face v_hasImage v_kept_rows v_kept_cols v_kept_high v_kept_wide v_kept_folds v_kept_rowOf v_kept_colOf v_kept_below v_kept_face q_rowsOf q_columnsOf q_folded m_isKept m_imageRows m_imageColumns m_imageFolded q_shapeRows q_shapeColumns q_row q_column q_below q_face := by
  obtain ⟨⟨r8, p_now_rows, p_now_cols, p_now_high, p_now_wide, p_now_folds, p_now_wrong, p_now_more, p_now_rowOf, p_now_colOf, p_now_below, p_now_face, p_now_worn, p_now_last⟩, e8, -⟩ := st8_back  (v_hasImage := v_hasImage) (v_now_folds := v_now_folds) (v_now_wrong := v_now_wrong) (v_now_more := v_now_more) (v_kept_folds := v_kept_folds) (v_kept_wrong := v_kept_wrong) (v_kept_more := v_kept_more) g8_0 g8_1
  obtain ⟨⟨r9, q_rowsOf, q_columnsOf, q_folded, q_wronged, q_shapeRows, q_shapeColumns, q_row, q_column, q_below, q_face, q_worn, q_lastBend⟩, e9, -⟩ := st9_back  (v_folded := m_folded) (v_wronged := m_wronged) (v_imageFolded := m_imageFolded) (v_imageWronged := m_imageWronged) g9_0
  have k8 := wp_get (st8_back g8_0 g8_1) e8
  have k9 := wp_get (st9_back g9_0) e9
  obtain ⟨a0, a1, a2, a3, a4, a5, a6, a7, a8, a9, a10, a11, a12, a13, a14, a15, a16, a17⟩ := id g8_0
  obtain ⟨c0, c1, c2, c3, c4, c5, c6, c7, c8, c9, c10, c11, c12, c13, c14, c15, c16, c17⟩ := id g8_1
  obtain ⟨z0, z1, z2, z3, z4, z5, z6, z7, z8, z9, z10, z11, z12, z13⟩ := id g9_0
  have n0 : (0 : Int32).toInt = 0 := by decide
  have n5 : (5 : Int32).toInt = 5 := by decide
  have y0 : (0 : Int32).toInt.toNat = 0 := by decide
  have y5 : (5 : Int32).toInt.toNat = 5 := by decide
  obtain ⟨b1, b2, b3, b4, b5, b6⟩ := hr_0
  have RR : r9 = r8 ∧ rl_ge p_now_rows p_now_cols p_now_high p_now_wide p_now_folds p_now_rowOf p_now_colOf p_now_below p_now_face v_hasImage v_kept_rows v_kept_cols v_kept_high v_kept_wide v_kept_folds v_kept_rowOf v_kept_colOf v_kept_below v_kept_face q_rowsOf q_columnsOf q_folded m_isKept m_imageRows m_imageColumns m_imageFolded q_shapeRows q_shapeColumns q_row q_column q_below q_face := by
    have f8 := e8
    have f9 := e9
    unfold fX8_back at f8
    unfold fX9_back at f9
    by_cases h : v_hasImage = false
    · rw [if_pos h] at f8
      rw [if_pos (by rw [b4]; exact h)] at f9
      apply mm_sub14 f8
      apply mm_sub13 f9
      exact ⟨rfl, b1, b2, b3, b4, b5, b6⟩
    · have hk : v_hasImage = true := by
        cases hv : v_hasImage
        · exact absurd hv h
        · rfl
      have hk2 : ¬ (m_isKept = false) := by rw [b4, hk]; decide
      obtain ⟨j1, j2, j3, j4⟩ := b6 hk
      obtain ⟨u0, u1, u2, u3, -⟩ := z13 hk2
      have m32 := (i_fl u0 u1 u2 u3).2.2
      obtain ⟨l1, l2, l3⟩ := id j4
      rw [if_neg h, cp_e a8 a9 a10 a11 a12 a13 c8 c9 c10 c11 c12 c13] at f8
      rw [if_neg hk2] at f9
      obtain ⟨x1, x2, x3, x4, x5, x6, x7, x8, er, f9⟩ := mm_bd8s f9
      obtain ⟨⟨d1, d2⟩, d3, -, d5, -⟩ := co_e (by omega) (by omega) (by omega) (by omega) (by omega) z6 z7 z8 z9 z10 z11 er
      rw [y0, y5] at d5
      rw [y0] at d3
      have f8' : some (v_kept_folds, v_kept_rows, v_kept_cols, v_kept_high, v_kept_wide, v_kept_folds, v_kept_wrong, v_kept_more, v_kept_rowOf, v_kept_colOf, v_kept_below, v_kept_face, v_kept_worn, v_kept_last) = some (r8, p_now_rows, p_now_cols, p_now_high, p_now_wide, p_now_folds, p_now_wrong, p_now_more, p_now_rowOf, p_now_colOf, p_now_below, p_now_face, p_now_worn, p_now_last) := f8
      apply mm_sub14 f8'
      apply mm_sub13 f9
      rw [d1, d2]
      refine ⟨j3, j1, j2, j3, b4, ⟨?_, ?_, fun k hk3 => ?_⟩, fun _ => ⟨j1, j2, j3, lg_t j4 (by rw [← j1, ← j2]; exact m32) ?_ ?_ (fun j j0 j1 => d3 j (by omega) (by omega))⟩⟩
      · rw [ge_is _ _ _ _ (by omega), y0, if_pos rfl, ge_ig, y5]
        exact l1
      · rw [ge_is _ _ _ _ (by omega), y0, if_pos rfl, ge_ig, y5]
        exact l2
      · rw [← j1, ← j2] at hk3
        obtain ⟨u1, u2, u3, u4⟩ := d5 k (by omega)
        rw [j1, j2] at hk3
        obtain ⟨v1, v2, v3, v4⟩ := l3 k hk3
        exact ⟨by rw [u1]; exact v1, by rw [u2]; exact v2, by rw [u3]; exact v3, by rw [u4]; exact v4⟩
      · rw [ge_is _ _ _ _ (by omega), y0, if_neg (by decide)]
      · rw [ge_is _ _ _ _ (by omega), y0, if_neg (by decide)]
  obtain ⟨er, R⟩ := RR
  subst er
  exact ⟨_, _, _, _, _, _, _, _, _, _, _, _, _, _, _, _, _, _, _, _, _, _, _, _, _, _, e8, e9, k8, k9, R⟩
