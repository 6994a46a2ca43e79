section
/-! The objects' invariants -/
def gi_sh (v_rows : Int32) (v_cols : Int32) (v_high : Int32) (v_wide : Int32) (v_rowOf : List Int32) (v_colOf : List Int32) (v_below : List Int32) (v_face : List Int32) (v_worn : List Int32) (v_last : List Int32) (v_bend : List Int32) (v_tall : List Int32) : Prop := 1 ≤ v_rows.toInt ∧ v_rows.toInt ≤ 4 ∧ 1 ≤ v_cols.toInt ∧ v_cols.toInt ≤ 8 ∧ 1 ≤ v_high.toInt ∧ v_high.toInt ≤ 4 ∧ 1 ≤ v_wide.toInt ∧ v_wide.toInt ≤ 8 ∧ v_rowOf.length = 32 ∧ v_colOf.length = 32 ∧ v_below.length = 32 ∧ v_face.length = 32 ∧ v_worn.length = 64 ∧ v_last.length = 64 ∧ v_bend.length = 64 ∧ v_tall.length = 32 ∧ zn v_rowOf 0 (v_rows.toInt * v_cols.toInt) 0 v_high.toInt ∧ zn v_colOf 0 (v_rows.toInt * v_cols.toInt) 0 v_wide.toInt
def gi_ch (v_done : Int32) (v_size : Int32) (v_before : List Int32) (v_after : List Int32) : Prop := 0 ≤ v_done.toInt ∧ v_done.toInt ≤ 40 ∧ 0 ≤ v_size.toInt ∧ v_size.toInt ≤ 40 ∧ v_before.length = 40 ∧ v_after.length = 40
def gi_la (v_size : Int32) (v_stepCount : Int32) (v_draftCount : Int32) (v_tape : List Int32) (v_steps : List Int32) (v_draft : List Int32) (v_stack : List Int32) : Prop := 0 ≤ v_size.toInt ∧ v_size.toInt ≤ 120 ∧ 0 ≤ v_stepCount.toInt ∧ v_stepCount.toInt ≤ 121 ∧ 0 ≤ v_draftCount.toInt ∧ v_draftCount.toInt ≤ 121 ∧ v_tape.length = 120 ∧ v_steps.length = 121 ∧ v_draft.length = 121 ∧ v_stack.length = 121
def gi_pl (v_size : Int32) (v_lines : List Int32) (v_ways : List Int32) : Prop := 0 ≤ v_size.toInt ∧ v_size.toInt ≤ 12 ∧ v_lines.length = 12 ∧ v_ways.length = 12
def gi_sf (v_size : Int32) (v_items : List Int64) : Prop := 0 ≤ v_size.toInt ∧ v_size.toInt ≤ 60 ∧ v_items.length = 60
def gi_se (v_folds : Int32) (v_path : List Int32) (v_best : List Int32) : Prop := 0 ≤ v_folds.toInt ∧ v_folds.toInt ≤ 3 ∧ v_path.length = 3 ∧ v_best.length = 3
def gi_st (v_at : List Int32) (v_list : List Int32) (v_found : List Int32) : Prop := v_at.length = 7 ∧ v_list.length = 680 ∧ v_found.length = 8 ∧ fnd v_found
def gi_fo (v_size : Int32) (v_kinds : List Int32) (v_trace : List Int32) : Prop := 0 ≤ v_size.toInt ∧ v_size.toInt ≤ 50 ∧ v_kinds.length = 50 ∧ v_trace.length = 24 ∧ zn v_kinds 0 v_size.toInt 0 8
def gm_ch (v_keptMany : Int32) (v_done : Int32) (v_limit : List Int32) (v_changeWas : List Int32) (v_changeIs : List Int32) : Prop := 0 ≤ v_keptMany.toInt ∧ v_keptMany.toInt ≤ 40 ∧ 0 ≤ v_done.toInt ∧ v_done.toInt ≤ 40 ∧ v_limit.length = 1 ∧ v_changeWas.length = 40 ∧ v_changeIs.length = 40 ∧ v_done.toInt ≤ v_keptMany.toInt
def gm_sh (v_rowsOf : Int32) (v_columnsOf : Int32) (v_isKept : Bool) (v_imageRows : Int32) (v_imageColumns : Int32) (v_shapeRows : List Int32) (v_shapeColumns : List Int32) (v_row : List Int32) (v_column : List Int32) (v_below : List Int32) (v_face : List Int32) (v_worn : List Int32) (v_lastBend : List Int32) : Prop := 1 ≤ v_rowsOf.toInt ∧ v_rowsOf.toInt ≤ 4 ∧ 1 ≤ v_columnsOf.toInt ∧ v_columnsOf.toInt ≤ 8 ∧ v_shapeRows.length = 6 ∧ v_shapeColumns.length = 6 ∧ v_row.length = 192 ∧ v_column.length = 192 ∧ v_below.length = 192 ∧ v_face.length = 192 ∧ v_worn.length = 384 ∧ v_lastBend.length = 384 ∧ lv9 v_rowsOf v_columnsOf v_shapeRows v_shapeColumns v_row v_column (0 : Int32) ∧ (¬ (v_isKept = false) → 1 ≤ v_imageRows.toInt ∧ v_imageRows.toInt ≤ 4 ∧ 1 ≤ v_imageColumns.toInt ∧ v_imageColumns.toInt ≤ 8 ∧ lv9 v_imageRows v_imageColumns v_shapeRows v_shapeColumns v_row v_column (5 : Int32))
def gm_tx (v_tapeMany : Int32) (v_textMany : Int32) (v_tape : List Int32) (v_text : List Int32) (v_names : List Int32) (v_bends : List Int32) (v_high : List Int32) (v_to : List Int32) (v_pileSize : List Int32) : Prop := 0 ≤ v_tapeMany.toInt ∧ v_tapeMany.toInt ≤ 120 ∧ -1 ≤ v_textMany.toInt ∧ v_textMany.toInt ≤ 120 ∧ v_tape.length = 120 ∧ v_text.length = 120 ∧ v_names.length = 6 ∧ v_bends.length = 64 ∧ v_high.length = 32 ∧ v_to.length = 32 ∧ v_pileSize.length = 64
def gm_pl (v_planned : Int32) (v_planLine : List Int32) (v_planWay : List Int32) : Prop := 0 ≤ v_planned.toInt ∧ v_planned.toInt ≤ 12 ∧ v_planLine.length = 12 ∧ v_planWay.length = 12
def gm_se (v_bestMany : Int32) (v_way1 : List Int32) (v_bestWay : List Int32) : Prop := 0 ≤ v_bestMany.toInt ∧ v_bestMany.toInt ≤ 3 ∧ v_way1.length = 3 ∧ v_bestWay.length = 3
def gm_or (v_order1 : List Int32) (v_placeIn : List Int32) : Prop := v_order1.length = 7 ∧ v_placeIn.length = 7
def gm_bo (v_bodies : Int32) (v_bodyKind : List Int32) (v_trace : List Int32) : Prop := 0 ≤ v_bodies.toInt ∧ v_bodies.toInt ≤ 50 ∧ v_bodyKind.length = 50 ∧ v_trace.length = 24 ∧ zn v_bodyKind 0 v_bodies.toInt 0 8
def gm_sf (v_shelf : List Int32) (v_many : List Int32) (v_items : List Int64) (v_carried : List Int64) : Prop := v_shelf.length = 6 ∧ v_many.length = 6 ∧ v_items.length = 360 ∧ v_carried.length = 60 ∧ zn v_many 0 6 0 61

theorem st8_act {x1 : Int32} {x2 : Int32} {x3 : Int32} {v_foldings_size : Int32} {v_foldings_ran : Int32} {v_foldings_number : Int32} {v_foldings_kinds : List Int32} {v_foldings_trace : List Int32} (g_0 : gi_fo v_foldings_size v_foldings_kinds v_foldings_trace) : wp (fX8_act 700 x1 x2 x3 v_foldings_size v_foldings_ran v_foldings_number v_foldings_kinds v_foldings_trace) (cu4 (fun (r : Int32) (wv_foldings_ran : Int32) (wv_foldings_number : Int32) (wv_foldings_trace : List Int32) => gi_fo v_foldings_size v_foldings_kinds wv_foldings_trace)) := by
  obtain ⟨a_0, a_1, a_2, a_3, a_4⟩ := id g_0
  unfold fX8_act fX1_perform
  refine wp_bd4 (R := fun _ _ _ t => gi_fo v_foldings_size v_foldings_kinds t) ?_ (fun r w2 w3 w4 q => wp_so4 q)
  refine wp_bd1 (sf_X1_has (Nat.le_refl 700) a_0 a_1) (fun r q => ?_)
  rcases q with ⟨rfl, q0, q1⟩ | ⟨rfl, -⟩
  · refine wp_ifn (by decide) ?_
    refine wp_if (fun _ => wp_so4 g_0) (fun c1 => ?_)
    refine wp_if (fun c2 => ?_) (fun _ => wp_so4 g_0)
    have n4 : (4 : Int32).toInt = 4 := by decide
    have n0 : (0 : Int32).toInt = 0 := by decide
    have d1 : 0 ≤ x2.toInt := by rw [Int32.lt_iff_toInt_lt] at c1; omega
    have d2 : x2.toInt < 4 := by rw [Int32.lt_iff_toInt_lt] at c2; omega
    refine wp_ck (i_inb (by omega) (by omega)) ?_
    refine wp_ck (i_inb (by omega) (by omega)) ?_
    have z := zn_get a_4 q0 q0 q1 (by omega)
    have K : ∃ r c t, fX1_call 700 (fX1_run 700 42) (mm_ig v_foldings_kinds x1) (mm_ig v_foldings_kinds x1) x2 x3 (0 : Int32) (0 : Int32) x1 v_foldings_trace = some (r, c, t) ∧ t.length = 24 := by
      rcases k4 d1 d2 with rfl | rfl | rfl | rfl
      · obtain ⟨r, c, t, e1, -, e3⟩ := ac_0 z.1 z.2 x3 x1 v_foldings_trace a_3
        exact ⟨r, c, t, e1, e3⟩
      · obtain ⟨r, c, t, e1, -, e3⟩ := ac_1 z.1 z.2 x3 x1 v_foldings_trace a_3
        exact ⟨r, c, t, e1, e3⟩
      · obtain ⟨r, c, t, e1, -, e3⟩ := ac_2 z.1 z.2 x3 x1 v_foldings_trace a_3
        exact ⟨r, c, t, e1, e3⟩
      · obtain ⟨r, c, t, e1, -, e3⟩ := ac_3 z.1 z.2 x3 x1 v_foldings_trace a_3
        exact ⟨r, c, t, e1, e3⟩
    obtain ⟨r, c, t, e1, e3⟩ := K
    exact wp_bd3 (R := fun (_ : Int32) (_ : Int32) (t : List Int32) => t.length = 24) ⟨(r, c, t), e1, e3⟩ (fun _ _ _ h => wp_so4 ⟨a_0, a_1, a_2, h, a_4⟩)
  · refine wp_ifp rfl ?_
    exact wp_so4 g_0
set_option maxHeartbeats 4000000 in
set_option maxRecDepth 20000 in
theorem st8_sheet {x1 : Int32} {v_now_rows : Int32} {v_now_cols : Int32} {v_now_high : Int32} {v_now_wide : Int32} {v_now_folds : Int32} {v_now_wrong : Int32} {v_now_more : Int32} {v_now_rowOf : List Int32} {v_now_colOf : List Int32} {v_now_below : List Int32} {v_now_face : List Int32} {v_now_worn : List Int32} {v_now_last : List Int32} {v_now_bend : List Int32} {v_now_tall : List Int32} (g_0 : gi_sh v_now_rows v_now_cols v_now_high v_now_wide v_now_rowOf v_now_colOf v_now_below v_now_face v_now_worn v_now_last v_now_bend v_now_tall) : wp (fX8_sheet 700 x1 v_now_rows v_now_cols v_now_high v_now_wide v_now_folds v_now_wrong v_now_more v_now_rowOf v_now_colOf v_now_below v_now_face v_now_worn v_now_last) (cu14 (fun (r : Int32) (wv_now_rows : Int32) (wv_now_cols : Int32) (wv_now_high : Int32) (wv_now_wide : Int32) (wv_now_folds : Int32) (wv_now_wrong : Int32) (wv_now_more : Int32) (wv_now_rowOf : List Int32) (wv_now_colOf : List Int32) (wv_now_below : List Int32) (wv_now_face : List Int32) (wv_now_worn : List Int32) (wv_now_last : List Int32) => gi_sh wv_now_rows wv_now_cols wv_now_high wv_now_wide wv_now_rowOf wv_now_colOf wv_now_below wv_now_face wv_now_worn wv_now_last v_now_bend v_now_tall)) := by
  obtain ⟨a_0_0, a_0_1, a_0_2, a_0_3, a_0_4, a_0_5, a_0_6, a_0_7, a_0_8, a_0_9, a_0_10, a_0_11, a_0_12, a_0_13, a_0_14, a_0_15, a_0_16, a_0_17⟩ := id g_0
  refine wp_cu14 (sf_X8_sheet (Nat.le_refl 700) a_0_0 a_0_1 a_0_2 a_0_3 a_0_4 a_0_5 a_0_6 a_0_7 a_0_8 a_0_9 a_0_10 a_0_11 a_0_12 a_0_13 a_0_16 a_0_17) (fun r wv_now_rows wv_now_cols wv_now_high wv_now_wide wv_now_folds wv_now_wrong wv_now_more wv_now_rowOf wv_now_colOf wv_now_below wv_now_face wv_now_worn wv_now_last ⟨q_0, q_1, q_2, q_3, q_4, q_5, q_6, q_7, q_8, q_9, q_10, q_11, q_12, q_13, q_14, q_15⟩ => ?_)
  exact ⟨q_0, q_1, q_2, q_3, q_4, q_5, q_6, q_7, q_8, q_9, q_10, q_11, q_12, q_13, a_0_14, a_0_15, q_14, q_15⟩
set_option maxHeartbeats 4000000 in
set_option maxRecDepth 20000 in
theorem st8_limit {x1 : Int32} {v_changes_value : Int32} {v_changes_done : Int32} {v_changes_size : Int32} {v_changes_before : List Int32} {v_changes_after : List Int32} (g_0 : gi_ch v_changes_done v_changes_size v_changes_before v_changes_after) : wp (fX8_limit 700 x1 v_changes_value v_changes_done v_changes_size v_changes_before v_changes_after) (cu6 (fun (r : Int32) (wv_changes_value : Int32) (wv_changes_done : Int32) (wv_changes_size : Int32) (wv_changes_before : List Int32) (wv_changes_after : List Int32) => gi_ch wv_changes_done wv_changes_size wv_changes_before wv_changes_after)) := by
  obtain ⟨a_0_0, a_0_1, a_0_2, a_0_3, a_0_4, a_0_5⟩ := id g_0
  refine wp_cu6 (sf_X8_limit (Nat.le_refl 700) a_0_0 a_0_1 a_0_2 a_0_3 a_0_4 a_0_5) (fun r wv_changes_value wv_changes_done wv_changes_size wv_changes_before wv_changes_after ⟨q_0, q_1, q_2, q_3, q_4, q_5⟩ => ?_)
  exact ⟨q_0, q_1, q_2, q_3, q_4, q_5⟩
set_option maxHeartbeats 4000000 in
set_option maxRecDepth 20000 in
theorem st8_feed {x1 : Int32} {v_wearing_size : Int32} {v_wearing_tape : List Int32} {v_wearing_stepCount : Int32} {v_wearing_draftCount : Int32} {v_wearing_steps : List Int32} {v_wearing_draft : List Int32} {v_wearing_stack : List Int32} (g_0 : gi_la v_wearing_size v_wearing_stepCount v_wearing_draftCount v_wearing_tape v_wearing_steps v_wearing_draft v_wearing_stack) : wp (fX8_feed 700 x1 v_wearing_size v_wearing_tape) (cu3 (fun (r : Int32) (wv_wearing_size : Int32) (wv_wearing_tape : List Int32) => gi_la wv_wearing_size v_wearing_stepCount v_wearing_draftCount wv_wearing_tape v_wearing_steps v_wearing_draft v_wearing_stack)) := by
  obtain ⟨a_0_0, a_0_1, a_0_2, a_0_3, a_0_4, a_0_5, a_0_6, a_0_7, a_0_8, a_0_9⟩ := id g_0
  refine wp_cu3 (sf_X8_feed (Nat.le_refl 700) a_0_0 a_0_1 a_0_6) (fun r wv_wearing_size wv_wearing_tape ⟨q_0, q_1, q_2⟩ => ?_)
  exact ⟨q_0, q_1, a_0_2, a_0_3, a_0_4, a_0_5, q_2, a_0_7, a_0_8, a_0_9⟩
set_option maxHeartbeats 4000000 in
set_option maxRecDepth 20000 in
theorem st8_law {v_wearing_size : Int32} {v_wearing_stepCount : Int32} {v_wearing_draftCount : Int32} {v_wearing_place : Int32} {v_wearing_fault : Int32} {v_wearing_tape : List Int32} {v_wearing_steps : List Int32} {v_wearing_draft : List Int32} {v_wearing_stack : List Int32} (g_0 : gi_la v_wearing_size v_wearing_stepCount v_wearing_draftCount v_wearing_tape v_wearing_steps v_wearing_draft v_wearing_stack) : wp (fX8_law 700 v_wearing_size v_wearing_stepCount v_wearing_draftCount v_wearing_place v_wearing_fault v_wearing_tape v_wearing_steps v_wearing_draft) (cu8 (fun (r : Int32) (wv_wearing_size : Int32) (wv_wearing_stepCount : Int32) (wv_wearing_draftCount : Int32) (wv_wearing_place : Int32) (wv_wearing_fault : Int32) (wv_wearing_steps : List Int32) (wv_wearing_draft : List Int32) => gi_la wv_wearing_size wv_wearing_stepCount wv_wearing_draftCount v_wearing_tape wv_wearing_steps wv_wearing_draft v_wearing_stack)) := by
  obtain ⟨a_0_0, a_0_1, a_0_2, a_0_3, a_0_4, a_0_5, a_0_6, a_0_7, a_0_8, a_0_9⟩ := id g_0
  refine wp_cu8 (sf_X8_law (Nat.le_refl 700) a_0_0 a_0_1 a_0_2 a_0_3 a_0_4 a_0_5 a_0_6 a_0_7 a_0_8) (fun r wv_wearing_size wv_wearing_stepCount wv_wearing_draftCount wv_wearing_place wv_wearing_fault wv_wearing_steps wv_wearing_draft ⟨q_0, q_1, q_2, q_3, q_4, q_5, q_6, q_7⟩ => ?_)
  exact ⟨q_0, q_1, q_2, q_3, q_4, q_5, a_0_6, q_6, q_7, a_0_9⟩
set_option maxHeartbeats 4000000 in
set_option maxRecDepth 20000 in
theorem st8_fold {x1 : Int32} {x2 : Int32} {v_now_rows : Int32} {v_now_cols : Int32} {v_now_high : Int32} {v_now_wide : Int32} {v_now_folds : Int32} {v_now_wrong : Int32} {v_now_more : Int32} {v_now_rowOf : List Int32} {v_now_colOf : List Int32} {v_now_below : List Int32} {v_now_face : List Int32} {v_now_worn : List Int32} {v_now_last : List Int32} {v_now_bend : List Int32} {v_now_tall : List Int32} {v_wearing_stepCount : Int32} {v_wearing_stacked : Int32} {v_wearing_steps : List Int32} {v_wearing_stack : List Int32} {v_changes_value : Int32} {v_wearing_size : Int32} {v_wearing_draftCount : Int32} {v_wearing_tape : List Int32} {v_wearing_draft : List Int32} (g_0 : gi_sh v_now_rows v_now_cols v_now_high v_now_wide v_now_rowOf v_now_colOf v_now_below v_now_face v_now_worn v_now_last v_now_bend v_now_tall) (g_1 : gi_la v_wearing_size v_wearing_stepCount v_wearing_draftCount v_wearing_tape v_wearing_steps v_wearing_draft v_wearing_stack) : wp (fX8_fold 700 x1 x2 v_now_rows v_now_cols v_now_high v_now_wide v_now_folds v_now_wrong v_now_more v_now_rowOf v_now_colOf v_now_below v_now_face v_now_worn v_now_last v_now_bend v_now_tall v_wearing_stepCount v_wearing_stacked v_wearing_steps v_wearing_stack v_changes_value) (cu16 (fun (r : Int32) (wv_now_high : Int32) (wv_now_wide : Int32) (wv_now_folds : Int32) (wv_now_wrong : Int32) (wv_now_more : Int32) (wv_now_rowOf : List Int32) (wv_now_colOf : List Int32) (wv_now_below : List Int32) (wv_now_face : List Int32) (wv_now_worn : List Int32) (wv_now_last : List Int32) (wv_now_bend : List Int32) (wv_now_tall : List Int32) (wv_wearing_stacked : Int32) (wv_wearing_stack : List Int32) => gi_sh v_now_rows v_now_cols wv_now_high wv_now_wide wv_now_rowOf wv_now_colOf wv_now_below wv_now_face wv_now_worn wv_now_last wv_now_bend wv_now_tall ∧ gi_la v_wearing_size v_wearing_stepCount v_wearing_draftCount v_wearing_tape v_wearing_steps v_wearing_draft wv_wearing_stack)) := by
  obtain ⟨a_0_0, a_0_1, a_0_2, a_0_3, a_0_4, a_0_5, a_0_6, a_0_7, a_0_8, a_0_9, a_0_10, a_0_11, a_0_12, a_0_13, a_0_14, a_0_15, a_0_16, a_0_17⟩ := id g_0
  obtain ⟨a_1_0, a_1_1, a_1_2, a_1_3, a_1_4, a_1_5, a_1_6, a_1_7, a_1_8, a_1_9⟩ := id g_1
  refine wp_cu16 (sf_X8_fold (Nat.le_refl 700) a_0_0 a_0_1 a_0_2 a_0_3 a_0_4 a_0_5 a_0_6 a_0_7 a_0_8 a_0_9 a_0_10 a_0_11 a_0_12 a_0_13 a_0_14 a_0_15 a_0_16 a_0_17 a_1_2 a_1_3 a_1_7 a_1_9) (fun r wv_now_high wv_now_wide wv_now_folds wv_now_wrong wv_now_more wv_now_rowOf wv_now_colOf wv_now_below wv_now_face wv_now_worn wv_now_last wv_now_bend wv_now_tall wv_wearing_stacked wv_wearing_stack ⟨q_0, q_1, q_2, q_3, q_4, q_5, q_6, q_7, q_8, q_9, q_10, q_11, q_12, q_13, q_14⟩ => ?_)
  exact ⟨⟨a_0_0, a_0_1, a_0_2, a_0_3, q_0, q_1, q_2, q_3, q_4, q_5, q_6, q_7, q_8, q_9, q_10, q_11, q_12, q_13⟩, ⟨a_1_0, a_1_1, a_1_2, a_1_3, a_1_4, a_1_5, a_1_6, a_1_7, a_1_8, q_14⟩⟩
set_option maxHeartbeats 4000000 in
set_option maxRecDepth 20000 in
theorem st8_flat {v_now_rows : Int32} {v_now_cols : Int32} {v_now_high : Int32} {v_now_wide : Int32} {v_now_rowOf : List Int32} {v_now_colOf : List Int32} {v_now_below : List Int32} {v_now_face : List Int32} {v_now_worn : List Int32} {v_now_last : List Int32} {v_now_bend : List Int32} {v_now_tall : List Int32} (g_0 : gi_sh v_now_rows v_now_cols v_now_high v_now_wide v_now_rowOf v_now_colOf v_now_below v_now_face v_now_worn v_now_last v_now_bend v_now_tall) : wp (fX8_flat 700 v_now_rows v_now_cols v_now_high v_now_wide v_now_rowOf v_now_colOf v_now_below v_now_face) (cu7 (fun (r : Int32) (wv_now_high : Int32) (wv_now_wide : Int32) (wv_now_rowOf : List Int32) (wv_now_colOf : List Int32) (wv_now_below : List Int32) (wv_now_face : List Int32) => gi_sh v_now_rows v_now_cols wv_now_high wv_now_wide wv_now_rowOf wv_now_colOf wv_now_below wv_now_face v_now_worn v_now_last v_now_bend v_now_tall)) := by
  obtain ⟨a_0_0, a_0_1, a_0_2, a_0_3, a_0_4, a_0_5, a_0_6, a_0_7, a_0_8, a_0_9, a_0_10, a_0_11, a_0_12, a_0_13, a_0_14, a_0_15, a_0_16, a_0_17⟩ := id g_0
  refine wp_cu7 (sf_X8_flat (Nat.le_refl 700) a_0_0 a_0_1 a_0_2 a_0_3 a_0_4 a_0_5 a_0_6 a_0_7 a_0_8 a_0_9 a_0_10 a_0_11 a_0_16 a_0_17) (fun r wv_now_high wv_now_wide wv_now_rowOf wv_now_colOf wv_now_below wv_now_face ⟨q_0, q_1, q_2, q_3, q_4, q_5, q_6, q_7, q_8, q_9⟩ => ?_)
  exact ⟨a_0_0, a_0_1, a_0_2, a_0_3, q_0, q_1, q_2, q_3, q_4, q_5, q_6, q_7, a_0_12, a_0_13, a_0_14, a_0_15, q_8, q_9⟩
set_option maxHeartbeats 4000000 in
set_option maxRecDepth 20000 in
theorem st8_crease {x1 : Int32} {x2 : Int32} {v_now_rows : Int32} {v_now_cols : Int32} {v_now_worn : List Int32} {v_now_last : List Int32} {v_changes_value : Int32} {v_now_high : Int32} {v_now_wide : Int32} {v_now_rowOf : List Int32} {v_now_colOf : List Int32} {v_now_below : List Int32} {v_now_face : List Int32} {v_now_bend : List Int32} {v_now_tall : List Int32} (g_0 : gi_sh v_now_rows v_now_cols v_now_high v_now_wide v_now_rowOf v_now_colOf v_now_below v_now_face v_now_worn v_now_last v_now_bend v_now_tall) : wp (fX8_crease 700 x1 x2 v_now_rows v_now_cols v_now_worn v_now_last v_changes_value) (fun (r : Int32) => True) := by
  obtain ⟨a_0_0, a_0_1, a_0_2, a_0_3, a_0_4, a_0_5, a_0_6, a_0_7, a_0_8, a_0_9, a_0_10, a_0_11, a_0_12, a_0_13, a_0_14, a_0_15, a_0_16, a_0_17⟩ := id g_0
  refine wp_cu1 (sf_X8_crease (Nat.le_refl 700) a_0_0 a_0_1 a_0_2 a_0_3 a_0_12 a_0_13) (fun r _ => ?_)
  exact trivial
set_option maxHeartbeats 4000000 in
set_option maxRecDepth 20000 in
theorem st8_shape {x1 : Int32} {v_now_rows : Int32} {v_now_cols : Int32} {v_now_high : Int32} {v_now_wide : Int32} {v_now_below : List Int32} {v_now_rowOf : List Int32} {v_now_colOf : List Int32} {v_now_face : List Int32} {v_now_worn : List Int32} {v_now_last : List Int32} {v_now_bend : List Int32} {v_now_tall : List Int32} (g_0 : gi_sh v_now_rows v_now_cols v_now_high v_now_wide v_now_rowOf v_now_colOf v_now_below v_now_face v_now_worn v_now_last v_now_bend v_now_tall) : wp (fX8_shape 700 x1 v_now_rows v_now_cols v_now_high v_now_wide v_now_below) (fun (r : Int32) => True) := by
  obtain ⟨a_0_0, a_0_1, a_0_2, a_0_3, a_0_4, a_0_5, a_0_6, a_0_7, a_0_8, a_0_9, a_0_10, a_0_11, a_0_12, a_0_13, a_0_14, a_0_15, a_0_16, a_0_17⟩ := id g_0
  refine wp_cu1 (sf_X8_shape (Nat.le_refl 700) a_0_0 a_0_1 a_0_2 a_0_3 a_0_4 a_0_5 a_0_6 a_0_7 a_0_10) (fun r _ => ?_)
  exact trivial
set_option maxHeartbeats 4000000 in
set_option maxRecDepth 20000 in
theorem st8_where {x1 : Int32} {x2 : Int32} {v_now_rows : Int32} {v_now_cols : Int32} {v_now_rowOf : List Int32} {v_now_colOf : List Int32} {v_now_below : List Int32} {v_now_face : List Int32} {v_now_high : Int32} {v_now_wide : Int32} {v_now_worn : List Int32} {v_now_last : List Int32} {v_now_bend : List Int32} {v_now_tall : List Int32} (g_0 : gi_sh v_now_rows v_now_cols v_now_high v_now_wide v_now_rowOf v_now_colOf v_now_below v_now_face v_now_worn v_now_last v_now_bend v_now_tall) : wp (fX8_where 700 x1 x2 v_now_rows v_now_cols v_now_rowOf v_now_colOf v_now_below v_now_face) (fun (r : Int32) => True) := by
  obtain ⟨a_0_0, a_0_1, a_0_2, a_0_3, a_0_4, a_0_5, a_0_6, a_0_7, a_0_8, a_0_9, a_0_10, a_0_11, a_0_12, a_0_13, a_0_14, a_0_15, a_0_16, a_0_17⟩ := id g_0
  refine wp_cu1 (sf_X8_where (Nat.le_refl 700) a_0_0 a_0_1 a_0_2 a_0_3 a_0_8 a_0_9 a_0_10 a_0_11) (fun r _ => ?_)
  exact trivial
set_option maxHeartbeats 4000000 in
set_option maxRecDepth 20000 in
theorem st8_pile {x1 : Int32} {x2 : Int32} {v_now_rows : Int32} {v_now_cols : Int32} {v_now_high : Int32} {v_now_wide : Int32} {v_now_rowOf : List Int32} {v_now_colOf : List Int32} {v_now_below : List Int32} {v_now_face : List Int32} {v_now_worn : List Int32} {v_now_last : List Int32} {v_now_bend : List Int32} {v_now_tall : List Int32} (g_0 : gi_sh v_now_rows v_now_cols v_now_high v_now_wide v_now_rowOf v_now_colOf v_now_below v_now_face v_now_worn v_now_last v_now_bend v_now_tall) : wp (fX8_pile 700 x1 x2 v_now_rows v_now_cols v_now_high v_now_wide v_now_rowOf v_now_colOf v_now_below) (fun (r : Int32) => True) := by
  obtain ⟨a_0_0, a_0_1, a_0_2, a_0_3, a_0_4, a_0_5, a_0_6, a_0_7, a_0_8, a_0_9, a_0_10, a_0_11, a_0_12, a_0_13, a_0_14, a_0_15, a_0_16, a_0_17⟩ := id g_0
  refine wp_cu1 (sf_X8_pile (Nat.le_refl 700) a_0_0 a_0_1 a_0_2 a_0_3 a_0_4 a_0_5 a_0_6 a_0_7 a_0_8 a_0_9 a_0_10 a_0_16 a_0_17) (fun r _ => ?_)
  exact trivial
set_option maxHeartbeats 4000000 in
set_option maxRecDepth 20000 in
theorem st8_led {x1 : Int32} {v_now_rows : Int32} {v_now_cols : Int32} {v_now_folds : Int32} {v_now_wrong : Int32} {v_now_worn : List Int32} {v_changes_value : Int32} {v_now_high : Int32} {v_now_wide : Int32} {v_now_rowOf : List Int32} {v_now_colOf : List Int32} {v_now_below : List Int32} {v_now_face : List Int32} {v_now_last : List Int32} {v_now_bend : List Int32} {v_now_tall : List Int32} (g_0 : gi_sh v_now_rows v_now_cols v_now_high v_now_wide v_now_rowOf v_now_colOf v_now_below v_now_face v_now_worn v_now_last v_now_bend v_now_tall) : wp (fX8_led 700 x1 v_now_rows v_now_cols v_now_folds v_now_wrong v_now_worn v_changes_value) (fun (r : Int32) => True) := by
  obtain ⟨a_0_0, a_0_1, a_0_2, a_0_3, a_0_4, a_0_5, a_0_6, a_0_7, a_0_8, a_0_9, a_0_10, a_0_11, a_0_12, a_0_13, a_0_14, a_0_15, a_0_16, a_0_17⟩ := id g_0
  refine wp_cu1 (sf_X8_led (Nat.le_refl 700) a_0_0 a_0_1 a_0_2 a_0_3 a_0_12) (fun r _ => ?_)
  exact trivial
set_option maxHeartbeats 4000000 in
set_option maxRecDepth 20000 in
theorem st8_plan {x1 : Int32} {x2 : Int32} {v_planned_size : Int32} {v_planned_lines : List Int32} {v_planned_ways : List Int32} (g_0 : gi_pl v_planned_size v_planned_lines v_planned_ways) : wp (fX8_plan 700 x1 x2 v_planned_size v_planned_lines v_planned_ways) (cu4 (fun (r : Int32) (wv_planned_size : Int32) (wv_planned_lines : List Int32) (wv_planned_ways : List Int32) => gi_pl wv_planned_size wv_planned_lines wv_planned_ways)) := by
  obtain ⟨a_0_0, a_0_1, a_0_2, a_0_3⟩ := id g_0
  refine wp_cu4 (sf_X8_plan (Nat.le_refl 700) a_0_0 a_0_1 a_0_2 a_0_3) (fun r wv_planned_size wv_planned_lines wv_planned_ways ⟨q_0, q_1, q_2, q_3⟩ => ?_)
  exact ⟨q_0, q_1, q_2, q_3⟩
set_option maxHeartbeats 4000000 in
set_option maxRecDepth 20000 in
theorem st8_plans {x1 : Int32} {x2 : Int32} {x3 : Int32} {v_planned_size : Int32} {v_planned_lines : List Int32} {v_planned_ways : List Int32} {v_shelves0_holds : Int32} {v_shelves0_sort : Int32} {v_shelves0_size : Int32} {v_shelves0_items : List Int64} {v_shelves1_holds : Int32} {v_shelves1_sort : Int32} {v_shelves1_size : Int32} {v_shelves1_items : List Int64} {v_shelves2_holds : Int32} {v_shelves2_sort : Int32} {v_shelves2_size : Int32} {v_shelves2_items : List Int64} {v_shelves3_holds : Int32} {v_shelves3_sort : Int32} {v_shelves3_size : Int32} {v_shelves3_items : List Int64} {v_shelves4_holds : Int32} {v_shelves4_sort : Int32} {v_shelves4_size : Int32} {v_shelves4_items : List Int64} {v_shelves5_holds : Int32} {v_shelves5_sort : Int32} {v_shelves5_size : Int32} {v_shelves5_items : List Int64} (g_0 : gi_pl v_planned_size v_planned_lines v_planned_ways) (g_1 : gi_sf v_shelves0_size v_shelves0_items) (g_2 : gi_sf v_shelves1_size v_shelves1_items) (g_3 : gi_sf v_shelves2_size v_shelves2_items) (g_4 : gi_sf v_shelves3_size v_shelves3_items) (g_5 : gi_sf v_shelves4_size v_shelves4_items) (g_6 : gi_sf v_shelves5_size v_shelves5_items) : wp (fX8_plans 700 x1 x2 x3 v_planned_size v_planned_lines v_planned_ways v_shelves0_holds v_shelves0_sort v_shelves0_size v_shelves0_items v_shelves1_holds v_shelves1_sort v_shelves1_size v_shelves1_items v_shelves2_holds v_shelves2_sort v_shelves2_size v_shelves2_items v_shelves3_holds v_shelves3_sort v_shelves3_size v_shelves3_items v_shelves4_holds v_shelves4_sort v_shelves4_size v_shelves4_items v_shelves5_holds v_shelves5_sort v_shelves5_size v_shelves5_items) (cu4 (fun (r : Int32) (wv_planned_size : Int32) (wv_planned_lines : List Int32) (wv_planned_ways : List Int32) => gi_pl wv_planned_size wv_planned_lines wv_planned_ways)) := by
  obtain ⟨a_0_0, a_0_1, a_0_2, a_0_3⟩ := id g_0
  obtain ⟨a_1_0, a_1_1, a_1_2⟩ := id g_1
  obtain ⟨a_2_0, a_2_1, a_2_2⟩ := id g_2
  obtain ⟨a_3_0, a_3_1, a_3_2⟩ := id g_3
  obtain ⟨a_4_0, a_4_1, a_4_2⟩ := id g_4
  obtain ⟨a_5_0, a_5_1, a_5_2⟩ := id g_5
  obtain ⟨a_6_0, a_6_1, a_6_2⟩ := id g_6
  refine wp_cu4 (sf_X8_plans (Nat.le_refl 700) a_0_0 a_0_1 a_0_2 a_0_3 a_1_0 a_1_1 a_1_2 a_2_0 a_2_1 a_2_2 a_3_0 a_3_1 a_3_2 a_4_0 a_4_1 a_4_2 a_5_0 a_5_1 a_5_2 a_6_0 a_6_1 a_6_2) (fun r wv_planned_size wv_planned_lines wv_planned_ways ⟨q_0, q_1, q_2, q_3⟩ => ?_)
  exact ⟨q_0, q_1, q_2, q_3⟩
set_option maxHeartbeats 4000000 in
set_option maxRecDepth 20000 in
theorem st8_cost {x1 : Int32} {v_now_rows : Int32} {v_now_cols : Int32} {v_now_high : Int32} {v_now_wide : Int32} {v_now_folds : Int32} {v_now_wrong : Int32} {v_now_more : Int32} {v_now_rowOf : List Int32} {v_now_colOf : List Int32} {v_now_below : List Int32} {v_now_face : List Int32} {v_now_worn : List Int32} {v_now_last : List Int32} {v_wearing_stepCount : Int32} {v_wearing_stacked : Int32} {v_wearing_steps : List Int32} {v_wearing_stack : List Int32} {v_planned_size : Int32} {v_planned_trial_rows : Int32} {v_planned_trial_cols : Int32} {v_planned_trial_high : Int32} {v_planned_trial_wide : Int32} {v_planned_trial_folds : Int32} {v_planned_trial_wrong : Int32} {v_planned_trial_more : Int32} {v_planned_trial_rowOf : List Int32} {v_planned_trial_colOf : List Int32} {v_planned_trial_below : List Int32} {v_planned_trial_face : List Int32} {v_planned_trial_worn : List Int32} {v_planned_trial_last : List Int32} {v_planned_trial_bend : List Int32} {v_planned_trial_tall : List Int32} {v_planned_lines : List Int32} {v_planned_ways : List Int32} {v_changes_value : Int32} {v_now_bend : List Int32} {v_now_tall : List Int32} {v_wearing_size : Int32} {v_wearing_draftCount : Int32} {v_wearing_tape : List Int32} {v_wearing_draft : List Int32} (g_0 : gi_sh v_now_rows v_now_cols v_now_high v_now_wide v_now_rowOf v_now_colOf v_now_below v_now_face v_now_worn v_now_last v_now_bend v_now_tall) (g_1 : gi_la v_wearing_size v_wearing_stepCount v_wearing_draftCount v_wearing_tape v_wearing_steps v_wearing_draft v_wearing_stack) (g_2 : gi_pl v_planned_size v_planned_lines v_planned_ways) (g_3 : gi_sh v_planned_trial_rows v_planned_trial_cols v_planned_trial_high v_planned_trial_wide v_planned_trial_rowOf v_planned_trial_colOf v_planned_trial_below v_planned_trial_face v_planned_trial_worn v_planned_trial_last v_planned_trial_bend v_planned_trial_tall) : wp (fX8_cost 700 x1 v_now_rows v_now_cols v_now_high v_now_wide v_now_folds v_now_wrong v_now_more v_now_rowOf v_now_colOf v_now_below v_now_face v_now_worn v_now_last v_wearing_stepCount v_wearing_stacked v_wearing_steps v_wearing_stack v_planned_size v_planned_trial_rows v_planned_trial_cols v_planned_trial_high v_planned_trial_wide v_planned_trial_folds v_planned_trial_wrong v_planned_trial_more v_planned_trial_rowOf v_planned_trial_colOf v_planned_trial_below v_planned_trial_face v_planned_trial_worn v_planned_trial_last v_planned_trial_bend v_planned_trial_tall v_planned_lines v_planned_ways v_changes_value) (cu18 (fun (r : Int32) (wv_wearing_stacked : Int32) (wv_wearing_stack : List Int32) (wv_planned_trial_rows : Int32) (wv_planned_trial_cols : Int32) (wv_planned_trial_high : Int32) (wv_planned_trial_wide : Int32) (wv_planned_trial_folds : Int32) (wv_planned_trial_wrong : Int32) (wv_planned_trial_more : Int32) (wv_planned_trial_rowOf : List Int32) (wv_planned_trial_colOf : List Int32) (wv_planned_trial_below : List Int32) (wv_planned_trial_face : List Int32) (wv_planned_trial_worn : List Int32) (wv_planned_trial_last : List Int32) (wv_planned_trial_bend : List Int32) (wv_planned_trial_tall : List Int32) => gi_la v_wearing_size v_wearing_stepCount v_wearing_draftCount v_wearing_tape v_wearing_steps v_wearing_draft wv_wearing_stack ∧ gi_sh wv_planned_trial_rows wv_planned_trial_cols wv_planned_trial_high wv_planned_trial_wide wv_planned_trial_rowOf wv_planned_trial_colOf wv_planned_trial_below wv_planned_trial_face wv_planned_trial_worn wv_planned_trial_last wv_planned_trial_bend wv_planned_trial_tall)) := by
  obtain ⟨a_0_0, a_0_1, a_0_2, a_0_3, a_0_4, a_0_5, a_0_6, a_0_7, a_0_8, a_0_9, a_0_10, a_0_11, a_0_12, a_0_13, a_0_14, a_0_15, a_0_16, a_0_17⟩ := id g_0
  obtain ⟨a_1_0, a_1_1, a_1_2, a_1_3, a_1_4, a_1_5, a_1_6, a_1_7, a_1_8, a_1_9⟩ := id g_1
  obtain ⟨a_2_0, a_2_1, a_2_2, a_2_3⟩ := id g_2
  obtain ⟨a_3_0, a_3_1, a_3_2, a_3_3, a_3_4, a_3_5, a_3_6, a_3_7, a_3_8, a_3_9, a_3_10, a_3_11, a_3_12, a_3_13, a_3_14, a_3_15, a_3_16, a_3_17⟩ := id g_3
  refine wp_cu18 (sf_X8_cost (Nat.le_refl 700) a_0_0 a_0_1 a_0_2 a_0_3 a_0_4 a_0_5 a_0_6 a_0_7 a_0_8 a_0_9 a_0_10 a_0_11 a_0_12 a_0_13 a_0_16 a_0_17 a_1_2 a_1_3 a_1_7 a_1_9 a_2_0 a_2_1 a_2_2 a_2_3 a_3_0 a_3_1 a_3_2 a_3_3 a_3_4 a_3_5 a_3_6 a_3_7 a_3_8 a_3_9 a_3_10 a_3_11 a_3_12 a_3_13 a_3_14 a_3_15 a_3_16 a_3_17) (fun r wv_wearing_stacked wv_wearing_stack wv_planned_trial_rows wv_planned_trial_cols wv_planned_trial_high wv_planned_trial_wide wv_planned_trial_folds wv_planned_trial_wrong wv_planned_trial_more wv_planned_trial_rowOf wv_planned_trial_colOf wv_planned_trial_below wv_planned_trial_face wv_planned_trial_worn wv_planned_trial_last wv_planned_trial_bend wv_planned_trial_tall ⟨q_0, q_1, q_2, q_3, q_4, q_5, q_6, q_7, q_8, q_9, q_10, q_11, q_12, q_13, q_14, q_15, q_16, q_17, q_18⟩ => ?_)
  exact ⟨⟨a_1_0, a_1_1, a_1_2, a_1_3, a_1_4, a_1_5, a_1_6, a_1_7, a_1_8, q_0⟩, ⟨q_1, q_2, q_3, q_4, q_5, q_6, q_7, q_8, q_9, q_10, q_11, q_12, q_13, q_14, q_15, q_16, q_17, q_18⟩⟩
set_option maxHeartbeats 4000000 in
set_option maxRecDepth 20000 in
theorem st8_lies {x1 : Int32} {x2 : Int32} {v_now_rows : Int32} {v_now_cols : Int32} {v_now_high : Int32} {v_now_wide : Int32} {v_now_folds : Int32} {v_now_wrong : Int32} {v_now_more : Int32} {v_now_rowOf : List Int32} {v_now_colOf : List Int32} {v_now_below : List Int32} {v_now_face : List Int32} {v_now_worn : List Int32} {v_now_last : List Int32} {v_wearing_stepCount : Int32} {v_wearing_stacked : Int32} {v_wearing_steps : List Int32} {v_wearing_stack : List Int32} {v_planned_size : Int32} {v_planned_trial_rows : Int32} {v_planned_trial_cols : Int32} {v_planned_trial_high : Int32} {v_planned_trial_wide : Int32} {v_planned_trial_folds : Int32} {v_planned_trial_wrong : Int32} {v_planned_trial_more : Int32} {v_planned_trial_rowOf : List Int32} {v_planned_trial_colOf : List Int32} {v_planned_trial_below : List Int32} {v_planned_trial_face : List Int32} {v_planned_trial_worn : List Int32} {v_planned_trial_last : List Int32} {v_planned_trial_bend : List Int32} {v_planned_trial_tall : List Int32} {v_planned_lines : List Int32} {v_planned_ways : List Int32} {v_changes_value : Int32} {v_now_bend : List Int32} {v_now_tall : List Int32} {v_wearing_size : Int32} {v_wearing_draftCount : Int32} {v_wearing_tape : List Int32} {v_wearing_draft : List Int32} (g_0 : gi_sh v_now_rows v_now_cols v_now_high v_now_wide v_now_rowOf v_now_colOf v_now_below v_now_face v_now_worn v_now_last v_now_bend v_now_tall) (g_1 : gi_la v_wearing_size v_wearing_stepCount v_wearing_draftCount v_wearing_tape v_wearing_steps v_wearing_draft v_wearing_stack) (g_2 : gi_pl v_planned_size v_planned_lines v_planned_ways) (g_3 : gi_sh v_planned_trial_rows v_planned_trial_cols v_planned_trial_high v_planned_trial_wide v_planned_trial_rowOf v_planned_trial_colOf v_planned_trial_below v_planned_trial_face v_planned_trial_worn v_planned_trial_last v_planned_trial_bend v_planned_trial_tall) : wp (fX8_lies 700 x1 x2 v_now_rows v_now_cols v_now_high v_now_wide v_now_folds v_now_wrong v_now_more v_now_rowOf v_now_colOf v_now_below v_now_face v_now_worn v_now_last v_wearing_stepCount v_wearing_stacked v_wearing_steps v_wearing_stack v_planned_size v_planned_trial_rows v_planned_trial_cols v_planned_trial_high v_planned_trial_wide v_planned_trial_folds v_planned_trial_wrong v_planned_trial_more v_planned_trial_rowOf v_planned_trial_colOf v_planned_trial_below v_planned_trial_face v_planned_trial_worn v_planned_trial_last v_planned_trial_bend v_planned_trial_tall v_planned_lines v_planned_ways v_changes_value) (cu18 (fun (r : Int32) (wv_wearing_stacked : Int32) (wv_wearing_stack : List Int32) (wv_planned_trial_rows : Int32) (wv_planned_trial_cols : Int32) (wv_planned_trial_high : Int32) (wv_planned_trial_wide : Int32) (wv_planned_trial_folds : Int32) (wv_planned_trial_wrong : Int32) (wv_planned_trial_more : Int32) (wv_planned_trial_rowOf : List Int32) (wv_planned_trial_colOf : List Int32) (wv_planned_trial_below : List Int32) (wv_planned_trial_face : List Int32) (wv_planned_trial_worn : List Int32) (wv_planned_trial_last : List Int32) (wv_planned_trial_bend : List Int32) (wv_planned_trial_tall : List Int32) => gi_la v_wearing_size v_wearing_stepCount v_wearing_draftCount v_wearing_tape v_wearing_steps v_wearing_draft wv_wearing_stack ∧ gi_sh wv_planned_trial_rows wv_planned_trial_cols wv_planned_trial_high wv_planned_trial_wide wv_planned_trial_rowOf wv_planned_trial_colOf wv_planned_trial_below wv_planned_trial_face wv_planned_trial_worn wv_planned_trial_last wv_planned_trial_bend wv_planned_trial_tall)) := by
  obtain ⟨a_0_0, a_0_1, a_0_2, a_0_3, a_0_4, a_0_5, a_0_6, a_0_7, a_0_8, a_0_9, a_0_10, a_0_11, a_0_12, a_0_13, a_0_14, a_0_15, a_0_16, a_0_17⟩ := id g_0
  obtain ⟨a_1_0, a_1_1, a_1_2, a_1_3, a_1_4, a_1_5, a_1_6, a_1_7, a_1_8, a_1_9⟩ := id g_1
  obtain ⟨a_2_0, a_2_1, a_2_2, a_2_3⟩ := id g_2
  obtain ⟨a_3_0, a_3_1, a_3_2, a_3_3, a_3_4, a_3_5, a_3_6, a_3_7, a_3_8, a_3_9, a_3_10, a_3_11, a_3_12, a_3_13, a_3_14, a_3_15, a_3_16, a_3_17⟩ := id g_3
  refine wp_cu18 (sf_X8_lies (Nat.le_refl 700) a_0_0 a_0_1 a_0_2 a_0_3 a_0_4 a_0_5 a_0_6 a_0_7 a_0_8 a_0_9 a_0_10 a_0_11 a_0_12 a_0_13 a_0_16 a_0_17 a_1_2 a_1_3 a_1_7 a_1_9 a_2_0 a_2_1 a_2_2 a_2_3 a_3_0 a_3_1 a_3_2 a_3_3 a_3_4 a_3_5 a_3_6 a_3_7 a_3_8 a_3_9 a_3_10 a_3_11 a_3_12 a_3_13 a_3_14 a_3_15 a_3_16 a_3_17) (fun r wv_wearing_stacked wv_wearing_stack wv_planned_trial_rows wv_planned_trial_cols wv_planned_trial_high wv_planned_trial_wide wv_planned_trial_folds wv_planned_trial_wrong wv_planned_trial_more wv_planned_trial_rowOf wv_planned_trial_colOf wv_planned_trial_below wv_planned_trial_face wv_planned_trial_worn wv_planned_trial_last wv_planned_trial_bend wv_planned_trial_tall ⟨q_0, q_1, q_2, q_3, q_4, q_5, q_6, q_7, q_8, q_9, q_10, q_11, q_12, q_13, q_14, q_15, q_16, q_17, q_18⟩ => ?_)
  exact ⟨⟨a_1_0, a_1_1, a_1_2, a_1_3, a_1_4, a_1_5, a_1_6, a_1_7, a_1_8, q_0⟩, ⟨q_1, q_2, q_3, q_4, q_5, q_6, q_7, q_8, q_9, q_10, q_11, q_12, q_13, q_14, q_15, q_16, q_17, q_18⟩⟩
set_option maxHeartbeats 4000000 in
set_option maxRecDepth 20000 in
theorem st8_top {x1 : Int32} {x2 : Int32} {v_now_rows : Int32} {v_now_cols : Int32} {v_now_high : Int32} {v_now_wide : Int32} {v_now_folds : Int32} {v_now_wrong : Int32} {v_now_more : Int32} {v_now_rowOf : List Int32} {v_now_colOf : List Int32} {v_now_below : List Int32} {v_now_face : List Int32} {v_now_worn : List Int32} {v_now_last : List Int32} {v_wearing_stepCount : Int32} {v_wearing_stacked : Int32} {v_wearing_steps : List Int32} {v_wearing_stack : List Int32} {v_planned_size : Int32} {v_planned_trial_rows : Int32} {v_planned_trial_cols : Int32} {v_planned_trial_high : Int32} {v_planned_trial_wide : Int32} {v_planned_trial_folds : Int32} {v_planned_trial_wrong : Int32} {v_planned_trial_more : Int32} {v_planned_trial_rowOf : List Int32} {v_planned_trial_colOf : List Int32} {v_planned_trial_below : List Int32} {v_planned_trial_face : List Int32} {v_planned_trial_worn : List Int32} {v_planned_trial_last : List Int32} {v_planned_trial_bend : List Int32} {v_planned_trial_tall : List Int32} {v_planned_lines : List Int32} {v_planned_ways : List Int32} {v_changes_value : Int32} {v_now_bend : List Int32} {v_now_tall : List Int32} {v_wearing_size : Int32} {v_wearing_draftCount : Int32} {v_wearing_tape : List Int32} {v_wearing_draft : List Int32} (g_0 : gi_sh v_now_rows v_now_cols v_now_high v_now_wide v_now_rowOf v_now_colOf v_now_below v_now_face v_now_worn v_now_last v_now_bend v_now_tall) (g_1 : gi_la v_wearing_size v_wearing_stepCount v_wearing_draftCount v_wearing_tape v_wearing_steps v_wearing_draft v_wearing_stack) (g_2 : gi_pl v_planned_size v_planned_lines v_planned_ways) (g_3 : gi_sh v_planned_trial_rows v_planned_trial_cols v_planned_trial_high v_planned_trial_wide v_planned_trial_rowOf v_planned_trial_colOf v_planned_trial_below v_planned_trial_face v_planned_trial_worn v_planned_trial_last v_planned_trial_bend v_planned_trial_tall) : wp (fX8_top 700 x1 x2 v_now_rows v_now_cols v_now_high v_now_wide v_now_folds v_now_wrong v_now_more v_now_rowOf v_now_colOf v_now_below v_now_face v_now_worn v_now_last v_wearing_stepCount v_wearing_stacked v_wearing_steps v_wearing_stack v_planned_size v_planned_trial_rows v_planned_trial_cols v_planned_trial_high v_planned_trial_wide v_planned_trial_folds v_planned_trial_wrong v_planned_trial_more v_planned_trial_rowOf v_planned_trial_colOf v_planned_trial_below v_planned_trial_face v_planned_trial_worn v_planned_trial_last v_planned_trial_bend v_planned_trial_tall v_planned_lines v_planned_ways v_changes_value) (cu18 (fun (r : Int32) (wv_wearing_stacked : Int32) (wv_wearing_stack : List Int32) (wv_planned_trial_rows : Int32) (wv_planned_trial_cols : Int32) (wv_planned_trial_high : Int32) (wv_planned_trial_wide : Int32) (wv_planned_trial_folds : Int32) (wv_planned_trial_wrong : Int32) (wv_planned_trial_more : Int32) (wv_planned_trial_rowOf : List Int32) (wv_planned_trial_colOf : List Int32) (wv_planned_trial_below : List Int32) (wv_planned_trial_face : List Int32) (wv_planned_trial_worn : List Int32) (wv_planned_trial_last : List Int32) (wv_planned_trial_bend : List Int32) (wv_planned_trial_tall : List Int32) => gi_la v_wearing_size v_wearing_stepCount v_wearing_draftCount v_wearing_tape v_wearing_steps v_wearing_draft wv_wearing_stack ∧ gi_sh wv_planned_trial_rows wv_planned_trial_cols wv_planned_trial_high wv_planned_trial_wide wv_planned_trial_rowOf wv_planned_trial_colOf wv_planned_trial_below wv_planned_trial_face wv_planned_trial_worn wv_planned_trial_last wv_planned_trial_bend wv_planned_trial_tall)) := by
  obtain ⟨a_0_0, a_0_1, a_0_2, a_0_3, a_0_4, a_0_5, a_0_6, a_0_7, a_0_8, a_0_9, a_0_10, a_0_11, a_0_12, a_0_13, a_0_14, a_0_15, a_0_16, a_0_17⟩ := id g_0
  obtain ⟨a_1_0, a_1_1, a_1_2, a_1_3, a_1_4, a_1_5, a_1_6, a_1_7, a_1_8, a_1_9⟩ := id g_1
  obtain ⟨a_2_0, a_2_1, a_2_2, a_2_3⟩ := id g_2
  obtain ⟨a_3_0, a_3_1, a_3_2, a_3_3, a_3_4, a_3_5, a_3_6, a_3_7, a_3_8, a_3_9, a_3_10, a_3_11, a_3_12, a_3_13, a_3_14, a_3_15, a_3_16, a_3_17⟩ := id g_3
  refine wp_cu18 (sf_X8_top (Nat.le_refl 700) a_0_0 a_0_1 a_0_2 a_0_3 a_0_4 a_0_5 a_0_6 a_0_7 a_0_8 a_0_9 a_0_10 a_0_11 a_0_12 a_0_13 a_0_16 a_0_17 a_1_2 a_1_3 a_1_7 a_1_9 a_2_0 a_2_1 a_2_2 a_2_3 a_3_0 a_3_1 a_3_2 a_3_3 a_3_4 a_3_5 a_3_6 a_3_7 a_3_8 a_3_9 a_3_10 a_3_11 a_3_12 a_3_13 a_3_14 a_3_15 a_3_16 a_3_17) (fun r wv_wearing_stacked wv_wearing_stack wv_planned_trial_rows wv_planned_trial_cols wv_planned_trial_high wv_planned_trial_wide wv_planned_trial_folds wv_planned_trial_wrong wv_planned_trial_more wv_planned_trial_rowOf wv_planned_trial_colOf wv_planned_trial_below wv_planned_trial_face wv_planned_trial_worn wv_planned_trial_last wv_planned_trial_bend wv_planned_trial_tall ⟨q_0, q_1, q_2, q_3, q_4, q_5, q_6, q_7, q_8, q_9, q_10, q_11, q_12, q_13, q_14, q_15, q_16, q_17, q_18⟩ => ?_)
  exact ⟨⟨a_1_0, a_1_1, a_1_2, a_1_3, a_1_4, a_1_5, a_1_6, a_1_7, a_1_8, q_0⟩, ⟨q_1, q_2, q_3, q_4, q_5, q_6, q_7, q_8, q_9, q_10, q_11, q_12, q_13, q_14, q_15, q_16, q_17, q_18⟩⟩
set_option maxHeartbeats 4000000 in
set_option maxRecDepth 20000 in
theorem st8_beside {x1 : Int32} {x2 : Int32} {v_now_rows : Int32} {v_now_cols : Int32} {v_now_high : Int32} {v_now_wide : Int32} {v_now_folds : Int32} {v_now_wrong : Int32} {v_now_more : Int32} {v_now_rowOf : List Int32} {v_now_colOf : List Int32} {v_now_below : List Int32} {v_now_face : List Int32} {v_now_worn : List Int32} {v_now_last : List Int32} {v_wearing_stepCount : Int32} {v_wearing_stacked : Int32} {v_wearing_steps : List Int32} {v_wearing_stack : List Int32} {v_planned_size : Int32} {v_planned_trial_rows : Int32} {v_planned_trial_cols : Int32} {v_planned_trial_high : Int32} {v_planned_trial_wide : Int32} {v_planned_trial_folds : Int32} {v_planned_trial_wrong : Int32} {v_planned_trial_more : Int32} {v_planned_trial_rowOf : List Int32} {v_planned_trial_colOf : List Int32} {v_planned_trial_below : List Int32} {v_planned_trial_face : List Int32} {v_planned_trial_worn : List Int32} {v_planned_trial_last : List Int32} {v_planned_trial_bend : List Int32} {v_planned_trial_tall : List Int32} {v_planned_lines : List Int32} {v_planned_ways : List Int32} {v_changes_value : Int32} {v_now_bend : List Int32} {v_now_tall : List Int32} {v_wearing_size : Int32} {v_wearing_draftCount : Int32} {v_wearing_tape : List Int32} {v_wearing_draft : List Int32} (g_0 : gi_sh v_now_rows v_now_cols v_now_high v_now_wide v_now_rowOf v_now_colOf v_now_below v_now_face v_now_worn v_now_last v_now_bend v_now_tall) (g_1 : gi_la v_wearing_size v_wearing_stepCount v_wearing_draftCount v_wearing_tape v_wearing_steps v_wearing_draft v_wearing_stack) (g_2 : gi_pl v_planned_size v_planned_lines v_planned_ways) (g_3 : gi_sh v_planned_trial_rows v_planned_trial_cols v_planned_trial_high v_planned_trial_wide v_planned_trial_rowOf v_planned_trial_colOf v_planned_trial_below v_planned_trial_face v_planned_trial_worn v_planned_trial_last v_planned_trial_bend v_planned_trial_tall) : wp (fX8_beside 700 x1 x2 v_now_rows v_now_cols v_now_high v_now_wide v_now_folds v_now_wrong v_now_more v_now_rowOf v_now_colOf v_now_below v_now_face v_now_worn v_now_last v_wearing_stepCount v_wearing_stacked v_wearing_steps v_wearing_stack v_planned_size v_planned_trial_rows v_planned_trial_cols v_planned_trial_high v_planned_trial_wide v_planned_trial_folds v_planned_trial_wrong v_planned_trial_more v_planned_trial_rowOf v_planned_trial_colOf v_planned_trial_below v_planned_trial_face v_planned_trial_worn v_planned_trial_last v_planned_trial_bend v_planned_trial_tall v_planned_lines v_planned_ways v_changes_value) (cu18 (fun (r : Int32) (wv_wearing_stacked : Int32) (wv_wearing_stack : List Int32) (wv_planned_trial_rows : Int32) (wv_planned_trial_cols : Int32) (wv_planned_trial_high : Int32) (wv_planned_trial_wide : Int32) (wv_planned_trial_folds : Int32) (wv_planned_trial_wrong : Int32) (wv_planned_trial_more : Int32) (wv_planned_trial_rowOf : List Int32) (wv_planned_trial_colOf : List Int32) (wv_planned_trial_below : List Int32) (wv_planned_trial_face : List Int32) (wv_planned_trial_worn : List Int32) (wv_planned_trial_last : List Int32) (wv_planned_trial_bend : List Int32) (wv_planned_trial_tall : List Int32) => gi_la v_wearing_size v_wearing_stepCount v_wearing_draftCount v_wearing_tape v_wearing_steps v_wearing_draft wv_wearing_stack ∧ gi_sh wv_planned_trial_rows wv_planned_trial_cols wv_planned_trial_high wv_planned_trial_wide wv_planned_trial_rowOf wv_planned_trial_colOf wv_planned_trial_below wv_planned_trial_face wv_planned_trial_worn wv_planned_trial_last wv_planned_trial_bend wv_planned_trial_tall)) := by
  obtain ⟨a_0_0, a_0_1, a_0_2, a_0_3, a_0_4, a_0_5, a_0_6, a_0_7, a_0_8, a_0_9, a_0_10, a_0_11, a_0_12, a_0_13, a_0_14, a_0_15, a_0_16, a_0_17⟩ := id g_0
  obtain ⟨a_1_0, a_1_1, a_1_2, a_1_3, a_1_4, a_1_5, a_1_6, a_1_7, a_1_8, a_1_9⟩ := id g_1
  obtain ⟨a_2_0, a_2_1, a_2_2, a_2_3⟩ := id g_2
  obtain ⟨a_3_0, a_3_1, a_3_2, a_3_3, a_3_4, a_3_5, a_3_6, a_3_7, a_3_8, a_3_9, a_3_10, a_3_11, a_3_12, a_3_13, a_3_14, a_3_15, a_3_16, a_3_17⟩ := id g_3
  refine wp_cu18 (sf_X8_beside (Nat.le_refl 700) a_0_0 a_0_1 a_0_2 a_0_3 a_0_4 a_0_5 a_0_6 a_0_7 a_0_8 a_0_9 a_0_10 a_0_11 a_0_12 a_0_13 a_0_16 a_0_17 a_1_2 a_1_3 a_1_7 a_1_9 a_2_0 a_2_1 a_2_2 a_2_3 a_3_0 a_3_1 a_3_2 a_3_3 a_3_4 a_3_5 a_3_6 a_3_7 a_3_8 a_3_9 a_3_10 a_3_11 a_3_12 a_3_13 a_3_14 a_3_15 a_3_16 a_3_17) (fun r wv_wearing_stacked wv_wearing_stack wv_planned_trial_rows wv_planned_trial_cols wv_planned_trial_high wv_planned_trial_wide wv_planned_trial_folds wv_planned_trial_wrong wv_planned_trial_more wv_planned_trial_rowOf wv_planned_trial_colOf wv_planned_trial_below wv_planned_trial_face wv_planned_trial_worn wv_planned_trial_last wv_planned_trial_bend wv_planned_trial_tall ⟨q_0, q_1, q_2, q_3, q_4, q_5, q_6, q_7, q_8, q_9, q_10, q_11, q_12, q_13, q_14, q_15, q_16, q_17, q_18⟩ => ?_)
  exact ⟨⟨a_1_0, a_1_1, a_1_2, a_1_3, a_1_4, a_1_5, a_1_6, a_1_7, a_1_8, q_0⟩, ⟨q_1, q_2, q_3, q_4, q_5, q_6, q_7, q_8, q_9, q_10, q_11, q_12, q_13, q_14, q_15, q_16, q_17, q_18⟩⟩
set_option maxHeartbeats 4000000 in
set_option maxRecDepth 20000 in
theorem st8_wished {x1 : Int32} {x2 : Int32} {v_now_rows : Int32} {v_now_cols : Int32} {v_now_high : Int32} {v_now_wide : Int32} {v_now_folds : Int32} {v_now_wrong : Int32} {v_now_more : Int32} {v_now_rowOf : List Int32} {v_now_colOf : List Int32} {v_now_below : List Int32} {v_now_face : List Int32} {v_now_worn : List Int32} {v_now_last : List Int32} {v_search_found : Bool} {v_search_wrong : Int32} {v_search_more : Int32} {v_search_folds : Int32} {v_search_wanted : Int32} {v_search_levels0_rows : Int32} {v_search_levels0_cols : Int32} {v_search_levels0_high : Int32} {v_search_levels0_wide : Int32} {v_search_levels0_folds : Int32} {v_search_levels0_wrong : Int32} {v_search_levels0_more : Int32} {v_search_levels0_rowOf : List Int32} {v_search_levels0_colOf : List Int32} {v_search_levels0_below : List Int32} {v_search_levels0_face : List Int32} {v_search_levels0_worn : List Int32} {v_search_levels0_last : List Int32} {v_search_levels1_rows : Int32} {v_search_levels1_cols : Int32} {v_search_levels1_high : Int32} {v_search_levels1_wide : Int32} {v_search_levels1_folds : Int32} {v_search_levels1_wrong : Int32} {v_search_levels1_more : Int32} {v_search_levels1_rowOf : List Int32} {v_search_levels1_colOf : List Int32} {v_search_levels1_below : List Int32} {v_search_levels1_face : List Int32} {v_search_levels1_worn : List Int32} {v_search_levels1_last : List Int32} {v_search_levels1_tall : List Int32} {v_search_levels2_rows : Int32} {v_search_levels2_cols : Int32} {v_search_levels2_high : Int32} {v_search_levels2_wide : Int32} {v_search_levels2_folds : Int32} {v_search_levels2_wrong : Int32} {v_search_levels2_more : Int32} {v_search_levels2_rowOf : List Int32} {v_search_levels2_colOf : List Int32} {v_search_levels2_below : List Int32} {v_search_levels2_face : List Int32} {v_search_levels2_worn : List Int32} {v_search_levels2_last : List Int32} {v_search_levels2_tall : List Int32} {v_search_levels3_rows : Int32} {v_search_levels3_cols : Int32} {v_search_levels3_high : Int32} {v_search_levels3_wide : Int32} {v_search_levels3_folds : Int32} {v_search_levels3_wrong : Int32} {v_search_levels3_more : Int32} {v_search_levels3_rowOf : List Int32} {v_search_levels3_colOf : List Int32} {v_search_levels3_below : List Int32} {v_search_levels3_face : List Int32} {v_search_levels3_worn : List Int32} {v_search_levels3_last : List Int32} {v_search_levels3_tall : List Int32} {v_search_path : List Int32} {v_search_best : List Int32} {v_now_bend : List Int32} {v_now_tall : List Int32} {v_search_levels0_bend : List Int32} {v_search_levels0_tall : List Int32} {v_search_levels1_bend : List Int32} {v_search_levels2_bend : List Int32} {v_search_levels3_bend : List Int32} (g_0 : gi_sh v_now_rows v_now_cols v_now_high v_now_wide v_now_rowOf v_now_colOf v_now_below v_now_face v_now_worn v_now_last v_now_bend v_now_tall) (g_1 : gi_se v_search_folds v_search_path v_search_best) (g_2 : gi_sh v_search_levels0_rows v_search_levels0_cols v_search_levels0_high v_search_levels0_wide v_search_levels0_rowOf v_search_levels0_colOf v_search_levels0_below v_search_levels0_face v_search_levels0_worn v_search_levels0_last v_search_levels0_bend v_search_levels0_tall) (g_3 : gi_sh v_search_levels1_rows v_search_levels1_cols v_search_levels1_high v_search_levels1_wide v_search_levels1_rowOf v_search_levels1_colOf v_search_levels1_below v_search_levels1_face v_search_levels1_worn v_search_levels1_last v_search_levels1_bend v_search_levels1_tall) (g_4 : gi_sh v_search_levels2_rows v_search_levels2_cols v_search_levels2_high v_search_levels2_wide v_search_levels2_rowOf v_search_levels2_colOf v_search_levels2_below v_search_levels2_face v_search_levels2_worn v_search_levels2_last v_search_levels2_bend v_search_levels2_tall) (g_5 : gi_sh v_search_levels3_rows v_search_levels3_cols v_search_levels3_high v_search_levels3_wide v_search_levels3_rowOf v_search_levels3_colOf v_search_levels3_below v_search_levels3_face v_search_levels3_worn v_search_levels3_last v_search_levels3_bend v_search_levels3_tall) : wp (fX8_wished 700 x1 x2 v_now_rows v_now_cols v_now_high v_now_wide v_now_folds v_now_wrong v_now_more v_now_rowOf v_now_colOf v_now_below v_now_face v_now_worn v_now_last v_search_found v_search_wrong v_search_more v_search_folds v_search_wanted v_search_levels0_rows v_search_levels0_cols v_search_levels0_high v_search_levels0_wide v_search_levels0_folds v_search_levels0_wrong v_search_levels0_more v_search_levels0_rowOf v_search_levels0_colOf v_search_levels0_below v_search_levels0_face v_search_levels0_worn v_search_levels0_last v_search_levels1_rows v_search_levels1_cols v_search_levels1_high v_search_levels1_wide v_search_levels1_folds v_search_levels1_wrong v_search_levels1_more v_search_levels1_rowOf v_search_levels1_colOf v_search_levels1_below v_search_levels1_face v_search_levels1_worn v_search_levels1_last v_search_levels1_tall v_search_levels2_rows v_search_levels2_cols v_search_levels2_high v_search_levels2_wide v_search_levels2_folds v_search_levels2_wrong v_search_levels2_more v_search_levels2_rowOf v_search_levels2_colOf v_search_levels2_below v_search_levels2_face v_search_levels2_worn v_search_levels2_last v_search_levels2_tall v_search_levels3_rows v_search_levels3_cols v_search_levels3_high v_search_levels3_wide v_search_levels3_folds v_search_levels3_wrong v_search_levels3_more v_search_levels3_rowOf v_search_levels3_colOf v_search_levels3_below v_search_levels3_face v_search_levels3_worn v_search_levels3_last v_search_levels3_tall v_search_path v_search_best) (cu63 (fun (r : Int32) (wv_search_found : Bool) (wv_search_wrong : Int32) (wv_search_more : Int32) (wv_search_folds : Int32) (wv_search_wanted : Int32) (wv_search_levels0_rows : Int32) (wv_search_levels0_cols : Int32) (wv_search_levels0_high : Int32) (wv_search_levels0_wide : Int32) (wv_search_levels0_folds : Int32) (wv_search_levels0_wrong : Int32) (wv_search_levels0_more : Int32) (wv_search_levels0_rowOf : List Int32) (wv_search_levels0_colOf : List Int32) (wv_search_levels0_below : List Int32) (wv_search_levels0_face : List Int32) (wv_search_levels0_worn : List Int32) (wv_search_levels0_last : List Int32) (wv_search_levels1_rows : Int32) (wv_search_levels1_cols : Int32) (wv_search_levels1_high : Int32) (wv_search_levels1_wide : Int32) (wv_search_levels1_folds : Int32) (wv_search_levels1_wrong : Int32) (wv_search_levels1_more : Int32) (wv_search_levels1_rowOf : List Int32) (wv_search_levels1_colOf : List Int32) (wv_search_levels1_below : List Int32) (wv_search_levels1_face : List Int32) (wv_search_levels1_worn : List Int32) (wv_search_levels1_last : List Int32) (wv_search_levels1_tall : List Int32) (wv_search_levels2_rows : Int32) (wv_search_levels2_cols : Int32) (wv_search_levels2_high : Int32) (wv_search_levels2_wide : Int32) (wv_search_levels2_folds : Int32) (wv_search_levels2_wrong : Int32) (wv_search_levels2_more : Int32) (wv_search_levels2_rowOf : List Int32) (wv_search_levels2_colOf : List Int32) (wv_search_levels2_below : List Int32) (wv_search_levels2_face : List Int32) (wv_search_levels2_worn : List Int32) (wv_search_levels2_last : List Int32) (wv_search_levels2_tall : List Int32) (wv_search_levels3_rows : Int32) (wv_search_levels3_cols : Int32) (wv_search_levels3_high : Int32) (wv_search_levels3_wide : Int32) (wv_search_levels3_folds : Int32) (wv_search_levels3_wrong : Int32) (wv_search_levels3_more : Int32) (wv_search_levels3_rowOf : List Int32) (wv_search_levels3_colOf : List Int32) (wv_search_levels3_below : List Int32) (wv_search_levels3_face : List Int32) (wv_search_levels3_worn : List Int32) (wv_search_levels3_last : List Int32) (wv_search_levels3_tall : List Int32) (wv_search_path : List Int32) (wv_search_best : List Int32) => gi_se wv_search_folds wv_search_path wv_search_best ∧ gi_sh wv_search_levels0_rows wv_search_levels0_cols wv_search_levels0_high wv_search_levels0_wide wv_search_levels0_rowOf wv_search_levels0_colOf wv_search_levels0_below wv_search_levels0_face wv_search_levels0_worn wv_search_levels0_last v_search_levels0_bend v_search_levels0_tall ∧ gi_sh wv_search_levels1_rows wv_search_levels1_cols wv_search_levels1_high wv_search_levels1_wide wv_search_levels1_rowOf wv_search_levels1_colOf wv_search_levels1_below wv_search_levels1_face wv_search_levels1_worn wv_search_levels1_last v_search_levels1_bend wv_search_levels1_tall ∧ gi_sh wv_search_levels2_rows wv_search_levels2_cols wv_search_levels2_high wv_search_levels2_wide wv_search_levels2_rowOf wv_search_levels2_colOf wv_search_levels2_below wv_search_levels2_face wv_search_levels2_worn wv_search_levels2_last v_search_levels2_bend wv_search_levels2_tall ∧ gi_sh wv_search_levels3_rows wv_search_levels3_cols wv_search_levels3_high wv_search_levels3_wide wv_search_levels3_rowOf wv_search_levels3_colOf wv_search_levels3_below wv_search_levels3_face wv_search_levels3_worn wv_search_levels3_last v_search_levels3_bend wv_search_levels3_tall)) := by
  obtain ⟨a_0_0, a_0_1, a_0_2, a_0_3, a_0_4, a_0_5, a_0_6, a_0_7, a_0_8, a_0_9, a_0_10, a_0_11, a_0_12, a_0_13, a_0_14, a_0_15, a_0_16, a_0_17⟩ := id g_0
  obtain ⟨a_1_0, a_1_1, a_1_2, a_1_3⟩ := id g_1
  obtain ⟨a_2_0, a_2_1, a_2_2, a_2_3, a_2_4, a_2_5, a_2_6, a_2_7, a_2_8, a_2_9, a_2_10, a_2_11, a_2_12, a_2_13, a_2_14, a_2_15, a_2_16, a_2_17⟩ := id g_2
  obtain ⟨a_3_0, a_3_1, a_3_2, a_3_3, a_3_4, a_3_5, a_3_6, a_3_7, a_3_8, a_3_9, a_3_10, a_3_11, a_3_12, a_3_13, a_3_14, a_3_15, a_3_16, a_3_17⟩ := id g_3
  obtain ⟨a_4_0, a_4_1, a_4_2, a_4_3, a_4_4, a_4_5, a_4_6, a_4_7, a_4_8, a_4_9, a_4_10, a_4_11, a_4_12, a_4_13, a_4_14, a_4_15, a_4_16, a_4_17⟩ := id g_4
  obtain ⟨a_5_0, a_5_1, a_5_2, a_5_3, a_5_4, a_5_5, a_5_6, a_5_7, a_5_8, a_5_9, a_5_10, a_5_11, a_5_12, a_5_13, a_5_14, a_5_15, a_5_16, a_5_17⟩ := id g_5
  refine wp_cu63 (sf_X8_wished (Nat.le_refl 700) a_0_0 a_0_1 a_0_2 a_0_3 a_0_4 a_0_5 a_0_6 a_0_7 a_0_8 a_0_9 a_0_10 a_0_11 a_0_12 a_0_13 a_0_16 a_0_17 a_1_0 a_1_1 a_1_2 a_1_3 a_2_0 a_2_1 a_2_2 a_2_3 a_2_4 a_2_5 a_2_6 a_2_7 a_2_8 a_2_9 a_2_10 a_2_11 a_2_12 a_2_13 a_2_16 a_2_17 a_3_0 a_3_1 a_3_2 a_3_3 a_3_4 a_3_5 a_3_6 a_3_7 a_3_8 a_3_9 a_3_10 a_3_11 a_3_12 a_3_13 a_3_15 a_3_16 a_3_17 a_4_0 a_4_1 a_4_2 a_4_3 a_4_4 a_4_5 a_4_6 a_4_7 a_4_8 a_4_9 a_4_10 a_4_11 a_4_12 a_4_13 a_4_15 a_4_16 a_4_17 a_5_0 a_5_1 a_5_2 a_5_3 a_5_4 a_5_5 a_5_6 a_5_7 a_5_8 a_5_9 a_5_10 a_5_11 a_5_12 a_5_13 a_5_15 a_5_16 a_5_17) (fun r wv_search_found wv_search_wrong wv_search_more wv_search_folds wv_search_wanted wv_search_levels0_rows wv_search_levels0_cols wv_search_levels0_high wv_search_levels0_wide wv_search_levels0_folds wv_search_levels0_wrong wv_search_levels0_more wv_search_levels0_rowOf wv_search_levels0_colOf wv_search_levels0_below wv_search_levels0_face wv_search_levels0_worn wv_search_levels0_last wv_search_levels1_rows wv_search_levels1_cols wv_search_levels1_high wv_search_levels1_wide wv_search_levels1_folds wv_search_levels1_wrong wv_search_levels1_more wv_search_levels1_rowOf wv_search_levels1_colOf wv_search_levels1_below wv_search_levels1_face wv_search_levels1_worn wv_search_levels1_last wv_search_levels1_tall wv_search_levels2_rows wv_search_levels2_cols wv_search_levels2_high wv_search_levels2_wide wv_search_levels2_folds wv_search_levels2_wrong wv_search_levels2_more wv_search_levels2_rowOf wv_search_levels2_colOf wv_search_levels2_below wv_search_levels2_face wv_search_levels2_worn wv_search_levels2_last wv_search_levels2_tall wv_search_levels3_rows wv_search_levels3_cols wv_search_levels3_high wv_search_levels3_wide wv_search_levels3_folds wv_search_levels3_wrong wv_search_levels3_more wv_search_levels3_rowOf wv_search_levels3_colOf wv_search_levels3_below wv_search_levels3_face wv_search_levels3_worn wv_search_levels3_last wv_search_levels3_tall wv_search_path wv_search_best ⟨q_0, q_1, q_2, q_3, q_4, q_5, q_6, q_7, q_8, q_9, q_10, q_11, q_12, q_13, q_14, q_15, q_16, q_17, q_18, q_19, q_20, q_21, q_22, q_23, q_24, q_25, q_26, q_27, q_28, q_29, q_30, q_31, q_32, q_33, q_34, q_35, q_36, q_37, q_38, q_39, q_40, q_41, q_42, q_43, q_44, q_45, q_46, q_47, q_48, q_49, q_50, q_51, q_52, q_53, q_54, q_55, q_56, q_57, q_58, q_59, q_60, q_61, q_62, q_63, q_64, q_65, q_66, q_67, q_68, q_69, q_70⟩ => ?_)
  exact ⟨⟨q_0, q_1, q_2, q_3⟩, ⟨q_4, q_5, q_6, q_7, q_8, q_9, q_10, q_11, q_12, q_13, q_14, q_15, q_16, q_17, a_2_14, a_2_15, q_18, q_19⟩, ⟨q_20, q_21, q_22, q_23, q_24, q_25, q_26, q_27, q_28, q_29, q_30, q_31, q_32, q_33, a_3_14, q_34, q_35, q_36⟩, ⟨q_37, q_38, q_39, q_40, q_41, q_42, q_43, q_44, q_45, q_46, q_47, q_48, q_49, q_50, a_4_14, q_51, q_52, q_53⟩, ⟨q_54, q_55, q_56, q_57, q_58, q_59, q_60, q_61, q_62, q_63, q_64, q_65, q_66, q_67, a_5_14, q_68, q_69, q_70⟩⟩
set_option maxHeartbeats 4000000 in
set_option maxRecDepth 20000 in
theorem st8_right {x1 : Int32} {v_now_rows : Int32} {v_now_cols : Int32} {v_now_high : Int32} {v_now_wide : Int32} {v_now_folds : Int32} {v_now_wrong : Int32} {v_now_more : Int32} {v_now_rowOf : List Int32} {v_now_colOf : List Int32} {v_now_below : List Int32} {v_now_face : List Int32} {v_now_worn : List Int32} {v_now_last : List Int32} {v_wearing_stepCount : Int32} {v_wearing_stacked : Int32} {v_wearing_steps : List Int32} {v_wearing_stack : List Int32} {v_search_found : Bool} {v_search_wrong : Int32} {v_search_more : Int32} {v_search_folds : Int32} {v_search_wanted : Int32} {v_search_levels0_rows : Int32} {v_search_levels0_cols : Int32} {v_search_levels0_high : Int32} {v_search_levels0_wide : Int32} {v_search_levels0_folds : Int32} {v_search_levels0_wrong : Int32} {v_search_levels0_more : Int32} {v_search_levels0_rowOf : List Int32} {v_search_levels0_colOf : List Int32} {v_search_levels0_below : List Int32} {v_search_levels0_face : List Int32} {v_search_levels0_worn : List Int32} {v_search_levels0_last : List Int32} {v_search_levels1_rows : Int32} {v_search_levels1_cols : Int32} {v_search_levels1_high : Int32} {v_search_levels1_wide : Int32} {v_search_levels1_folds : Int32} {v_search_levels1_wrong : Int32} {v_search_levels1_more : Int32} {v_search_levels1_rowOf : List Int32} {v_search_levels1_colOf : List Int32} {v_search_levels1_below : List Int32} {v_search_levels1_face : List Int32} {v_search_levels1_worn : List Int32} {v_search_levels1_last : List Int32} {v_search_levels1_bend : List Int32} {v_search_levels1_tall : List Int32} {v_search_levels2_rows : Int32} {v_search_levels2_cols : Int32} {v_search_levels2_high : Int32} {v_search_levels2_wide : Int32} {v_search_levels2_folds : Int32} {v_search_levels2_wrong : Int32} {v_search_levels2_more : Int32} {v_search_levels2_rowOf : List Int32} {v_search_levels2_colOf : List Int32} {v_search_levels2_below : List Int32} {v_search_levels2_face : List Int32} {v_search_levels2_worn : List Int32} {v_search_levels2_last : List Int32} {v_search_levels2_bend : List Int32} {v_search_levels2_tall : List Int32} {v_search_levels3_rows : Int32} {v_search_levels3_cols : Int32} {v_search_levels3_high : Int32} {v_search_levels3_wide : Int32} {v_search_levels3_folds : Int32} {v_search_levels3_wrong : Int32} {v_search_levels3_more : Int32} {v_search_levels3_rowOf : List Int32} {v_search_levels3_colOf : List Int32} {v_search_levels3_below : List Int32} {v_search_levels3_face : List Int32} {v_search_levels3_worn : List Int32} {v_search_levels3_last : List Int32} {v_search_levels3_bend : List Int32} {v_search_levels3_tall : List Int32} {v_search_path : List Int32} {v_search_best : List Int32} {v_changes_value : Int32} {v_now_bend : List Int32} {v_now_tall : List Int32} {v_wearing_size : Int32} {v_wearing_draftCount : Int32} {v_wearing_tape : List Int32} {v_wearing_draft : List Int32} {v_search_levels0_bend : List Int32} {v_search_levels0_tall : List Int32} (g_0 : gi_sh v_now_rows v_now_cols v_now_high v_now_wide v_now_rowOf v_now_colOf v_now_below v_now_face v_now_worn v_now_last v_now_bend v_now_tall) (g_1 : gi_la v_wearing_size v_wearing_stepCount v_wearing_draftCount v_wearing_tape v_wearing_steps v_wearing_draft v_wearing_stack) (g_2 : gi_se v_search_folds v_search_path v_search_best) (g_3 : gi_sh v_search_levels0_rows v_search_levels0_cols v_search_levels0_high v_search_levels0_wide v_search_levels0_rowOf v_search_levels0_colOf v_search_levels0_below v_search_levels0_face v_search_levels0_worn v_search_levels0_last v_search_levels0_bend v_search_levels0_tall) (g_4 : gi_sh v_search_levels1_rows v_search_levels1_cols v_search_levels1_high v_search_levels1_wide v_search_levels1_rowOf v_search_levels1_colOf v_search_levels1_below v_search_levels1_face v_search_levels1_worn v_search_levels1_last v_search_levels1_bend v_search_levels1_tall) (g_5 : gi_sh v_search_levels2_rows v_search_levels2_cols v_search_levels2_high v_search_levels2_wide v_search_levels2_rowOf v_search_levels2_colOf v_search_levels2_below v_search_levels2_face v_search_levels2_worn v_search_levels2_last v_search_levels2_bend v_search_levels2_tall) (g_6 : gi_sh v_search_levels3_rows v_search_levels3_cols v_search_levels3_high v_search_levels3_wide v_search_levels3_rowOf v_search_levels3_colOf v_search_levels3_below v_search_levels3_face v_search_levels3_worn v_search_levels3_last v_search_levels3_bend v_search_levels3_tall) : wp (fX8_right 700 x1 v_now_rows v_now_cols v_now_high v_now_wide v_now_folds v_now_wrong v_now_more v_now_rowOf v_now_colOf v_now_below v_now_face v_now_worn v_now_last v_wearing_stepCount v_wearing_stacked v_wearing_steps v_wearing_stack v_search_found v_search_wrong v_search_more v_search_folds v_search_wanted v_search_levels0_rows v_search_levels0_cols v_search_levels0_high v_search_levels0_wide v_search_levels0_folds v_search_levels0_wrong v_search_levels0_more v_search_levels0_rowOf v_search_levels0_colOf v_search_levels0_below v_search_levels0_face v_search_levels0_worn v_search_levels0_last v_search_levels1_rows v_search_levels1_cols v_search_levels1_high v_search_levels1_wide v_search_levels1_folds v_search_levels1_wrong v_search_levels1_more v_search_levels1_rowOf v_search_levels1_colOf v_search_levels1_below v_search_levels1_face v_search_levels1_worn v_search_levels1_last v_search_levels1_bend v_search_levels1_tall v_search_levels2_rows v_search_levels2_cols v_search_levels2_high v_search_levels2_wide v_search_levels2_folds v_search_levels2_wrong v_search_levels2_more v_search_levels2_rowOf v_search_levels2_colOf v_search_levels2_below v_search_levels2_face v_search_levels2_worn v_search_levels2_last v_search_levels2_bend v_search_levels2_tall v_search_levels3_rows v_search_levels3_cols v_search_levels3_high v_search_levels3_wide v_search_levels3_folds v_search_levels3_wrong v_search_levels3_more v_search_levels3_rowOf v_search_levels3_colOf v_search_levels3_below v_search_levels3_face v_search_levels3_worn v_search_levels3_last v_search_levels3_bend v_search_levels3_tall v_search_path v_search_best v_changes_value) (cu68 (fun (r : Int32) (wv_wearing_stacked : Int32) (wv_wearing_stack : List Int32) (wv_search_found : Bool) (wv_search_wrong : Int32) (wv_search_more : Int32) (wv_search_folds : Int32) (wv_search_wanted : Int32) (wv_search_levels0_rows : Int32) (wv_search_levels0_cols : Int32) (wv_search_levels0_high : Int32) (wv_search_levels0_wide : Int32) (wv_search_levels0_folds : Int32) (wv_search_levels0_wrong : Int32) (wv_search_levels0_more : Int32) (wv_search_levels0_rowOf : List Int32) (wv_search_levels0_colOf : List Int32) (wv_search_levels0_below : List Int32) (wv_search_levels0_face : List Int32) (wv_search_levels0_worn : List Int32) (wv_search_levels0_last : List Int32) (wv_search_levels1_rows : Int32) (wv_search_levels1_cols : Int32) (wv_search_levels1_high : Int32) (wv_search_levels1_wide : Int32) (wv_search_levels1_folds : Int32) (wv_search_levels1_wrong : Int32) (wv_search_levels1_more : Int32) (wv_search_levels1_rowOf : List Int32) (wv_search_levels1_colOf : List Int32) (wv_search_levels1_below : List Int32) (wv_search_levels1_face : List Int32) (wv_search_levels1_worn : List Int32) (wv_search_levels1_last : List Int32) (wv_search_levels1_bend : List Int32) (wv_search_levels1_tall : List Int32) (wv_search_levels2_rows : Int32) (wv_search_levels2_cols : Int32) (wv_search_levels2_high : Int32) (wv_search_levels2_wide : Int32) (wv_search_levels2_folds : Int32) (wv_search_levels2_wrong : Int32) (wv_search_levels2_more : Int32) (wv_search_levels2_rowOf : List Int32) (wv_search_levels2_colOf : List Int32) (wv_search_levels2_below : List Int32) (wv_search_levels2_face : List Int32) (wv_search_levels2_worn : List Int32) (wv_search_levels2_last : List Int32) (wv_search_levels2_bend : List Int32) (wv_search_levels2_tall : List Int32) (wv_search_levels3_rows : Int32) (wv_search_levels3_cols : Int32) (wv_search_levels3_high : Int32) (wv_search_levels3_wide : Int32) (wv_search_levels3_folds : Int32) (wv_search_levels3_wrong : Int32) (wv_search_levels3_more : Int32) (wv_search_levels3_rowOf : List Int32) (wv_search_levels3_colOf : List Int32) (wv_search_levels3_below : List Int32) (wv_search_levels3_face : List Int32) (wv_search_levels3_worn : List Int32) (wv_search_levels3_last : List Int32) (wv_search_levels3_bend : List Int32) (wv_search_levels3_tall : List Int32) (wv_search_path : List Int32) (wv_search_best : List Int32) => gi_la v_wearing_size v_wearing_stepCount v_wearing_draftCount v_wearing_tape v_wearing_steps v_wearing_draft wv_wearing_stack ∧ gi_se wv_search_folds wv_search_path wv_search_best ∧ gi_sh wv_search_levels0_rows wv_search_levels0_cols wv_search_levels0_high wv_search_levels0_wide wv_search_levels0_rowOf wv_search_levels0_colOf wv_search_levels0_below wv_search_levels0_face wv_search_levels0_worn wv_search_levels0_last v_search_levels0_bend v_search_levels0_tall ∧ gi_sh wv_search_levels1_rows wv_search_levels1_cols wv_search_levels1_high wv_search_levels1_wide wv_search_levels1_rowOf wv_search_levels1_colOf wv_search_levels1_below wv_search_levels1_face wv_search_levels1_worn wv_search_levels1_last wv_search_levels1_bend wv_search_levels1_tall ∧ gi_sh wv_search_levels2_rows wv_search_levels2_cols wv_search_levels2_high wv_search_levels2_wide wv_search_levels2_rowOf wv_search_levels2_colOf wv_search_levels2_below wv_search_levels2_face wv_search_levels2_worn wv_search_levels2_last wv_search_levels2_bend wv_search_levels2_tall ∧ gi_sh wv_search_levels3_rows wv_search_levels3_cols wv_search_levels3_high wv_search_levels3_wide wv_search_levels3_rowOf wv_search_levels3_colOf wv_search_levels3_below wv_search_levels3_face wv_search_levels3_worn wv_search_levels3_last wv_search_levels3_bend wv_search_levels3_tall)) := by
  obtain ⟨a_0_0, a_0_1, a_0_2, a_0_3, a_0_4, a_0_5, a_0_6, a_0_7, a_0_8, a_0_9, a_0_10, a_0_11, a_0_12, a_0_13, a_0_14, a_0_15, a_0_16, a_0_17⟩ := id g_0
  obtain ⟨a_1_0, a_1_1, a_1_2, a_1_3, a_1_4, a_1_5, a_1_6, a_1_7, a_1_8, a_1_9⟩ := id g_1
  obtain ⟨a_2_0, a_2_1, a_2_2, a_2_3⟩ := id g_2
  obtain ⟨a_3_0, a_3_1, a_3_2, a_3_3, a_3_4, a_3_5, a_3_6, a_3_7, a_3_8, a_3_9, a_3_10, a_3_11, a_3_12, a_3_13, a_3_14, a_3_15, a_3_16, a_3_17⟩ := id g_3
  obtain ⟨a_4_0, a_4_1, a_4_2, a_4_3, a_4_4, a_4_5, a_4_6, a_4_7, a_4_8, a_4_9, a_4_10, a_4_11, a_4_12, a_4_13, a_4_14, a_4_15, a_4_16, a_4_17⟩ := id g_4
  obtain ⟨a_5_0, a_5_1, a_5_2, a_5_3, a_5_4, a_5_5, a_5_6, a_5_7, a_5_8, a_5_9, a_5_10, a_5_11, a_5_12, a_5_13, a_5_14, a_5_15, a_5_16, a_5_17⟩ := id g_5
  obtain ⟨a_6_0, a_6_1, a_6_2, a_6_3, a_6_4, a_6_5, a_6_6, a_6_7, a_6_8, a_6_9, a_6_10, a_6_11, a_6_12, a_6_13, a_6_14, a_6_15, a_6_16, a_6_17⟩ := id g_6
  refine wp_cu68 (sf_X8_right (Nat.le_refl 700) a_0_0 a_0_1 a_0_2 a_0_3 a_0_4 a_0_5 a_0_6 a_0_7 a_0_8 a_0_9 a_0_10 a_0_11 a_0_12 a_0_13 a_0_16 a_0_17 a_1_2 a_1_3 a_1_7 a_1_9 a_2_0 a_2_1 a_2_2 a_2_3 a_3_0 a_3_1 a_3_2 a_3_3 a_3_4 a_3_5 a_3_6 a_3_7 a_3_8 a_3_9 a_3_10 a_3_11 a_3_12 a_3_13 a_3_16 a_3_17 a_4_0 a_4_1 a_4_2 a_4_3 a_4_4 a_4_5 a_4_6 a_4_7 a_4_8 a_4_9 a_4_10 a_4_11 a_4_12 a_4_13 a_4_14 a_4_15 a_4_16 a_4_17 a_5_0 a_5_1 a_5_2 a_5_3 a_5_4 a_5_5 a_5_6 a_5_7 a_5_8 a_5_9 a_5_10 a_5_11 a_5_12 a_5_13 a_5_14 a_5_15 a_5_16 a_5_17 a_6_0 a_6_1 a_6_2 a_6_3 a_6_4 a_6_5 a_6_6 a_6_7 a_6_8 a_6_9 a_6_10 a_6_11 a_6_12 a_6_13 a_6_14 a_6_15 a_6_16 a_6_17) (fun r wv_wearing_stacked wv_wearing_stack wv_search_found wv_search_wrong wv_search_more wv_search_folds wv_search_wanted wv_search_levels0_rows wv_search_levels0_cols wv_search_levels0_high wv_search_levels0_wide wv_search_levels0_folds wv_search_levels0_wrong wv_search_levels0_more wv_search_levels0_rowOf wv_search_levels0_colOf wv_search_levels0_below wv_search_levels0_face wv_search_levels0_worn wv_search_levels0_last wv_search_levels1_rows wv_search_levels1_cols wv_search_levels1_high wv_search_levels1_wide wv_search_levels1_folds wv_search_levels1_wrong wv_search_levels1_more wv_search_levels1_rowOf wv_search_levels1_colOf wv_search_levels1_below wv_search_levels1_face wv_search_levels1_worn wv_search_levels1_last wv_search_levels1_bend wv_search_levels1_tall wv_search_levels2_rows wv_search_levels2_cols wv_search_levels2_high wv_search_levels2_wide wv_search_levels2_folds wv_search_levels2_wrong wv_search_levels2_more wv_search_levels2_rowOf wv_search_levels2_colOf wv_search_levels2_below wv_search_levels2_face wv_search_levels2_worn wv_search_levels2_last wv_search_levels2_bend wv_search_levels2_tall wv_search_levels3_rows wv_search_levels3_cols wv_search_levels3_high wv_search_levels3_wide wv_search_levels3_folds wv_search_levels3_wrong wv_search_levels3_more wv_search_levels3_rowOf wv_search_levels3_colOf wv_search_levels3_below wv_search_levels3_face wv_search_levels3_worn wv_search_levels3_last wv_search_levels3_bend wv_search_levels3_tall wv_search_path wv_search_best ⟨q_0, q_1, q_2, q_3, q_4, q_5, q_6, q_7, q_8, q_9, q_10, q_11, q_12, q_13, q_14, q_15, q_16, q_17, q_18, q_19, q_20, q_21, q_22, q_23, q_24, q_25, q_26, q_27, q_28, q_29, q_30, q_31, q_32, q_33, q_34, q_35, q_36, q_37, q_38, q_39, q_40, q_41, q_42, q_43, q_44, q_45, q_46, q_47, q_48, q_49, q_50, q_51, q_52, q_53, q_54, q_55, q_56, q_57, q_58, q_59, q_60, q_61, q_62, q_63, q_64, q_65, q_66, q_67, q_68, q_69, q_70, q_71, q_72, q_73, q_74⟩ => ?_)
  exact ⟨⟨a_1_0, a_1_1, a_1_2, a_1_3, a_1_4, a_1_5, a_1_6, a_1_7, a_1_8, q_0⟩, ⟨q_1, q_2, q_3, q_4⟩, ⟨q_5, q_6, q_7, q_8, q_9, q_10, q_11, q_12, q_13, q_14, q_15, q_16, q_17, q_18, a_3_14, a_3_15, q_19, q_20⟩, ⟨q_21, q_22, q_23, q_24, q_25, q_26, q_27, q_28, q_29, q_30, q_31, q_32, q_33, q_34, q_35, q_36, q_37, q_38⟩, ⟨q_39, q_40, q_41, q_42, q_43, q_44, q_45, q_46, q_47, q_48, q_49, q_50, q_51, q_52, q_53, q_54, q_55, q_56⟩, ⟨q_57, q_58, q_59, q_60, q_61, q_62, q_63, q_64, q_65, q_66, q_67, q_68, q_69, q_70, q_71, q_72, q_73, q_74⟩⟩
set_option maxHeartbeats 4000000 in
set_option maxRecDepth 20000 in
theorem st8_wind {x1 : Int32} {x2 : Int32} {x3 : Int32} {v_now_rows : Int32} {v_now_cols : Int32} {v_now_high : Int32} {v_now_wide : Int32} {v_now_folds : Int32} {v_now_wrong : Int32} {v_now_more : Int32} {v_now_rowOf : List Int32} {v_now_colOf : List Int32} {v_now_below : List Int32} {v_now_face : List Int32} {v_now_worn : List Int32} {v_now_last : List Int32} {v_wearing_stepCount : Int32} {v_wearing_stacked : Int32} {v_wearing_steps : List Int32} {v_wearing_stack : List Int32} {v_planned_size : Int32} {v_planned_trial_rows : Int32} {v_planned_trial_cols : Int32} {v_planned_trial_high : Int32} {v_planned_trial_wide : Int32} {v_planned_trial_folds : Int32} {v_planned_trial_wrong : Int32} {v_planned_trial_more : Int32} {v_planned_trial_rowOf : List Int32} {v_planned_trial_colOf : List Int32} {v_planned_trial_below : List Int32} {v_planned_trial_face : List Int32} {v_planned_trial_worn : List Int32} {v_planned_trial_last : List Int32} {v_planned_trial_bend : List Int32} {v_planned_trial_tall : List Int32} {v_planned_lines : List Int32} {v_planned_ways : List Int32} {v_changes_value : Int32} {v_now_bend : List Int32} {v_now_tall : List Int32} {v_wearing_size : Int32} {v_wearing_draftCount : Int32} {v_wearing_tape : List Int32} {v_wearing_draft : List Int32} (g_0 : gi_sh v_now_rows v_now_cols v_now_high v_now_wide v_now_rowOf v_now_colOf v_now_below v_now_face v_now_worn v_now_last v_now_bend v_now_tall) (g_1 : gi_la v_wearing_size v_wearing_stepCount v_wearing_draftCount v_wearing_tape v_wearing_steps v_wearing_draft v_wearing_stack) (g_2 : gi_pl v_planned_size v_planned_lines v_planned_ways) (g_3 : gi_sh v_planned_trial_rows v_planned_trial_cols v_planned_trial_high v_planned_trial_wide v_planned_trial_rowOf v_planned_trial_colOf v_planned_trial_below v_planned_trial_face v_planned_trial_worn v_planned_trial_last v_planned_trial_bend v_planned_trial_tall) : wp (fX8_wind 700 x1 x2 x3 v_now_rows v_now_cols v_now_high v_now_wide v_now_folds v_now_wrong v_now_more v_now_rowOf v_now_colOf v_now_below v_now_face v_now_worn v_now_last v_wearing_stepCount v_wearing_stacked v_wearing_steps v_wearing_stack v_planned_size v_planned_trial_rows v_planned_trial_cols v_planned_trial_high v_planned_trial_wide v_planned_trial_folds v_planned_trial_wrong v_planned_trial_more v_planned_trial_rowOf v_planned_trial_colOf v_planned_trial_below v_planned_trial_face v_planned_trial_worn v_planned_trial_last v_planned_trial_bend v_planned_trial_tall v_planned_lines v_planned_ways v_changes_value) (cu18 (fun (r : Int32) (wv_wearing_stacked : Int32) (wv_wearing_stack : List Int32) (wv_planned_trial_rows : Int32) (wv_planned_trial_cols : Int32) (wv_planned_trial_high : Int32) (wv_planned_trial_wide : Int32) (wv_planned_trial_folds : Int32) (wv_planned_trial_wrong : Int32) (wv_planned_trial_more : Int32) (wv_planned_trial_rowOf : List Int32) (wv_planned_trial_colOf : List Int32) (wv_planned_trial_below : List Int32) (wv_planned_trial_face : List Int32) (wv_planned_trial_worn : List Int32) (wv_planned_trial_last : List Int32) (wv_planned_trial_bend : List Int32) (wv_planned_trial_tall : List Int32) => gi_la v_wearing_size v_wearing_stepCount v_wearing_draftCount v_wearing_tape v_wearing_steps v_wearing_draft wv_wearing_stack ∧ gi_sh wv_planned_trial_rows wv_planned_trial_cols wv_planned_trial_high wv_planned_trial_wide wv_planned_trial_rowOf wv_planned_trial_colOf wv_planned_trial_below wv_planned_trial_face wv_planned_trial_worn wv_planned_trial_last wv_planned_trial_bend wv_planned_trial_tall)) := by
  obtain ⟨a_0_0, a_0_1, a_0_2, a_0_3, a_0_4, a_0_5, a_0_6, a_0_7, a_0_8, a_0_9, a_0_10, a_0_11, a_0_12, a_0_13, a_0_14, a_0_15, a_0_16, a_0_17⟩ := id g_0
  obtain ⟨a_1_0, a_1_1, a_1_2, a_1_3, a_1_4, a_1_5, a_1_6, a_1_7, a_1_8, a_1_9⟩ := id g_1
  obtain ⟨a_2_0, a_2_1, a_2_2, a_2_3⟩ := id g_2
  obtain ⟨a_3_0, a_3_1, a_3_2, a_3_3, a_3_4, a_3_5, a_3_6, a_3_7, a_3_8, a_3_9, a_3_10, a_3_11, a_3_12, a_3_13, a_3_14, a_3_15, a_3_16, a_3_17⟩ := id g_3
  refine wp_cu18 (sf_X8_wind (Nat.le_refl 700) a_0_0 a_0_1 a_0_2 a_0_3 a_0_4 a_0_5 a_0_6 a_0_7 a_0_8 a_0_9 a_0_10 a_0_11 a_0_12 a_0_13 a_0_16 a_0_17 a_1_2 a_1_3 a_1_7 a_1_9 a_2_0 a_2_1 a_2_2 a_2_3 a_3_0 a_3_1 a_3_2 a_3_3 a_3_4 a_3_5 a_3_6 a_3_7 a_3_8 a_3_9 a_3_10 a_3_11 a_3_12 a_3_13 a_3_14 a_3_15 a_3_16 a_3_17) (fun r wv_wearing_stacked wv_wearing_stack wv_planned_trial_rows wv_planned_trial_cols wv_planned_trial_high wv_planned_trial_wide wv_planned_trial_folds wv_planned_trial_wrong wv_planned_trial_more wv_planned_trial_rowOf wv_planned_trial_colOf wv_planned_trial_below wv_planned_trial_face wv_planned_trial_worn wv_planned_trial_last wv_planned_trial_bend wv_planned_trial_tall ⟨q_0, q_1, q_2, q_3, q_4, q_5, q_6, q_7, q_8, q_9, q_10, q_11, q_12, q_13, q_14, q_15, q_16, q_17, q_18⟩ => ?_)
  exact ⟨⟨a_1_0, a_1_1, a_1_2, a_1_3, a_1_4, a_1_5, a_1_6, a_1_7, a_1_8, q_0⟩, ⟨q_1, q_2, q_3, q_4, q_5, q_6, q_7, q_8, q_9, q_10, q_11, q_12, q_13, q_14, q_15, q_16, q_17, q_18⟩⟩
set_option maxHeartbeats 4000000 in
set_option maxRecDepth 20000 in
theorem st8_crosses {x1 : Int32} {x2 : Int32} {v_strip_at : List Int32} {v_strip_list : List Int32} {v_strip_found : List Int32} (g_0 : gi_st v_strip_at v_strip_list v_strip_found) : wp (fX8_crosses 700 x1 x2 v_strip_at) (cu2 (fun (r : Int32) (wv_strip_at : List Int32) => gi_st wv_strip_at v_strip_list v_strip_found)) := by
  obtain ⟨a_0_0, a_0_1, a_0_2, a_0_3⟩ := id g_0
  refine wp_cu2 (sf_X8_crosses (Nat.le_refl 700) a_0_0) (fun r wv_strip_at q_0 => ?_)
  exact ⟨q_0, a_0_1, a_0_2, a_0_3⟩
set_option maxHeartbeats 4000000 in
set_option maxRecDepth 20000 in
theorem st8_orders {x1 : Int32} {x2 : Int32} {v_strip_list : List Int32} {v_strip_found : List Int32} {v_strip_at : List Int32} (g_0 : gi_st v_strip_at v_strip_list v_strip_found) : wp (fX8_orders 700 x1 x2 v_strip_list v_strip_found v_strip_at) (cu4 (fun (r : Int32) (wv_strip_list : List Int32) (wv_strip_found : List Int32) (wv_strip_at : List Int32) => gi_st wv_strip_at wv_strip_list wv_strip_found)) := by
  obtain ⟨a_0_0, a_0_1, a_0_2, a_0_3⟩ := id g_0
  refine wp_cu4 (sf_X8_orders (Nat.le_refl 700) a_0_1 a_0_2 a_0_0 a_0_3) (fun r wv_strip_list wv_strip_found wv_strip_at ⟨q_0, q_1, q_2, q_3⟩ => ?_)
  exact ⟨q_2, q_0, q_1, q_3⟩
set_option maxHeartbeats 4000000 in
set_option maxRecDepth 20000 in
theorem st8_bends {x1 : Int32} {x2 : Int32} {v_strip_at : List Int32} {v_strip_list : List Int32} {v_strip_found : List Int32} (g_0 : gi_st v_strip_at v_strip_list v_strip_found) : wp (fX8_bends 700 x1 x2 v_strip_at) (cu2 (fun (r : Int32) (wv_strip_at : List Int32) => gi_st wv_strip_at v_strip_list v_strip_found)) := by
  obtain ⟨a_0_0, a_0_1, a_0_2, a_0_3⟩ := id g_0
  refine wp_cu2 (sf_X8_bends (Nat.le_refl 700) a_0_0) (fun r wv_strip_at q_0 => ?_)
  exact ⟨q_0, a_0_1, a_0_2, a_0_3⟩
set_option maxHeartbeats 4000000 in
set_option maxRecDepth 20000 in
theorem st8_by {x1 : Int32} {x2 : Int32} {x3 : Int32} {v_strip_list : List Int32} {v_strip_found : List Int32} {v_strip_at : List Int32} (g_0 : gi_st v_strip_at v_strip_list v_strip_found) : wp (fX8_by 700 x1 x2 x3 v_strip_list v_strip_found v_strip_at) (cu4 (fun (r : Int32) (wv_strip_list : List Int32) (wv_strip_found : List Int32) (wv_strip_at : List Int32) => gi_st wv_strip_at wv_strip_list wv_strip_found)) := by
  obtain ⟨a_0_0, a_0_1, a_0_2, a_0_3⟩ := id g_0
  refine wp_cu4 (sf_X8_by (Nat.le_refl 700) a_0_1 a_0_2 a_0_0 a_0_3) (fun r wv_strip_list wv_strip_found wv_strip_at ⟨q_0, q_1, q_2, q_3⟩ => ?_)
  exact ⟨q_2, q_0, q_1, q_3⟩
set_option maxHeartbeats 4000000 in
set_option maxRecDepth 20000 in
theorem st8_with {x1 : Int32} {x2 : Int32} {v_strip_list : List Int32} {v_strip_found : List Int32} {v_strip_at : List Int32} (g_0 : gi_st v_strip_at v_strip_list v_strip_found) : wp (fX8_with 700 x1 x2 v_strip_list v_strip_found v_strip_at) (cu4 (fun (r : Int32) (wv_strip_list : List Int32) (wv_strip_found : List Int32) (wv_strip_at : List Int32) => gi_st wv_strip_at wv_strip_list wv_strip_found)) := by
  obtain ⟨a_0_0, a_0_1, a_0_2, a_0_3⟩ := id g_0
  refine wp_cu4 (sf_X8_with (Nat.le_refl 700) a_0_1 a_0_2 a_0_0 a_0_3) (fun r wv_strip_list wv_strip_found wv_strip_at ⟨q_0, q_1, q_2, q_3⟩ => ?_)
  exact ⟨q_2, q_0, q_1, q_3⟩
set_option maxHeartbeats 4000000 in
set_option maxRecDepth 20000 in
theorem st8_image {v_hasImage : Bool} {v_now_rows : Int32} {v_now_cols : Int32} {v_now_high : Int32} {v_now_wide : Int32} {v_now_folds : Int32} {v_now_wrong : Int32} {v_now_more : Int32} {v_now_rowOf : List Int32} {v_now_colOf : List Int32} {v_now_below : List Int32} {v_now_face : List Int32} {v_now_worn : List Int32} {v_now_last : List Int32} {v_kept_rows : Int32} {v_kept_cols : Int32} {v_kept_high : Int32} {v_kept_wide : Int32} {v_kept_folds : Int32} {v_kept_wrong : Int32} {v_kept_more : Int32} {v_kept_rowOf : List Int32} {v_kept_colOf : List Int32} {v_kept_below : List Int32} {v_kept_face : List Int32} {v_kept_worn : List Int32} {v_kept_last : List Int32} {v_now_bend : List Int32} {v_now_tall : List Int32} {v_kept_bend : List Int32} {v_kept_tall : List Int32} (g_0 : gi_sh v_now_rows v_now_cols v_now_high v_now_wide v_now_rowOf v_now_colOf v_now_below v_now_face v_now_worn v_now_last v_now_bend v_now_tall) (g_1 : gi_sh v_kept_rows v_kept_cols v_kept_high v_kept_wide v_kept_rowOf v_kept_colOf v_kept_below v_kept_face v_kept_worn v_kept_last v_kept_bend v_kept_tall) : wp (fX8_image 700 v_hasImage v_now_rows v_now_cols v_now_high v_now_wide v_now_folds v_now_wrong v_now_more v_now_rowOf v_now_colOf v_now_below v_now_face v_now_worn v_now_last v_kept_rows v_kept_cols v_kept_high v_kept_wide v_kept_folds v_kept_wrong v_kept_more v_kept_rowOf v_kept_colOf v_kept_below v_kept_face v_kept_worn v_kept_last) (cu15 (fun (r : Int32) (wv_hasImage : Bool) (wv_kept_rows : Int32) (wv_kept_cols : Int32) (wv_kept_high : Int32) (wv_kept_wide : Int32) (wv_kept_folds : Int32) (wv_kept_wrong : Int32) (wv_kept_more : Int32) (wv_kept_rowOf : List Int32) (wv_kept_colOf : List Int32) (wv_kept_below : List Int32) (wv_kept_face : List Int32) (wv_kept_worn : List Int32) (wv_kept_last : List Int32) => gi_sh wv_kept_rows wv_kept_cols wv_kept_high wv_kept_wide wv_kept_rowOf wv_kept_colOf wv_kept_below wv_kept_face wv_kept_worn wv_kept_last v_kept_bend v_kept_tall)) := by
  obtain ⟨a_0_0, a_0_1, a_0_2, a_0_3, a_0_4, a_0_5, a_0_6, a_0_7, a_0_8, a_0_9, a_0_10, a_0_11, a_0_12, a_0_13, a_0_14, a_0_15, a_0_16, a_0_17⟩ := id g_0
  obtain ⟨a_1_0, a_1_1, a_1_2, a_1_3, a_1_4, a_1_5, a_1_6, a_1_7, a_1_8, a_1_9, a_1_10, a_1_11, a_1_12, a_1_13, a_1_14, a_1_15, a_1_16, a_1_17⟩ := id g_1
  refine wp_cu15 (sf_X8_image (Nat.le_refl 700) a_0_0 a_0_1 a_0_2 a_0_3 a_0_4 a_0_5 a_0_6 a_0_7 a_0_8 a_0_9 a_0_10 a_0_11 a_0_12 a_0_13 a_0_16 a_0_17 a_1_0 a_1_1 a_1_2 a_1_3 a_1_4 a_1_5 a_1_6 a_1_7 a_1_8 a_1_9 a_1_10 a_1_11 a_1_12 a_1_13 a_1_16 a_1_17) (fun r wv_hasImage wv_kept_rows wv_kept_cols wv_kept_high wv_kept_wide wv_kept_folds wv_kept_wrong wv_kept_more wv_kept_rowOf wv_kept_colOf wv_kept_below wv_kept_face wv_kept_worn wv_kept_last ⟨q_0, q_1, q_2, q_3, q_4, q_5, q_6, q_7, q_8, q_9, q_10, q_11, q_12, q_13, q_14, q_15⟩ => ?_)
  exact ⟨q_0, q_1, q_2, q_3, q_4, q_5, q_6, q_7, q_8, q_9, q_10, q_11, q_12, q_13, a_1_14, a_1_15, q_14, q_15⟩
set_option maxHeartbeats 4000000 in
set_option maxRecDepth 20000 in
theorem st8_back {v_hasImage : Bool} {v_now_rows : Int32} {v_now_cols : Int32} {v_now_high : Int32} {v_now_wide : Int32} {v_now_folds : Int32} {v_now_wrong : Int32} {v_now_more : Int32} {v_now_rowOf : List Int32} {v_now_colOf : List Int32} {v_now_below : List Int32} {v_now_face : List Int32} {v_now_worn : List Int32} {v_now_last : List Int32} {v_kept_rows : Int32} {v_kept_cols : Int32} {v_kept_high : Int32} {v_kept_wide : Int32} {v_kept_folds : Int32} {v_kept_wrong : Int32} {v_kept_more : Int32} {v_kept_rowOf : List Int32} {v_kept_colOf : List Int32} {v_kept_below : List Int32} {v_kept_face : List Int32} {v_kept_worn : List Int32} {v_kept_last : List Int32} {v_now_bend : List Int32} {v_now_tall : List Int32} {v_kept_bend : List Int32} {v_kept_tall : List Int32} (g_0 : gi_sh v_now_rows v_now_cols v_now_high v_now_wide v_now_rowOf v_now_colOf v_now_below v_now_face v_now_worn v_now_last v_now_bend v_now_tall) (g_1 : gi_sh v_kept_rows v_kept_cols v_kept_high v_kept_wide v_kept_rowOf v_kept_colOf v_kept_below v_kept_face v_kept_worn v_kept_last v_kept_bend v_kept_tall) : wp (fX8_back 700 v_hasImage v_now_rows v_now_cols v_now_high v_now_wide v_now_folds v_now_wrong v_now_more v_now_rowOf v_now_colOf v_now_below v_now_face v_now_worn v_now_last v_kept_rows v_kept_cols v_kept_high v_kept_wide v_kept_folds v_kept_wrong v_kept_more v_kept_rowOf v_kept_colOf v_kept_below v_kept_face v_kept_worn v_kept_last) (cu14 (fun (r : Int32) (wv_now_rows : Int32) (wv_now_cols : Int32) (wv_now_high : Int32) (wv_now_wide : Int32) (wv_now_folds : Int32) (wv_now_wrong : Int32) (wv_now_more : Int32) (wv_now_rowOf : List Int32) (wv_now_colOf : List Int32) (wv_now_below : List Int32) (wv_now_face : List Int32) (wv_now_worn : List Int32) (wv_now_last : List Int32) => gi_sh wv_now_rows wv_now_cols wv_now_high wv_now_wide wv_now_rowOf wv_now_colOf wv_now_below wv_now_face wv_now_worn wv_now_last v_now_bend v_now_tall)) := by
  obtain ⟨a_0_0, a_0_1, a_0_2, a_0_3, a_0_4, a_0_5, a_0_6, a_0_7, a_0_8, a_0_9, a_0_10, a_0_11, a_0_12, a_0_13, a_0_14, a_0_15, a_0_16, a_0_17⟩ := id g_0
  obtain ⟨a_1_0, a_1_1, a_1_2, a_1_3, a_1_4, a_1_5, a_1_6, a_1_7, a_1_8, a_1_9, a_1_10, a_1_11, a_1_12, a_1_13, a_1_14, a_1_15, a_1_16, a_1_17⟩ := id g_1
  refine wp_cu14 (sf_X8_back (Nat.le_refl 700) a_0_0 a_0_1 a_0_2 a_0_3 a_0_4 a_0_5 a_0_6 a_0_7 a_0_8 a_0_9 a_0_10 a_0_11 a_0_12 a_0_13 a_0_16 a_0_17 a_1_0 a_1_1 a_1_2 a_1_3 a_1_4 a_1_5 a_1_6 a_1_7 a_1_8 a_1_9 a_1_10 a_1_11 a_1_12 a_1_13 a_1_16 a_1_17) (fun r wv_now_rows wv_now_cols wv_now_high wv_now_wide wv_now_folds wv_now_wrong wv_now_more wv_now_rowOf wv_now_colOf wv_now_below wv_now_face wv_now_worn wv_now_last ⟨q_0, q_1, q_2, q_3, q_4, q_5, q_6, q_7, q_8, q_9, q_10, q_11, q_12, q_13, q_14, q_15⟩ => ?_)
  exact ⟨q_0, q_1, q_2, q_3, q_4, q_5, q_6, q_7, q_8, q_9, q_10, q_11, q_12, q_13, a_0_14, a_0_15, q_14, q_15⟩
set_option maxHeartbeats 4000000 in
set_option maxRecDepth 20000 in
theorem st8_undo {v_changes_value : Int32} {v_changes_done : Int32} {v_changes_before : List Int32} {v_changes_size : Int32} {v_changes_after : List Int32} (g_0 : gi_ch v_changes_done v_changes_size v_changes_before v_changes_after) : wp (fX8_undo 700 v_changes_value v_changes_done v_changes_before) (cu3 (fun (r : Int32) (wv_changes_value : Int32) (wv_changes_done : Int32) => gi_ch wv_changes_done v_changes_size v_changes_before v_changes_after)) := by
  obtain ⟨a_0_0, a_0_1, a_0_2, a_0_3, a_0_4, a_0_5⟩ := id g_0
  refine wp_cu3 (sf_X8_undo (Nat.le_refl 700) a_0_0 a_0_1 a_0_4) (fun r wv_changes_value wv_changes_done ⟨q_0, q_1⟩ => ?_)
  exact ⟨q_0, q_1, a_0_2, a_0_3, a_0_4, a_0_5⟩
set_option maxHeartbeats 4000000 in
set_option maxRecDepth 20000 in
theorem st8_redo {v_changes_value : Int32} {v_changes_done : Int32} {v_changes_size : Int32} {v_changes_after : List Int32} {v_changes_before : List Int32} (g_0 : gi_ch v_changes_done v_changes_size v_changes_before v_changes_after) : wp (fX8_redo 700 v_changes_value v_changes_done v_changes_size v_changes_after) (cu3 (fun (r : Int32) (wv_changes_value : Int32) (wv_changes_done : Int32) => gi_ch wv_changes_done v_changes_size v_changes_before v_changes_after)) := by
  obtain ⟨a_0_0, a_0_1, a_0_2, a_0_3, a_0_4, a_0_5⟩ := id g_0
  refine wp_cu3 (sf_X8_redo (Nat.le_refl 700) a_0_0 a_0_1 a_0_2 a_0_3 a_0_5) (fun r wv_changes_value wv_changes_done ⟨q_0, q_1⟩ => ?_)
  exact ⟨q_0, q_1, a_0_2, a_0_3, a_0_4, a_0_5⟩
set_option maxHeartbeats 4000000 in
set_option maxRecDepth 20000 in
theorem st8_body {x1 : Int32} {v_foldings_size : Int32} {v_foldings_kinds : List Int32} {v_foldings_trace : List Int32} (g_0 : gi_fo v_foldings_size v_foldings_kinds v_foldings_trace) : wp (fX8_body 700 x1 v_foldings_size v_foldings_kinds) (cu3 (fun (r : Int32) (wv_foldings_size : Int32) (wv_foldings_kinds : List Int32) => gi_fo wv_foldings_size wv_foldings_kinds v_foldings_trace)) := by
  obtain ⟨a_0_0, a_0_1, a_0_2, a_0_3, a_0_4⟩ := id g_0
  refine wp_cu3 (sf_X8_body (Nat.le_refl 700) a_0_0 a_0_1 a_0_2 a_0_4) (fun r wv_foldings_size wv_foldings_kinds ⟨q_0, q_1, q_2, q_3⟩ => ?_)
  exact ⟨q_0, q_1, q_2, a_0_3, q_3⟩
set_option maxHeartbeats 4000000 in
set_option maxRecDepth 20000 in
theorem st8_trace {x1 : Int32} {v_foldings_ran : Int32} {v_foldings_trace : List Int32} {v_foldings_size : Int32} {v_foldings_kinds : List Int32} (g_0 : gi_fo v_foldings_size v_foldings_kinds v_foldings_trace) : wp (fX8_trace 700 x1 v_foldings_ran v_foldings_trace) (fun (r : Int32) => True) := by
  obtain ⟨a_0_0, a_0_1, a_0_2, a_0_3, a_0_4⟩ := id g_0
  refine wp_cu1 (sf_X8_trace (Nat.le_refl 700) a_0_3) (fun r _ => ?_)
  exact trivial
set_option maxHeartbeats 4000000 in
set_option maxRecDepth 20000 in
theorem st8_keep {x1 : Int32} {x2 : Int32} {v_foldings_size : Int32} {v_shelves0_holds : Int32} {v_shelves0_body : Int32} {v_shelves1_holds : Int32} {v_shelves1_body : Int32} {v_shelves2_holds : Int32} {v_shelves2_body : Int32} {v_shelves3_holds : Int32} {v_shelves3_body : Int32} {v_shelves4_holds : Int32} {v_shelves4_body : Int32} {v_shelves5_holds : Int32} {v_shelves5_body : Int32} {v_foldings_kinds : List Int32} {v_foldings_trace : List Int32} (g_0 : gi_fo v_foldings_size v_foldings_kinds v_foldings_trace) : wp (fX8_keep 700 x1 x2 v_foldings_size v_shelves0_holds v_shelves0_body v_shelves1_holds v_shelves1_body v_shelves2_holds v_shelves2_body v_shelves3_holds v_shelves3_body v_shelves4_holds v_shelves4_body v_shelves5_holds v_shelves5_body) (cu13 (fun (r : Int32) (wv_shelves0_holds : Int32) (wv_shelves0_body : Int32) (wv_shelves1_holds : Int32) (wv_shelves1_body : Int32) (wv_shelves2_holds : Int32) (wv_shelves2_body : Int32) (wv_shelves3_holds : Int32) (wv_shelves3_body : Int32) (wv_shelves4_holds : Int32) (wv_shelves4_body : Int32) (wv_shelves5_holds : Int32) (wv_shelves5_body : Int32) => True)) := by
  obtain ⟨a_0_0, a_0_1, a_0_2, a_0_3, a_0_4⟩ := id g_0
  refine wp_cu13 (sf_X8_keep (Nat.le_refl 700) a_0_0 a_0_1) (fun r wv_shelves0_holds wv_shelves0_body wv_shelves1_holds wv_shelves1_body wv_shelves2_holds wv_shelves2_body wv_shelves3_holds wv_shelves3_body wv_shelves4_holds wv_shelves4_body wv_shelves5_holds wv_shelves5_body _ => ?_)
  exact trivial
set_option maxHeartbeats 4000000 in
set_option maxRecDepth 20000 in
theorem st8_row {x1 : Int32} {x2 : Int32} {x3 : Int32} {v_shelves0_holds : Int32} {v_shelves0_sort : Int32} {v_shelves0_size : Int32} {v_shelves0_items : List Int64} {v_shelves1_holds : Int32} {v_shelves1_sort : Int32} {v_shelves1_size : Int32} {v_shelves1_items : List Int64} {v_shelves2_holds : Int32} {v_shelves2_sort : Int32} {v_shelves2_size : Int32} {v_shelves2_items : List Int64} {v_shelves3_holds : Int32} {v_shelves3_sort : Int32} {v_shelves3_size : Int32} {v_shelves3_items : List Int64} {v_shelves4_holds : Int32} {v_shelves4_sort : Int32} {v_shelves4_size : Int32} {v_shelves4_items : List Int64} {v_shelves5_holds : Int32} {v_shelves5_sort : Int32} {v_shelves5_size : Int32} {v_shelves5_items : List Int64} (g_0 : gi_sf v_shelves0_size v_shelves0_items) (g_1 : gi_sf v_shelves1_size v_shelves1_items) (g_2 : gi_sf v_shelves2_size v_shelves2_items) (g_3 : gi_sf v_shelves3_size v_shelves3_items) (g_4 : gi_sf v_shelves4_size v_shelves4_items) (g_5 : gi_sf v_shelves5_size v_shelves5_items) : wp (fX8_row 700 x1 x2 x3 v_shelves0_holds v_shelves0_sort v_shelves0_size v_shelves0_items v_shelves1_holds v_shelves1_sort v_shelves1_size v_shelves1_items v_shelves2_holds v_shelves2_sort v_shelves2_size v_shelves2_items v_shelves3_holds v_shelves3_sort v_shelves3_size v_shelves3_items v_shelves4_holds v_shelves4_sort v_shelves4_size v_shelves4_items v_shelves5_holds v_shelves5_sort v_shelves5_size v_shelves5_items) (cu25 (fun (r : Int32) (wv_shelves0_holds : Int32) (wv_shelves0_sort : Int32) (wv_shelves0_size : Int32) (wv_shelves0_items : List Int64) (wv_shelves1_holds : Int32) (wv_shelves1_sort : Int32) (wv_shelves1_size : Int32) (wv_shelves1_items : List Int64) (wv_shelves2_holds : Int32) (wv_shelves2_sort : Int32) (wv_shelves2_size : Int32) (wv_shelves2_items : List Int64) (wv_shelves3_holds : Int32) (wv_shelves3_sort : Int32) (wv_shelves3_size : Int32) (wv_shelves3_items : List Int64) (wv_shelves4_holds : Int32) (wv_shelves4_sort : Int32) (wv_shelves4_size : Int32) (wv_shelves4_items : List Int64) (wv_shelves5_holds : Int32) (wv_shelves5_sort : Int32) (wv_shelves5_size : Int32) (wv_shelves5_items : List Int64) => gi_sf wv_shelves0_size wv_shelves0_items ∧ gi_sf wv_shelves1_size wv_shelves1_items ∧ gi_sf wv_shelves2_size wv_shelves2_items ∧ gi_sf wv_shelves3_size wv_shelves3_items ∧ gi_sf wv_shelves4_size wv_shelves4_items ∧ gi_sf wv_shelves5_size wv_shelves5_items)) := by
  obtain ⟨a_0_0, a_0_1, a_0_2⟩ := id g_0
  obtain ⟨a_1_0, a_1_1, a_1_2⟩ := id g_1
  obtain ⟨a_2_0, a_2_1, a_2_2⟩ := id g_2
  obtain ⟨a_3_0, a_3_1, a_3_2⟩ := id g_3
  obtain ⟨a_4_0, a_4_1, a_4_2⟩ := id g_4
  obtain ⟨a_5_0, a_5_1, a_5_2⟩ := id g_5
  refine wp_cu25 (sf_X8_row (Nat.le_refl 700) a_0_0 a_0_1 a_0_2 a_1_0 a_1_1 a_1_2 a_2_0 a_2_1 a_2_2 a_3_0 a_3_1 a_3_2 a_4_0 a_4_1 a_4_2 a_5_0 a_5_1 a_5_2) (fun r wv_shelves0_holds wv_shelves0_sort wv_shelves0_size wv_shelves0_items wv_shelves1_holds wv_shelves1_sort wv_shelves1_size wv_shelves1_items wv_shelves2_holds wv_shelves2_sort wv_shelves2_size wv_shelves2_items wv_shelves3_holds wv_shelves3_sort wv_shelves3_size wv_shelves3_items wv_shelves4_holds wv_shelves4_sort wv_shelves4_size wv_shelves4_items wv_shelves5_holds wv_shelves5_sort wv_shelves5_size wv_shelves5_items ⟨q_0, q_1, q_2, q_3, q_4, q_5, q_6, q_7, q_8, q_9, q_10, q_11, q_12, q_13, q_14, q_15, q_16, q_17⟩ => ?_)
  exact ⟨⟨q_0, q_1, q_2⟩, ⟨q_3, q_4, q_5⟩, ⟨q_6, q_7, q_8⟩, ⟨q_9, q_10, q_11⟩, ⟨q_12, q_13, q_14⟩, ⟨q_15, q_16, q_17⟩⟩
set_option maxHeartbeats 4000000 in
set_option maxRecDepth 20000 in
theorem st8_put {x1 : Int32} {x2 : Int32} {x3 : Int64} {v_shelves0_holds : Int32} {v_shelves0_sort : Int32} {v_shelves0_size : Int32} {v_shelves0_items : List Int64} {v_shelves1_holds : Int32} {v_shelves1_sort : Int32} {v_shelves1_size : Int32} {v_shelves1_items : List Int64} {v_shelves2_holds : Int32} {v_shelves2_sort : Int32} {v_shelves2_size : Int32} {v_shelves2_items : List Int64} {v_shelves3_holds : Int32} {v_shelves3_sort : Int32} {v_shelves3_size : Int32} {v_shelves3_items : List Int64} {v_shelves4_holds : Int32} {v_shelves4_sort : Int32} {v_shelves4_size : Int32} {v_shelves4_items : List Int64} {v_shelves5_holds : Int32} {v_shelves5_sort : Int32} {v_shelves5_size : Int32} {v_shelves5_items : List Int64} (g_0 : gi_sf v_shelves0_size v_shelves0_items) (g_1 : gi_sf v_shelves1_size v_shelves1_items) (g_2 : gi_sf v_shelves2_size v_shelves2_items) (g_3 : gi_sf v_shelves3_size v_shelves3_items) (g_4 : gi_sf v_shelves4_size v_shelves4_items) (g_5 : gi_sf v_shelves5_size v_shelves5_items) : wp (fX8_put 700 x1 x2 x3 v_shelves0_holds v_shelves0_sort v_shelves0_size v_shelves0_items v_shelves1_holds v_shelves1_sort v_shelves1_size v_shelves1_items v_shelves2_holds v_shelves2_sort v_shelves2_size v_shelves2_items v_shelves3_holds v_shelves3_sort v_shelves3_size v_shelves3_items v_shelves4_holds v_shelves4_sort v_shelves4_size v_shelves4_items v_shelves5_holds v_shelves5_sort v_shelves5_size v_shelves5_items) (cu7 (fun (r : Int32) (wv_shelves0_items : List Int64) (wv_shelves1_items : List Int64) (wv_shelves2_items : List Int64) (wv_shelves3_items : List Int64) (wv_shelves4_items : List Int64) (wv_shelves5_items : List Int64) => gi_sf v_shelves0_size wv_shelves0_items ∧ gi_sf v_shelves1_size wv_shelves1_items ∧ gi_sf v_shelves2_size wv_shelves2_items ∧ gi_sf v_shelves3_size wv_shelves3_items ∧ gi_sf v_shelves4_size wv_shelves4_items ∧ gi_sf v_shelves5_size wv_shelves5_items)) := by
  obtain ⟨a_0_0, a_0_1, a_0_2⟩ := id g_0
  obtain ⟨a_1_0, a_1_1, a_1_2⟩ := id g_1
  obtain ⟨a_2_0, a_2_1, a_2_2⟩ := id g_2
  obtain ⟨a_3_0, a_3_1, a_3_2⟩ := id g_3
  obtain ⟨a_4_0, a_4_1, a_4_2⟩ := id g_4
  obtain ⟨a_5_0, a_5_1, a_5_2⟩ := id g_5
  refine wp_cu7 (sf_X8_put (Nat.le_refl 700) a_0_0 a_0_1 a_0_2 a_1_0 a_1_1 a_1_2 a_2_0 a_2_1 a_2_2 a_3_0 a_3_1 a_3_2 a_4_0 a_4_1 a_4_2 a_5_0 a_5_1 a_5_2) (fun r wv_shelves0_items wv_shelves1_items wv_shelves2_items wv_shelves3_items wv_shelves4_items wv_shelves5_items ⟨q_0, q_1, q_2, q_3, q_4, q_5⟩ => ?_)
  exact ⟨⟨a_0_0, a_0_1, q_0⟩, ⟨a_1_0, a_1_1, q_1⟩, ⟨a_2_0, a_2_1, q_2⟩, ⟨a_3_0, a_3_1, q_3⟩, ⟨a_4_0, a_4_1, q_4⟩, ⟨a_5_0, a_5_1, q_5⟩⟩
set_option maxHeartbeats 4000000 in
set_option maxRecDepth 20000 in
theorem st8_element {x1 : Int32} {x2 : Int32} {v_shelves0_holds : Int32} {v_shelves0_size : Int32} {v_shelves0_items : List Int64} {v_shelves1_holds : Int32} {v_shelves1_size : Int32} {v_shelves1_items : List Int64} {v_shelves2_holds : Int32} {v_shelves2_size : Int32} {v_shelves2_items : List Int64} {v_shelves3_holds : Int32} {v_shelves3_size : Int32} {v_shelves3_items : List Int64} {v_shelves4_holds : Int32} {v_shelves4_size : Int32} {v_shelves4_items : List Int64} {v_shelves5_holds : Int32} {v_shelves5_size : Int32} {v_shelves5_items : List Int64} (g_0 : gi_sf v_shelves0_size v_shelves0_items) (g_1 : gi_sf v_shelves1_size v_shelves1_items) (g_2 : gi_sf v_shelves2_size v_shelves2_items) (g_3 : gi_sf v_shelves3_size v_shelves3_items) (g_4 : gi_sf v_shelves4_size v_shelves4_items) (g_5 : gi_sf v_shelves5_size v_shelves5_items) : wp (fX8_element 700 x1 x2 v_shelves0_holds v_shelves0_size v_shelves0_items v_shelves1_holds v_shelves1_size v_shelves1_items v_shelves2_holds v_shelves2_size v_shelves2_items v_shelves3_holds v_shelves3_size v_shelves3_items v_shelves4_holds v_shelves4_size v_shelves4_items v_shelves5_holds v_shelves5_size v_shelves5_items) (fun (r : Int64) => True) := by
  obtain ⟨a_0_0, a_0_1, a_0_2⟩ := id g_0
  obtain ⟨a_1_0, a_1_1, a_1_2⟩ := id g_1
  obtain ⟨a_2_0, a_2_1, a_2_2⟩ := id g_2
  obtain ⟨a_3_0, a_3_1, a_3_2⟩ := id g_3
  obtain ⟨a_4_0, a_4_1, a_4_2⟩ := id g_4
  obtain ⟨a_5_0, a_5_1, a_5_2⟩ := id g_5
  refine wp_cu1 (sf_X8_element (Nat.le_refl 700) a_0_0 a_0_1 a_0_2 a_1_0 a_1_1 a_1_2 a_2_0 a_2_1 a_2_2 a_3_0 a_3_1 a_3_2 a_4_0 a_4_1 a_4_2 a_5_0 a_5_1 a_5_2) (fun r _ => ?_)
  exact trivial
set_option maxHeartbeats 4000000 in
set_option maxRecDepth 20000 in
theorem st8_shift {x1 : Int32} {x2 : Int32} {x3 : Int32} {x4 : Int32} {x5 : Int32} {v_shelves0_holds : Int32} {v_shelves0_sort : Int32} {v_shelves0_size : Int32} {v_shelves0_items : List Int64} {v_shelves1_holds : Int32} {v_shelves1_sort : Int32} {v_shelves1_size : Int32} {v_shelves1_items : List Int64} {v_shelves2_holds : Int32} {v_shelves2_sort : Int32} {v_shelves2_size : Int32} {v_shelves2_items : List Int64} {v_shelves3_holds : Int32} {v_shelves3_sort : Int32} {v_shelves3_size : Int32} {v_shelves3_items : List Int64} {v_shelves4_holds : Int32} {v_shelves4_sort : Int32} {v_shelves4_size : Int32} {v_shelves4_items : List Int64} {v_shelves5_holds : Int32} {v_shelves5_sort : Int32} {v_shelves5_size : Int32} {v_shelves5_items : List Int64} (g_0 : gi_sf v_shelves0_size v_shelves0_items) (g_1 : gi_sf v_shelves1_size v_shelves1_items) (g_2 : gi_sf v_shelves2_size v_shelves2_items) (g_3 : gi_sf v_shelves3_size v_shelves3_items) (g_4 : gi_sf v_shelves4_size v_shelves4_items) (g_5 : gi_sf v_shelves5_size v_shelves5_items) : wp (fX8_shift 700 x1 x2 x3 x4 x5 v_shelves0_holds v_shelves0_sort v_shelves0_size v_shelves0_items v_shelves1_holds v_shelves1_sort v_shelves1_size v_shelves1_items v_shelves2_holds v_shelves2_sort v_shelves2_size v_shelves2_items v_shelves3_holds v_shelves3_sort v_shelves3_size v_shelves3_items v_shelves4_holds v_shelves4_sort v_shelves4_size v_shelves4_items v_shelves5_holds v_shelves5_sort v_shelves5_size v_shelves5_items) (cu7 (fun (r : Int32) (wv_shelves0_items : List Int64) (wv_shelves1_items : List Int64) (wv_shelves2_items : List Int64) (wv_shelves3_items : List Int64) (wv_shelves4_items : List Int64) (wv_shelves5_items : List Int64) => gi_sf v_shelves0_size wv_shelves0_items ∧ gi_sf v_shelves1_size wv_shelves1_items ∧ gi_sf v_shelves2_size wv_shelves2_items ∧ gi_sf v_shelves3_size wv_shelves3_items ∧ gi_sf v_shelves4_size wv_shelves4_items ∧ gi_sf v_shelves5_size wv_shelves5_items)) := by
  obtain ⟨a_0_0, a_0_1, a_0_2⟩ := id g_0
  obtain ⟨a_1_0, a_1_1, a_1_2⟩ := id g_1
  obtain ⟨a_2_0, a_2_1, a_2_2⟩ := id g_2
  obtain ⟨a_3_0, a_3_1, a_3_2⟩ := id g_3
  obtain ⟨a_4_0, a_4_1, a_4_2⟩ := id g_4
  obtain ⟨a_5_0, a_5_1, a_5_2⟩ := id g_5
  refine wp_cu7 (sf_X8_shift (Nat.le_refl 700) a_0_0 a_0_1 a_0_2 a_1_0 a_1_1 a_1_2 a_2_0 a_2_1 a_2_2 a_3_0 a_3_1 a_3_2 a_4_0 a_4_1 a_4_2 a_5_0 a_5_1 a_5_2) (fun r wv_shelves0_items wv_shelves1_items wv_shelves2_items wv_shelves3_items wv_shelves4_items wv_shelves5_items ⟨q_0, q_1, q_2, q_3, q_4, q_5⟩ => ?_)
  exact ⟨⟨a_0_0, a_0_1, q_0⟩, ⟨a_1_0, a_1_1, q_1⟩, ⟨a_2_0, a_2_1, q_2⟩, ⟨a_3_0, a_3_1, q_3⟩, ⟨a_4_0, a_4_1, q_4⟩, ⟨a_5_0, a_5_1, q_5⟩⟩
set_option maxHeartbeats 4000000 in
set_option maxRecDepth 20000 in
theorem st8_taken {x1 : Int32} {x2 : Int32} {v_foldings_size : Int32} {v_foldings_kinds : List Int32} {v_shelves0_holds : Int32} {v_shelves0_body : Int32} {v_shelves1_holds : Int32} {v_shelves1_body : Int32} {v_shelves2_holds : Int32} {v_shelves2_body : Int32} {v_shelves3_holds : Int32} {v_shelves3_body : Int32} {v_shelves4_holds : Int32} {v_shelves4_body : Int32} {v_shelves5_holds : Int32} {v_shelves5_body : Int32} {v_foldings_trace : List Int32} (g_0 : gi_fo v_foldings_size v_foldings_kinds v_foldings_trace) : wp (fX8_taken 700 x1 x2 v_foldings_size v_foldings_kinds v_shelves0_holds v_shelves0_body v_shelves1_holds v_shelves1_body v_shelves2_holds v_shelves2_body v_shelves3_holds v_shelves3_body v_shelves4_holds v_shelves4_body v_shelves5_holds v_shelves5_body) (fun (r : Int32) => True) := by
  obtain ⟨a_0_0, a_0_1, a_0_2, a_0_3, a_0_4⟩ := id g_0
  refine wp_cu1 (sf_X8_taken (Nat.le_refl 700) a_0_0 a_0_1 a_0_2 a_0_4) (fun r _ => ?_)
  exact trivial
set_option maxHeartbeats 4000000 in
set_option maxRecDepth 20000 in
theorem st8_count {x1 : Int32} {v_now_rows : Int32} {v_now_cols : Int32} {v_wearing_size : Int32} {v_planned_size : Int32} {v_changes_done : Int32} {v_foldings_size : Int32} {v_foldings_ran : Int32} {v_now_high : Int32} {v_now_wide : Int32} {v_now_rowOf : List Int32} {v_now_colOf : List Int32} {v_now_below : List Int32} {v_now_face : List Int32} {v_now_worn : List Int32} {v_now_last : List Int32} {v_now_bend : List Int32} {v_now_tall : List Int32} {v_changes_size : Int32} {v_changes_before : List Int32} {v_changes_after : List Int32} {v_wearing_stepCount : Int32} {v_wearing_draftCount : Int32} {v_wearing_tape : List Int32} {v_wearing_steps : List Int32} {v_wearing_draft : List Int32} {v_wearing_stack : List Int32} {v_planned_lines : List Int32} {v_planned_ways : List Int32} {v_foldings_kinds : List Int32} {v_foldings_trace : List Int32} (g_0 : gi_sh v_now_rows v_now_cols v_now_high v_now_wide v_now_rowOf v_now_colOf v_now_below v_now_face v_now_worn v_now_last v_now_bend v_now_tall) (g_1 : gi_ch v_changes_done v_changes_size v_changes_before v_changes_after) (g_2 : gi_la v_wearing_size v_wearing_stepCount v_wearing_draftCount v_wearing_tape v_wearing_steps v_wearing_draft v_wearing_stack) (g_3 : gi_pl v_planned_size v_planned_lines v_planned_ways) (g_4 : gi_fo v_foldings_size v_foldings_kinds v_foldings_trace) : wp (fX8_count 700 x1 v_now_rows v_now_cols v_wearing_size v_planned_size v_changes_done v_foldings_size v_foldings_ran) (fun (r : Int32) => True) := by
  obtain ⟨a_0_0, a_0_1, a_0_2, a_0_3, a_0_4, a_0_5, a_0_6, a_0_7, a_0_8, a_0_9, a_0_10, a_0_11, a_0_12, a_0_13, a_0_14, a_0_15, a_0_16, a_0_17⟩ := id g_0
  obtain ⟨a_1_0, a_1_1, a_1_2, a_1_3, a_1_4, a_1_5⟩ := id g_1
  obtain ⟨a_2_0, a_2_1, a_2_2, a_2_3, a_2_4, a_2_5, a_2_6, a_2_7, a_2_8, a_2_9⟩ := id g_2
  obtain ⟨a_3_0, a_3_1, a_3_2, a_3_3⟩ := id g_3
  obtain ⟨a_4_0, a_4_1, a_4_2, a_4_3, a_4_4⟩ := id g_4
  refine wp_cu1 (sf_X8_count (Nat.le_refl 700) a_0_0 a_0_1 a_0_2 a_0_3 a_2_0 a_2_1 a_3_0 a_3_1 a_1_0 a_1_1 a_4_0 a_4_1) (fun r _ => ?_)
  exact trivial
end
section
/-! The reference: each call keeps the invariants -/

theorem sfb_X9_body {x1 : Int32} {v_bodies : Int32} {v_bodyKind : List Int32} (h_0 : 0 ≤ v_bodies.toInt) (h_1 : v_bodies.toInt ≤ 50) (h_2 : v_bodyKind.length = 50) (h_3 : zn v_bodyKind 0 v_bodies.toInt 0 8) : wp (fX9_body 700 x1 v_bodies v_bodyKind) (cu3 (fun (r : Int32) (wv_bodies : Int32) (wv_bodyKind : List Int32) => 0 ≤ wv_bodies.toInt ∧ wv_bodies.toInt ≤ 50 ∧ wv_bodyKind.length = 50 ∧ zn wv_bodyKind 0 wv_bodies.toInt 0 8)) := by
  unfold fX9_body
  have n_1 := i_64 x1
  have n_2 : (0 : Int64).toInt = 0 := by decide
  have n_3 : (7 : Int64).toInt = 7 := by decide
  have n_4 : (1 : Int32).toInt = 1 := by decide
  have n_5 : (50 : Int32).toInt = 50 := by decide
  refine wp_bd1 (sf_X9_within (Nat.le_refl 700)) (fun r q => ?_)
  rcases q with ⟨rfl, q0, q1⟩ | ⟨rfl, -⟩
  · refine wp_ifn (by decide) ?_
    refine wp_if (fun _ => wp_so3 ⟨h_0, h_1, h_2, h_3⟩) (fun c1 => ?_)
    have d1 : v_bodies.toInt < 50 := by
      have : v_bodies.toInt ≠ 50 := fun e => c1 (Int32.toInt_inj.mp (by omega))
      omega
    refine wp_ck (i_inb (by omega) (by omega)) ?_
    refine wp_nm (fun l hl => ?_)
    refine wp_nm (fun y hy => ?_)
    have e := i_addE hy.symm (by omega) (by omega)
    subst hl
    exact wp_so3 ⟨by omega, by omega, by rw [is_len]; exact h_2, zn_ext h_3 h_0 rfl (by omega) (by omega) (by omega)⟩
  · refine wp_ifp rfl ?_
    exact wp_so3 ⟨h_0, h_1, h_2, h_3⟩
theorem sb_X9_isBody {x1 : Int32} {v_bodies : Int32} (h_0 : 0 ≤ v_bodies.toInt) (h_1 : v_bodies.toInt ≤ 50) : wp (fX9_isBody 700 x1 v_bodies) (fun (r : Bool) => (r = true ∧ 0 ≤ x1.toInt ∧ x1.toInt < v_bodies.toInt) ∨ (r = false ∧ True)) := by
  unfold fX9_isBody
  have n_1 := i_64 x1
  have n_2 : (0 : Int64).toInt = 0 := by decide
  have n_4 : (1 : Int32).toInt = 1 := by decide
  have n_3 := i_64 (v_bodies - (1 : Int32))
  have e := i_subE (rfl : v_bodies - (1 : Int32) = _) (by omega) (by omega)
  refine wp_bd1 (sf_X9_within (Nat.le_refl 700)) (fun r q => ?_)
  rcases q with ⟨rfl, q0, q1⟩ | ⟨rfl, -⟩
  · exact wp_so1 (Or.inl ⟨rfl, by rw [n_1, n_2] at q0; exact q0, by rw [n_1, n_3, e, n_4] at q1; omega⟩)
  · exact wp_so1 (Or.inr ⟨rfl, trivial⟩)
theorem st9_act {x1 : Int32} {x2 : Int32} {x3 : Int32} {v_bodies : Int32} {v_ran : Int32} {v_ownKind : Int32} {v_ownNumber : Int32} {v_bodyKind : List Int32} {v_trace : List Int32} (g_0 : gm_bo v_bodies v_bodyKind v_trace) : wp (fX9_act 700 x1 x2 x3 v_bodies v_ran v_ownKind v_ownNumber v_bodyKind v_trace) (cu5 (fun (r : Int32) (wv_ran : Int32) (wv_ownKind : Int32) (wv_ownNumber : Int32) (wv_trace : List Int32) => gm_bo v_bodies v_bodyKind wv_trace)) := by
  obtain ⟨a_0, a_1, a_2, a_3, a_4⟩ := id g_0
  unfold fX9_act
  refine wp_bd1 (sb_X9_isBody a_0 a_1) (fun r q => ?_)
  rcases q with ⟨rfl, q0, q1⟩ | ⟨rfl, -⟩
  · refine wp_ifn (by decide) ?_
    refine wp_ck (i_inb (by omega) (by omega)) ?_
    refine wp_nm (fun y hy => ?_)
    have z := zn_get a_4 q0 q0 (by omega) (by omega)
    rw [← hy] at z
    have F : ∀ (t : List Int32), t.length = 24 → gm_bo v_bodies v_bodyKind t := fun t h => ⟨a_0, a_1, a_2, h, a_4⟩
    refine wp_if (fun _ => ?_) (fun _ => wp_if (fun _ => ?_) (fun _ => wp_if (fun _ => ?_) (fun _ => wp_if (fun _ => ?_) (fun _ => wp_so5 g_0))))
    · obtain ⟨r, c, t, -, e1, e3⟩ := ac_0 z.1 z.2 x3 x1 v_trace a_3
      exact wp_bd3 (R := fun (_ : Int32) (_ : Int32) (t : List Int32) => t.length = 24) ⟨(r, c, t), e1, e3⟩ (fun _ _ _ h => wp_so5 (F _ h))
    · obtain ⟨r, c, t, -, e1, e3⟩ := ac_1 z.1 z.2 x3 x1 v_trace a_3
      exact wp_bd3 (R := fun (_ : Int32) (_ : Int32) (t : List Int32) => t.length = 24) ⟨(r, c, t), e1, e3⟩ (fun _ _ _ h => wp_so5 (F _ h))
    · obtain ⟨r, c, t, -, e1, e3⟩ := ac_2 z.1 z.2 x3 x1 v_trace a_3
      exact wp_bd3 (R := fun (_ : Int32) (_ : Int32) (t : List Int32) => t.length = 24) ⟨(r, c, t), e1, e3⟩ (fun _ _ _ h => wp_so5 (F _ h))
    · obtain ⟨r, c, t, -, e1, e3⟩ := ac_3 z.1 z.2 x3 x1 v_trace a_3
      exact wp_bd3 (R := fun (_ : Int32) (_ : Int32) (t : List Int32) => t.length = 24) ⟨(r, c, t), e1, e3⟩ (fun _ _ _ h => wp_so5 (F _ h))
  · refine wp_ifp rfl ?_
    exact wp_so5 g_0
set_option maxHeartbeats 4000000 in
set_option maxRecDepth 20000 in
theorem st9_sheet {x1 : Int32} {v_rowsOf : Int32} {v_columnsOf : Int32} {v_folded : Int32} {v_wronged : Int32} {v_shapeRows : List Int32} {v_shapeColumns : List Int32} {v_row : List Int32} {v_column : List Int32} {v_below : List Int32} {v_face : List Int32} {v_worn : List Int32} {v_lastBend : List Int32} {v_isKept : Bool} {v_imageRows : Int32} {v_imageColumns : Int32} (g_0 : gm_sh v_rowsOf v_columnsOf v_isKept v_imageRows v_imageColumns v_shapeRows v_shapeColumns v_row v_column v_below v_face v_worn v_lastBend) : wp (fX9_sheet 700 x1 v_rowsOf v_columnsOf v_folded v_wronged v_shapeRows v_shapeColumns v_row v_column v_below v_face v_worn v_lastBend) (cu13 (fun (r : Int32) (wv_rowsOf : Int32) (wv_columnsOf : Int32) (wv_folded : Int32) (wv_wronged : Int32) (wv_shapeRows : List Int32) (wv_shapeColumns : List Int32) (wv_row : List Int32) (wv_column : List Int32) (wv_below : List Int32) (wv_face : List Int32) (wv_worn : List Int32) (wv_lastBend : List Int32) => gm_sh wv_rowsOf wv_columnsOf v_isKept v_imageRows v_imageColumns wv_shapeRows wv_shapeColumns wv_row wv_column wv_below wv_face wv_worn wv_lastBend)) := by
  obtain ⟨a_0_0, a_0_1, a_0_2, a_0_3, a_0_4, a_0_5, a_0_6, a_0_7, a_0_8, a_0_9, a_0_10, a_0_11, a_0_12, a_0_13⟩ := id g_0
  have n0 : (0 : Int32).toInt = 0 := by decide
  have n1 : (1 : Int32).toInt = 1 := by decide
  have n5 : (5 : Int32).toInt = 5 := by decide
  refine wp_cu13 (sf_X9_sheet (u_row := v_row) (u_col := v_column) (u_sR := v_shapeRows) (u_sC := v_shapeColumns) (A := 0) (B9 := 32) (a9 := 0) (b9 := 1) (u_bel := v_below) (u_fac := v_face) (u_wo := v_worn) (u_la := v_lastBend) (Aw := 0) (Bw := 64) (Nat.le_refl 700) a_0_0 a_0_1 a_0_2 a_0_3 a_0_4 a_0_5 a_0_6 a_0_7 a_0_8 a_0_9 a_0_10 a_0_11 (fr_refl _ _ _) (fr_refl _ _ _) (fr_refl _ _ _) (fr_refl _ _ _) (by omega) (by omega) (by omega) (by omega) (fr_refl _ _ _) (fr_refl _ _ _) (fr_refl _ _ _) (fr_refl _ _ _) (by omega) (by omega) a_0_12) (fun r wv_rowsOf wv_columnsOf wv_folded wv_wronged wv_shapeRows wv_shapeColumns wv_row wv_column wv_below wv_face wv_worn wv_lastBend ⟨q_0, q_1, q_2, q_3, q_4, q_5, q_6, q_7, q_8, q_9, q_10, q_11, q_12, q_13, q_14, q_15, q_16, q_17, q_18, q_19, q_20⟩ => ?_)
  have l_5 : ¬ (v_isKept = false) → 1 ≤ v_imageRows.toInt ∧ v_imageRows.toInt ≤ 4 ∧ 1 ≤ v_imageColumns.toInt ∧ v_imageColumns.toInt ≤ 8 ∧ lv9 v_imageRows v_imageColumns wv_shapeRows wv_shapeColumns wv_row wv_column (5 : Int32) := fun hk => (by
    obtain ⟨j_0, j_1, j_2, j_3, j_4⟩ := a_0_13 hk
    exact ⟨j_0, j_1, j_2, j_3, lv9_fr j_4 q_14 q_15 q_12 q_13 (by omega) (by omega) (by omega) (by omega) (i_fl j_0 j_1 j_2 j_3).2.2⟩)
  exact ⟨q_0, q_1, q_2, q_3, q_4, q_5, q_6, q_7, q_8, q_9, q_10, q_11, q_20, l_5⟩
set_option maxHeartbeats 4000000 in
set_option maxRecDepth 20000 in
theorem st9_limit {x1 : Int32} {v_keptMany : Int32} {v_done : Int32} {v_limit : List Int32} {v_changeWas : List Int32} {v_changeIs : List Int32} (g_0 : gm_ch v_keptMany v_done v_limit v_changeWas v_changeIs) : wp (fX9_limit 700 x1 v_keptMany v_done v_limit v_changeWas v_changeIs) (cu6 (fun (r : Int32) (wv_keptMany : Int32) (wv_done : Int32) (wv_limit : List Int32) (wv_changeWas : List Int32) (wv_changeIs : List Int32) => gm_ch wv_keptMany wv_done wv_limit wv_changeWas wv_changeIs)) := by
  obtain ⟨a_0_0, a_0_1, a_0_2, a_0_3, a_0_4, a_0_5, a_0_6, a_0_7⟩ := id g_0
  refine wp_cu6 (sf_X9_limit (Nat.le_refl 700) a_0_0 a_0_1 a_0_2 a_0_3 a_0_4 a_0_5 a_0_6 a_0_7) (fun r wv_keptMany wv_done wv_limit wv_changeWas wv_changeIs ⟨q_0, q_1, q_2, q_3, q_4, q_5, q_6, q_7⟩ => ?_)
  exact ⟨q_0, q_1, q_2, q_3, q_4, q_5, q_6, q_7⟩
set_option maxHeartbeats 4000000 in
set_option maxRecDepth 20000 in
theorem st9_feed {x1 : Int32} {v_tapeMany : Int32} {v_tape : List Int32} {v_textMany : Int32} {v_text : List Int32} {v_names : List Int32} {v_bends : List Int32} {v_high : List Int32} {v_to : List Int32} {v_pileSize : List Int32} (g_0 : gm_tx v_tapeMany v_textMany v_tape v_text v_names v_bends v_high v_to v_pileSize) : wp (fX9_feed 700 x1 v_tapeMany v_tape) (cu3 (fun (r : Int32) (wv_tapeMany : Int32) (wv_tape : List Int32) => gm_tx wv_tapeMany v_textMany wv_tape v_text v_names v_bends v_high v_to v_pileSize)) := by
  obtain ⟨a_0_0, a_0_1, a_0_2, a_0_3, a_0_4, a_0_5, a_0_6, a_0_7, a_0_8, a_0_9, a_0_10⟩ := id g_0
  refine wp_cu3 (sf_X9_feed (Nat.le_refl 700) a_0_0 a_0_1 a_0_4) (fun r wv_tapeMany wv_tape ⟨q_0, q_1, q_2⟩ => ?_)
  exact ⟨q_0, q_1, a_0_2, a_0_3, q_2, a_0_5, a_0_6, a_0_7, a_0_8, a_0_9, a_0_10⟩
set_option maxHeartbeats 4000000 in
set_option maxRecDepth 20000 in
theorem st9_law {v_tapeMany : Int32} {v_textMany : Int32} {v_base : Int32} {v_at : Int32} {v_ends : Int32} {v_fault : Int32} {v_opened : Int32} {v_tape : List Int32} {v_text : List Int32} {v_names : List Int32} {v_bends : List Int32} {v_high : List Int32} {v_to : List Int32} {v_pileSize : List Int32} (g_0 : gm_tx v_tapeMany v_textMany v_tape v_text v_names v_bends v_high v_to v_pileSize) : wp (fX9_law 700 v_tapeMany v_textMany v_base v_at v_ends v_fault v_opened v_tape v_text v_names) (cu9 (fun (r : Int32) (wv_tapeMany : Int32) (wv_textMany : Int32) (wv_base : Int32) (wv_at : Int32) (wv_ends : Int32) (wv_fault : Int32) (wv_opened : Int32) (wv_text : List Int32) => gm_tx wv_tapeMany wv_textMany v_tape wv_text v_names v_bends v_high v_to v_pileSize)) := by
  obtain ⟨a_0_0, a_0_1, a_0_2, a_0_3, a_0_4, a_0_5, a_0_6, a_0_7, a_0_8, a_0_9, a_0_10⟩ := id g_0
  refine wp_cu9 (sf_X9_law (Nat.le_refl 700) a_0_0 a_0_1 a_0_2 a_0_3 a_0_4 a_0_5 a_0_6) (fun r wv_tapeMany wv_textMany wv_base wv_at wv_ends wv_fault wv_opened wv_text ⟨q_0, q_1, q_2, q_3, q_4⟩ => ?_)
  exact ⟨q_0, q_1, q_2, q_3, a_0_4, q_4, a_0_6, a_0_7, a_0_8, a_0_9, a_0_10⟩
set_option maxHeartbeats 4000000 in
set_option maxRecDepth 20000 in
theorem st9_fold {x1 : Int32} {x2 : Int32} {v_rowsOf : Int32} {v_columnsOf : Int32} {v_folded : Int32} {v_wronged : Int32} {v_textMany : Int32} {v_base : Int32} {v_at : Int32} {v_ends : Int32} {v_fault : Int32} {v_opened : Int32} {v_bentMany : Int32} {v_bentWrong : Int32} {v_moreWorn : Int32} {v_limit : List Int32} {v_shapeRows : List Int32} {v_shapeColumns : List Int32} {v_row : List Int32} {v_column : List Int32} {v_below : List Int32} {v_face : List Int32} {v_worn : List Int32} {v_lastBend : List Int32} {v_tape : List Int32} {v_text : List Int32} {v_names : List Int32} {v_bends : List Int32} {v_high : List Int32} {v_to : List Int32} {v_pileSize : List Int32} {v_keptMany : Int32} {v_done : Int32} {v_changeWas : List Int32} {v_changeIs : List Int32} {v_isKept : Bool} {v_imageRows : Int32} {v_imageColumns : Int32} {v_tapeMany : Int32} (g_0 : gm_ch v_keptMany v_done v_limit v_changeWas v_changeIs) (g_1 : gm_sh v_rowsOf v_columnsOf v_isKept v_imageRows v_imageColumns v_shapeRows v_shapeColumns v_row v_column v_below v_face v_worn v_lastBend) (g_2 : gm_tx v_tapeMany v_textMany v_tape v_text v_names v_bends v_high v_to v_pileSize) : wp (fX9_fold 700 x1 x2 v_rowsOf v_columnsOf v_folded v_wronged v_textMany v_base v_at v_ends v_fault v_opened v_bentMany v_bentWrong v_moreWorn v_limit v_shapeRows v_shapeColumns v_row v_column v_below v_face v_worn v_lastBend v_tape v_text v_names v_bends v_high v_to v_pileSize) (cu24 (fun (r : Int32) (wv_folded : Int32) (wv_wronged : Int32) (wv_base : Int32) (wv_at : Int32) (wv_ends : Int32) (wv_fault : Int32) (wv_opened : Int32) (wv_bentMany : Int32) (wv_bentWrong : Int32) (wv_moreWorn : Int32) (wv_shapeRows : List Int32) (wv_shapeColumns : List Int32) (wv_row : List Int32) (wv_column : List Int32) (wv_below : List Int32) (wv_face : List Int32) (wv_worn : List Int32) (wv_lastBend : List Int32) (wv_names : List Int32) (wv_bends : List Int32) (wv_high : List Int32) (wv_to : List Int32) (wv_pileSize : List Int32) => gm_sh v_rowsOf v_columnsOf v_isKept v_imageRows v_imageColumns wv_shapeRows wv_shapeColumns wv_row wv_column wv_below wv_face wv_worn wv_lastBend ∧ gm_tx v_tapeMany v_textMany v_tape v_text wv_names wv_bends wv_high wv_to wv_pileSize)) := by
  obtain ⟨a_0_0, a_0_1, a_0_2, a_0_3, a_0_4, a_0_5, a_0_6, a_0_7⟩ := id g_0
  obtain ⟨a_1_0, a_1_1, a_1_2, a_1_3, a_1_4, a_1_5, a_1_6, a_1_7, a_1_8, a_1_9, a_1_10, a_1_11, a_1_12, a_1_13⟩ := id g_1
  obtain ⟨a_2_0, a_2_1, a_2_2, a_2_3, a_2_4, a_2_5, a_2_6, a_2_7, a_2_8, a_2_9, a_2_10⟩ := id g_2
  have n0 : (0 : Int32).toInt = 0 := by decide
  have n1 : (1 : Int32).toInt = 1 := by decide
  have n5 : (5 : Int32).toInt = 5 := by decide
  refine wp_cu24 (sf_X9_fold (u_row := v_row) (u_col := v_column) (u_sR := v_shapeRows) (u_sC := v_shapeColumns) (A := 0) (B9 := 32) (a9 := 0) (b9 := 1) (u_bel := v_below) (u_fac := v_face) (u_wo := v_worn) (u_la := v_lastBend) (Aw := 0) (Bw := 64) (Nat.le_refl 700) a_1_0 a_1_1 a_1_2 a_1_3 a_2_2 a_2_3 a_0_4 a_1_4 a_1_5 a_1_6 a_1_7 a_1_8 a_1_9 a_1_10 a_1_11 a_2_4 a_2_5 a_2_6 a_2_7 a_2_8 a_2_9 a_2_10 (fr_refl _ _ _) (fr_refl _ _ _) (fr_refl _ _ _) (fr_refl _ _ _) (by omega) (by omega) (by omega) (by omega) (fr_refl _ _ _) (fr_refl _ _ _) (fr_refl _ _ _) (fr_refl _ _ _) (by omega) (by omega) a_1_12) (fun r wv_folded wv_wronged wv_base wv_at wv_ends wv_fault wv_opened wv_bentMany wv_bentWrong wv_moreWorn wv_shapeRows wv_shapeColumns wv_row wv_column wv_below wv_face wv_worn wv_lastBend wv_names wv_bends wv_high wv_to wv_pileSize ⟨q_0, q_1, q_2, q_3, q_4, q_5, q_6, q_7, q_8, q_9, q_10, q_11, q_12, q_13, q_14, q_15, q_16, q_17, q_18, q_19, q_20, q_21⟩ => ?_)
  have l_5 : ¬ (v_isKept = false) → 1 ≤ v_imageRows.toInt ∧ v_imageRows.toInt ≤ 4 ∧ 1 ≤ v_imageColumns.toInt ∧ v_imageColumns.toInt ≤ 8 ∧ lv9 v_imageRows v_imageColumns wv_shapeRows wv_shapeColumns wv_row wv_column (5 : Int32) := fun hk => (by
    obtain ⟨j_0, j_1, j_2, j_3, j_4⟩ := a_1_13 hk
    exact ⟨j_0, j_1, j_2, j_3, lv9_fr j_4 q_15 q_16 q_13 q_14 (by omega) (by omega) (by omega) (by omega) (i_fl j_0 j_1 j_2 j_3).2.2⟩)
  exact ⟨⟨a_1_0, a_1_1, a_1_2, a_1_3, q_0, q_1, q_2, q_3, q_4, q_5, q_6, q_7, q_21, l_5⟩, ⟨a_2_0, a_2_1, a_2_2, a_2_3, a_2_4, a_2_5, q_8, q_9, q_10, q_11, q_12⟩⟩
set_option maxHeartbeats 4000000 in
set_option maxRecDepth 20000 in
theorem st9_flat {v_rowsOf : Int32} {v_columnsOf : Int32} {v_shapeRows : List Int32} {v_shapeColumns : List Int32} {v_row : List Int32} {v_column : List Int32} {v_below : List Int32} {v_face : List Int32} {v_isKept : Bool} {v_imageRows : Int32} {v_imageColumns : Int32} {v_worn : List Int32} {v_lastBend : List Int32} (g_0 : gm_sh v_rowsOf v_columnsOf v_isKept v_imageRows v_imageColumns v_shapeRows v_shapeColumns v_row v_column v_below v_face v_worn v_lastBend) : wp (fX9_flat 700 v_rowsOf v_columnsOf v_shapeRows v_shapeColumns v_row v_column v_below v_face) (cu7 (fun (r : Int32) (wv_shapeRows : List Int32) (wv_shapeColumns : List Int32) (wv_row : List Int32) (wv_column : List Int32) (wv_below : List Int32) (wv_face : List Int32) => gm_sh v_rowsOf v_columnsOf v_isKept v_imageRows v_imageColumns wv_shapeRows wv_shapeColumns wv_row wv_column wv_below wv_face v_worn v_lastBend)) := by
  obtain ⟨a_0_0, a_0_1, a_0_2, a_0_3, a_0_4, a_0_5, a_0_6, a_0_7, a_0_8, a_0_9, a_0_10, a_0_11, a_0_12, a_0_13⟩ := id g_0
  have n0 : (0 : Int32).toInt = 0 := by decide
  have n1 : (1 : Int32).toInt = 1 := by decide
  have n5 : (5 : Int32).toInt = 5 := by decide
  refine wp_cu7 (sf_X9_flat (u_row := v_row) (u_col := v_column) (u_sR := v_shapeRows) (u_sC := v_shapeColumns) (A := 0) (B9 := 32) (a9 := 0) (b9 := 1) (u_bel := v_below) (u_fac := v_face) (Nat.le_refl 700) a_0_0 a_0_1 a_0_2 a_0_3 a_0_4 a_0_5 a_0_6 a_0_7 a_0_8 a_0_9 (fr_refl _ _ _) (fr_refl _ _ _) (fr_refl _ _ _) (fr_refl _ _ _) (by omega) (by omega) (by omega) (by omega) (fr_refl _ _ _) (fr_refl _ _ _) a_0_12) (fun r wv_shapeRows wv_shapeColumns wv_row wv_column wv_below wv_face ⟨q_0, q_1, q_2, q_3, q_4, q_5, q_6, q_7, q_8, q_9, q_10, q_11, q_12⟩ => ?_)
  have l_5 : ¬ (v_isKept = false) → 1 ≤ v_imageRows.toInt ∧ v_imageRows.toInt ≤ 4 ∧ 1 ≤ v_imageColumns.toInt ∧ v_imageColumns.toInt ≤ 8 ∧ lv9 v_imageRows v_imageColumns wv_shapeRows wv_shapeColumns wv_row wv_column (5 : Int32) := fun hk => (by
    obtain ⟨j_0, j_1, j_2, j_3, j_4⟩ := a_0_13 hk
    exact ⟨j_0, j_1, j_2, j_3, lv9_fr j_4 q_8 q_9 q_6 q_7 (by omega) (by omega) (by omega) (by omega) (i_fl j_0 j_1 j_2 j_3).2.2⟩)
  exact ⟨a_0_0, a_0_1, a_0_2, a_0_3, q_0, q_1, q_2, q_3, q_4, q_5, a_0_10, a_0_11, q_12, l_5⟩
set_option maxHeartbeats 4000000 in
set_option maxRecDepth 20000 in
theorem st9_crease {x1 : Int32} {x2 : Int32} {v_rowsOf : Int32} {v_columnsOf : Int32} {v_limit : List Int32} {v_worn : List Int32} {v_lastBend : List Int32} {v_keptMany : Int32} {v_done : Int32} {v_changeWas : List Int32} {v_changeIs : List Int32} {v_isKept : Bool} {v_imageRows : Int32} {v_imageColumns : Int32} {v_shapeRows : List Int32} {v_shapeColumns : List Int32} {v_row : List Int32} {v_column : List Int32} {v_below : List Int32} {v_face : List Int32} (g_0 : gm_ch v_keptMany v_done v_limit v_changeWas v_changeIs) (g_1 : gm_sh v_rowsOf v_columnsOf v_isKept v_imageRows v_imageColumns v_shapeRows v_shapeColumns v_row v_column v_below v_face v_worn v_lastBend) : wp (fX9_crease 700 x1 x2 v_rowsOf v_columnsOf v_limit v_worn v_lastBend) (fun (r : Int32) => True) := by
  obtain ⟨a_0_0, a_0_1, a_0_2, a_0_3, a_0_4, a_0_5, a_0_6, a_0_7⟩ := id g_0
  obtain ⟨a_1_0, a_1_1, a_1_2, a_1_3, a_1_4, a_1_5, a_1_6, a_1_7, a_1_8, a_1_9, a_1_10, a_1_11, a_1_12, a_1_13⟩ := id g_1
  refine wp_cu1 (sf_X9_crease (Nat.le_refl 700) a_1_0 a_1_1 a_1_2 a_1_3 a_0_4 a_1_10 a_1_11) (fun r _ => ?_)
  exact trivial
set_option maxHeartbeats 4000000 in
set_option maxRecDepth 20000 in
theorem st9_shape {x1 : Int32} {v_rowsOf : Int32} {v_columnsOf : Int32} {v_shapeRows : List Int32} {v_shapeColumns : List Int32} {v_below : List Int32} {v_isKept : Bool} {v_imageRows : Int32} {v_imageColumns : Int32} {v_row : List Int32} {v_column : List Int32} {v_face : List Int32} {v_worn : List Int32} {v_lastBend : List Int32} (g_0 : gm_sh v_rowsOf v_columnsOf v_isKept v_imageRows v_imageColumns v_shapeRows v_shapeColumns v_row v_column v_below v_face v_worn v_lastBend) : wp (fX9_shape 700 x1 v_rowsOf v_columnsOf v_shapeRows v_shapeColumns v_below) (fun (r : Int32) => True) := by
  obtain ⟨a_0_0, a_0_1, a_0_2, a_0_3, a_0_4, a_0_5, a_0_6, a_0_7, a_0_8, a_0_9, a_0_10, a_0_11, a_0_12, a_0_13⟩ := id g_0
  refine wp_cu1 (sf_X9_shape (Nat.le_refl 700) a_0_0 a_0_1 a_0_2 a_0_3 a_0_4 a_0_5 a_0_8) (fun r _ => ?_)
  exact trivial
set_option maxHeartbeats 4000000 in
set_option maxRecDepth 20000 in
theorem st9_where {x1 : Int32} {x2 : Int32} {v_rowsOf : Int32} {v_columnsOf : Int32} {v_row : List Int32} {v_column : List Int32} {v_below : List Int32} {v_face : List Int32} {v_isKept : Bool} {v_imageRows : Int32} {v_imageColumns : Int32} {v_shapeRows : List Int32} {v_shapeColumns : List Int32} {v_worn : List Int32} {v_lastBend : List Int32} (g_0 : gm_sh v_rowsOf v_columnsOf v_isKept v_imageRows v_imageColumns v_shapeRows v_shapeColumns v_row v_column v_below v_face v_worn v_lastBend) : wp (fX9_where 700 x1 x2 v_rowsOf v_columnsOf v_row v_column v_below v_face) (fun (r : Int32) => True) := by
  obtain ⟨a_0_0, a_0_1, a_0_2, a_0_3, a_0_4, a_0_5, a_0_6, a_0_7, a_0_8, a_0_9, a_0_10, a_0_11, a_0_12, a_0_13⟩ := id g_0
  refine wp_cu1 (sf_X9_where (Nat.le_refl 700) a_0_0 a_0_1 a_0_2 a_0_3 a_0_6 a_0_7 a_0_8 a_0_9) (fun r _ => ?_)
  exact trivial
set_option maxHeartbeats 4000000 in
set_option maxRecDepth 20000 in
theorem st9_pile {x1 : Int32} {x2 : Int32} {v_rowsOf : Int32} {v_columnsOf : Int32} {v_shapeRows : List Int32} {v_shapeColumns : List Int32} {v_row : List Int32} {v_column : List Int32} {v_below : List Int32} {v_isKept : Bool} {v_imageRows : Int32} {v_imageColumns : Int32} {v_face : List Int32} {v_worn : List Int32} {v_lastBend : List Int32} (g_0 : gm_sh v_rowsOf v_columnsOf v_isKept v_imageRows v_imageColumns v_shapeRows v_shapeColumns v_row v_column v_below v_face v_worn v_lastBend) : wp (fX9_pile 700 x1 x2 v_rowsOf v_columnsOf v_shapeRows v_shapeColumns v_row v_column v_below) (fun (r : Int32) => True) := by
  obtain ⟨a_0_0, a_0_1, a_0_2, a_0_3, a_0_4, a_0_5, a_0_6, a_0_7, a_0_8, a_0_9, a_0_10, a_0_11, a_0_12, a_0_13⟩ := id g_0
  refine wp_cu1 (sf_X9_pile (Nat.le_refl 700) a_0_0 a_0_1 a_0_2 a_0_3 a_0_4 a_0_5 a_0_6 a_0_7 a_0_8) (fun r _ => ?_)
  exact trivial
set_option maxHeartbeats 4000000 in
set_option maxRecDepth 20000 in
theorem st9_led {x1 : Int32} {v_rowsOf : Int32} {v_columnsOf : Int32} {v_folded : Int32} {v_wronged : Int32} {v_limit : List Int32} {v_worn : List Int32} {v_keptMany : Int32} {v_done : Int32} {v_changeWas : List Int32} {v_changeIs : List Int32} {v_isKept : Bool} {v_imageRows : Int32} {v_imageColumns : Int32} {v_shapeRows : List Int32} {v_shapeColumns : List Int32} {v_row : List Int32} {v_column : List Int32} {v_below : List Int32} {v_face : List Int32} {v_lastBend : List Int32} (g_0 : gm_ch v_keptMany v_done v_limit v_changeWas v_changeIs) (g_1 : gm_sh v_rowsOf v_columnsOf v_isKept v_imageRows v_imageColumns v_shapeRows v_shapeColumns v_row v_column v_below v_face v_worn v_lastBend) : wp (fX9_led 700 x1 v_rowsOf v_columnsOf v_folded v_wronged v_limit v_worn) (fun (r : Int32) => True) := by
  obtain ⟨a_0_0, a_0_1, a_0_2, a_0_3, a_0_4, a_0_5, a_0_6, a_0_7⟩ := id g_0
  obtain ⟨a_1_0, a_1_1, a_1_2, a_1_3, a_1_4, a_1_5, a_1_6, a_1_7, a_1_8, a_1_9, a_1_10, a_1_11, a_1_12, a_1_13⟩ := id g_1
  refine wp_cu1 (sf_X9_led (Nat.le_refl 700) a_1_0 a_1_1 a_1_2 a_1_3 a_0_4 a_1_10) (fun r _ => ?_)
  exact trivial
set_option maxHeartbeats 4000000 in
set_option maxRecDepth 20000 in
theorem st9_plan {x1 : Int32} {x2 : Int32} {v_planned : Int32} {v_planLine : List Int32} {v_planWay : List Int32} (g_0 : gm_pl v_planned v_planLine v_planWay) : wp (fX9_plan 700 x1 x2 v_planned v_planLine v_planWay) (cu4 (fun (r : Int32) (wv_planned : Int32) (wv_planLine : List Int32) (wv_planWay : List Int32) => gm_pl wv_planned wv_planLine wv_planWay)) := by
  obtain ⟨a_0_0, a_0_1, a_0_2, a_0_3⟩ := id g_0
  refine wp_cu4 (sf_X9_plan (Nat.le_refl 700) a_0_0 a_0_1 a_0_2 a_0_3) (fun r wv_planned wv_planLine wv_planWay ⟨q_0, q_1, q_2, q_3⟩ => ?_)
  exact ⟨q_0, q_1, q_2, q_3⟩
set_option maxHeartbeats 4000000 in
set_option maxRecDepth 20000 in
theorem st9_plans {x1 : Int32} {x2 : Int32} {x3 : Int32} {v_planned : Int32} {v_planLine : List Int32} {v_planWay : List Int32} {v_shelf : List Int32} {v_many : List Int32} {v_items : List Int64} {v_carried : List Int64} (g_0 : gm_pl v_planned v_planLine v_planWay) (g_1 : gm_sf v_shelf v_many v_items v_carried) : wp (fX9_plans 700 x1 x2 x3 v_planned v_planLine v_planWay v_shelf v_many v_items) (cu4 (fun (r : Int32) (wv_planned : Int32) (wv_planLine : List Int32) (wv_planWay : List Int32) => gm_pl wv_planned wv_planLine wv_planWay)) := by
  obtain ⟨a_0_0, a_0_1, a_0_2, a_0_3⟩ := id g_0
  obtain ⟨a_1_0, a_1_1, a_1_2, a_1_3, a_1_4⟩ := id g_1
  refine wp_cu4 (sf_X9_plans (Nat.le_refl 700) a_0_0 a_0_1 a_0_2 a_0_3 a_1_0 a_1_1 a_1_2 a_1_4) (fun r wv_planned wv_planLine wv_planWay ⟨q_0, q_1, q_2, q_3⟩ => ?_)
  exact ⟨q_0, q_1, q_2, q_3⟩
set_option maxHeartbeats 4000000 in
set_option maxRecDepth 20000 in
theorem st9_cost {x1 : Int32} {v_rowsOf : Int32} {v_columnsOf : Int32} {v_textMany : Int32} {v_base : Int32} {v_at : Int32} {v_ends : Int32} {v_fault : Int32} {v_opened : Int32} {v_bentMany : Int32} {v_bentWrong : Int32} {v_moreWorn : Int32} {v_planned : Int32} {v_allWrong : Int32} {v_allWorn : Int32} {v_z : Int32} {v_limit : List Int32} {v_shapeRows : List Int32} {v_shapeColumns : List Int32} {v_row : List Int32} {v_column : List Int32} {v_below : List Int32} {v_face : List Int32} {v_worn : List Int32} {v_lastBend : List Int32} {v_tape : List Int32} {v_text : List Int32} {v_names : List Int32} {v_bends : List Int32} {v_high : List Int32} {v_to : List Int32} {v_pileSize : List Int32} {v_planLine : List Int32} {v_planWay : List Int32} {v_keptMany : Int32} {v_done : Int32} {v_changeWas : List Int32} {v_changeIs : List Int32} {v_isKept : Bool} {v_imageRows : Int32} {v_imageColumns : Int32} {v_tapeMany : Int32} (g_0 : gm_ch v_keptMany v_done v_limit v_changeWas v_changeIs) (g_1 : gm_sh v_rowsOf v_columnsOf v_isKept v_imageRows v_imageColumns v_shapeRows v_shapeColumns v_row v_column v_below v_face v_worn v_lastBend) (g_2 : gm_tx v_tapeMany v_textMany v_tape v_text v_names v_bends v_high v_to v_pileSize) (g_3 : gm_pl v_planned v_planLine v_planWay) : wp (fX9_cost 700 x1 v_rowsOf v_columnsOf v_textMany v_base v_at v_ends v_fault v_opened v_bentMany v_bentWrong v_moreWorn v_planned v_allWrong v_allWorn v_z v_limit v_shapeRows v_shapeColumns v_row v_column v_below v_face v_worn v_lastBend v_tape v_text v_names v_bends v_high v_to v_pileSize v_planLine v_planWay) (cu25 (fun (r : Int32) (wv_base : Int32) (wv_at : Int32) (wv_ends : Int32) (wv_fault : Int32) (wv_opened : Int32) (wv_bentMany : Int32) (wv_bentWrong : Int32) (wv_moreWorn : Int32) (wv_allWrong : Int32) (wv_allWorn : Int32) (wv_z : Int32) (wv_shapeRows : List Int32) (wv_shapeColumns : List Int32) (wv_row : List Int32) (wv_column : List Int32) (wv_below : List Int32) (wv_face : List Int32) (wv_worn : List Int32) (wv_lastBend : List Int32) (wv_names : List Int32) (wv_bends : List Int32) (wv_high : List Int32) (wv_to : List Int32) (wv_pileSize : List Int32) => gm_sh v_rowsOf v_columnsOf v_isKept v_imageRows v_imageColumns wv_shapeRows wv_shapeColumns wv_row wv_column wv_below wv_face wv_worn wv_lastBend ∧ gm_tx v_tapeMany v_textMany v_tape v_text wv_names wv_bends wv_high wv_to wv_pileSize)) := by
  obtain ⟨a_0_0, a_0_1, a_0_2, a_0_3, a_0_4, a_0_5, a_0_6, a_0_7⟩ := id g_0
  obtain ⟨a_1_0, a_1_1, a_1_2, a_1_3, a_1_4, a_1_5, a_1_6, a_1_7, a_1_8, a_1_9, a_1_10, a_1_11, a_1_12, a_1_13⟩ := id g_1
  obtain ⟨a_2_0, a_2_1, a_2_2, a_2_3, a_2_4, a_2_5, a_2_6, a_2_7, a_2_8, a_2_9, a_2_10⟩ := id g_2
  obtain ⟨a_3_0, a_3_1, a_3_2, a_3_3⟩ := id g_3
  have n0 : (0 : Int32).toInt = 0 := by decide
  have n1 : (1 : Int32).toInt = 1 := by decide
  have n5 : (5 : Int32).toInt = 5 := by decide
  refine wp_cu25 (sf_X9_cost (u_row := v_row) (u_col := v_column) (u_sR := v_shapeRows) (u_sC := v_shapeColumns) (A := 32) (B9 := 160) (a9 := 1) (b9 := 5) (u_bel := v_below) (u_fac := v_face) (u_wo := v_worn) (u_la := v_lastBend) (Aw := 64) (Bw := 320) (Nat.le_refl 700) a_1_0 a_1_1 a_1_2 a_1_3 a_2_2 a_2_3 a_3_0 a_3_1 a_0_4 a_1_4 a_1_5 a_1_6 a_1_7 a_1_8 a_1_9 a_1_10 a_1_11 a_2_4 a_2_5 a_2_6 a_2_7 a_2_8 a_2_9 a_2_10 a_3_2 a_3_3 (fr_refl _ _ _) (fr_refl _ _ _) (fr_refl _ _ _) (fr_refl _ _ _) (by omega) (by omega) (by omega) (by omega) (fr_refl _ _ _) (fr_refl _ _ _) (fr_refl _ _ _) (fr_refl _ _ _) (by omega) (by omega)) (fun r wv_base wv_at wv_ends wv_fault wv_opened wv_bentMany wv_bentWrong wv_moreWorn wv_allWrong wv_allWorn wv_z wv_shapeRows wv_shapeColumns wv_row wv_column wv_below wv_face wv_worn wv_lastBend wv_names wv_bends wv_high wv_to wv_pileSize ⟨q_0, q_1, q_2, q_3, q_4, q_5, q_6, q_7, q_8, q_9, q_10, q_11, q_12, q_13, q_14, q_15, q_16, q_17, q_18, q_19, q_20⟩ => ?_)
  have l_0 : lv9 v_rowsOf v_columnsOf wv_shapeRows wv_shapeColumns wv_row wv_column (0 : Int32) := lv9_fr a_1_12 q_15 q_16 q_13 q_14 (by omega) (by omega) (by omega) (by omega) (i_fl a_1_0 a_1_1 a_1_2 a_1_3).2.2
  have l_5 : ¬ (v_isKept = false) → 1 ≤ v_imageRows.toInt ∧ v_imageRows.toInt ≤ 4 ∧ 1 ≤ v_imageColumns.toInt ∧ v_imageColumns.toInt ≤ 8 ∧ lv9 v_imageRows v_imageColumns wv_shapeRows wv_shapeColumns wv_row wv_column (5 : Int32) := fun hk => (by
    obtain ⟨j_0, j_1, j_2, j_3, j_4⟩ := a_1_13 hk
    exact ⟨j_0, j_1, j_2, j_3, lv9_fr j_4 q_15 q_16 q_13 q_14 (by omega) (by omega) (by omega) (by omega) (i_fl j_0 j_1 j_2 j_3).2.2⟩)
  exact ⟨⟨a_1_0, a_1_1, a_1_2, a_1_3, q_0, q_1, q_2, q_3, q_4, q_5, q_6, q_7, l_0, l_5⟩, ⟨a_2_0, a_2_1, a_2_2, a_2_3, a_2_4, a_2_5, q_8, q_9, q_10, q_11, q_12⟩⟩
set_option maxHeartbeats 4000000 in
set_option maxRecDepth 20000 in
theorem st9_lies {x1 : Int32} {x2 : Int32} {v_rowsOf : Int32} {v_columnsOf : Int32} {v_textMany : Int32} {v_base : Int32} {v_at : Int32} {v_ends : Int32} {v_fault : Int32} {v_opened : Int32} {v_bentMany : Int32} {v_bentWrong : Int32} {v_moreWorn : Int32} {v_planned : Int32} {v_allWrong : Int32} {v_allWorn : Int32} {v_z : Int32} {v_limit : List Int32} {v_shapeRows : List Int32} {v_shapeColumns : List Int32} {v_row : List Int32} {v_column : List Int32} {v_below : List Int32} {v_face : List Int32} {v_worn : List Int32} {v_lastBend : List Int32} {v_tape : List Int32} {v_text : List Int32} {v_names : List Int32} {v_bends : List Int32} {v_high : List Int32} {v_to : List Int32} {v_pileSize : List Int32} {v_planLine : List Int32} {v_planWay : List Int32} {v_keptMany : Int32} {v_done : Int32} {v_changeWas : List Int32} {v_changeIs : List Int32} {v_isKept : Bool} {v_imageRows : Int32} {v_imageColumns : Int32} {v_tapeMany : Int32} (g_0 : gm_ch v_keptMany v_done v_limit v_changeWas v_changeIs) (g_1 : gm_sh v_rowsOf v_columnsOf v_isKept v_imageRows v_imageColumns v_shapeRows v_shapeColumns v_row v_column v_below v_face v_worn v_lastBend) (g_2 : gm_tx v_tapeMany v_textMany v_tape v_text v_names v_bends v_high v_to v_pileSize) (g_3 : gm_pl v_planned v_planLine v_planWay) : wp (fX9_lies 700 x1 x2 v_rowsOf v_columnsOf v_textMany v_base v_at v_ends v_fault v_opened v_bentMany v_bentWrong v_moreWorn v_planned v_allWrong v_allWorn v_z v_limit v_shapeRows v_shapeColumns v_row v_column v_below v_face v_worn v_lastBend v_tape v_text v_names v_bends v_high v_to v_pileSize v_planLine v_planWay) (cu25 (fun (r : Int32) (wv_base : Int32) (wv_at : Int32) (wv_ends : Int32) (wv_fault : Int32) (wv_opened : Int32) (wv_bentMany : Int32) (wv_bentWrong : Int32) (wv_moreWorn : Int32) (wv_allWrong : Int32) (wv_allWorn : Int32) (wv_z : Int32) (wv_shapeRows : List Int32) (wv_shapeColumns : List Int32) (wv_row : List Int32) (wv_column : List Int32) (wv_below : List Int32) (wv_face : List Int32) (wv_worn : List Int32) (wv_lastBend : List Int32) (wv_names : List Int32) (wv_bends : List Int32) (wv_high : List Int32) (wv_to : List Int32) (wv_pileSize : List Int32) => gm_sh v_rowsOf v_columnsOf v_isKept v_imageRows v_imageColumns wv_shapeRows wv_shapeColumns wv_row wv_column wv_below wv_face wv_worn wv_lastBend ∧ gm_tx v_tapeMany v_textMany v_tape v_text wv_names wv_bends wv_high wv_to wv_pileSize)) := by
  obtain ⟨a_0_0, a_0_1, a_0_2, a_0_3, a_0_4, a_0_5, a_0_6, a_0_7⟩ := id g_0
  obtain ⟨a_1_0, a_1_1, a_1_2, a_1_3, a_1_4, a_1_5, a_1_6, a_1_7, a_1_8, a_1_9, a_1_10, a_1_11, a_1_12, a_1_13⟩ := id g_1
  obtain ⟨a_2_0, a_2_1, a_2_2, a_2_3, a_2_4, a_2_5, a_2_6, a_2_7, a_2_8, a_2_9, a_2_10⟩ := id g_2
  obtain ⟨a_3_0, a_3_1, a_3_2, a_3_3⟩ := id g_3
  have n0 : (0 : Int32).toInt = 0 := by decide
  have n1 : (1 : Int32).toInt = 1 := by decide
  have n5 : (5 : Int32).toInt = 5 := by decide
  refine wp_cu25 (sf_X9_lies (u_row := v_row) (u_col := v_column) (u_sR := v_shapeRows) (u_sC := v_shapeColumns) (A := 32) (B9 := 160) (a9 := 1) (b9 := 5) (u_bel := v_below) (u_fac := v_face) (u_wo := v_worn) (u_la := v_lastBend) (Aw := 64) (Bw := 320) (Nat.le_refl 700) a_1_0 a_1_1 a_1_2 a_1_3 a_2_2 a_2_3 a_3_0 a_3_1 a_0_4 a_1_4 a_1_5 a_1_6 a_1_7 a_1_8 a_1_9 a_1_10 a_1_11 a_2_4 a_2_5 a_2_6 a_2_7 a_2_8 a_2_9 a_2_10 a_3_2 a_3_3 (fr_refl _ _ _) (fr_refl _ _ _) (fr_refl _ _ _) (fr_refl _ _ _) (by omega) (by omega) (by omega) (by omega) (fr_refl _ _ _) (fr_refl _ _ _) (fr_refl _ _ _) (fr_refl _ _ _) (by omega) (by omega)) (fun r wv_base wv_at wv_ends wv_fault wv_opened wv_bentMany wv_bentWrong wv_moreWorn wv_allWrong wv_allWorn wv_z wv_shapeRows wv_shapeColumns wv_row wv_column wv_below wv_face wv_worn wv_lastBend wv_names wv_bends wv_high wv_to wv_pileSize ⟨q_0, q_1, q_2, q_3, q_4, q_5, q_6, q_7, q_8, q_9, q_10, q_11, q_12, q_13, q_14, q_15, q_16, q_17, q_18, q_19, q_20⟩ => ?_)
  have l_0 : lv9 v_rowsOf v_columnsOf wv_shapeRows wv_shapeColumns wv_row wv_column (0 : Int32) := lv9_fr a_1_12 q_15 q_16 q_13 q_14 (by omega) (by omega) (by omega) (by omega) (i_fl a_1_0 a_1_1 a_1_2 a_1_3).2.2
  have l_5 : ¬ (v_isKept = false) → 1 ≤ v_imageRows.toInt ∧ v_imageRows.toInt ≤ 4 ∧ 1 ≤ v_imageColumns.toInt ∧ v_imageColumns.toInt ≤ 8 ∧ lv9 v_imageRows v_imageColumns wv_shapeRows wv_shapeColumns wv_row wv_column (5 : Int32) := fun hk => (by
    obtain ⟨j_0, j_1, j_2, j_3, j_4⟩ := a_1_13 hk
    exact ⟨j_0, j_1, j_2, j_3, lv9_fr j_4 q_15 q_16 q_13 q_14 (by omega) (by omega) (by omega) (by omega) (i_fl j_0 j_1 j_2 j_3).2.2⟩)
  exact ⟨⟨a_1_0, a_1_1, a_1_2, a_1_3, q_0, q_1, q_2, q_3, q_4, q_5, q_6, q_7, l_0, l_5⟩, ⟨a_2_0, a_2_1, a_2_2, a_2_3, a_2_4, a_2_5, q_8, q_9, q_10, q_11, q_12⟩⟩
set_option maxHeartbeats 4000000 in
set_option maxRecDepth 20000 in
theorem st9_top {x1 : Int32} {x2 : Int32} {v_rowsOf : Int32} {v_columnsOf : Int32} {v_textMany : Int32} {v_base : Int32} {v_at : Int32} {v_ends : Int32} {v_fault : Int32} {v_opened : Int32} {v_bentMany : Int32} {v_bentWrong : Int32} {v_moreWorn : Int32} {v_planned : Int32} {v_allWrong : Int32} {v_allWorn : Int32} {v_z : Int32} {v_limit : List Int32} {v_shapeRows : List Int32} {v_shapeColumns : List Int32} {v_row : List Int32} {v_column : List Int32} {v_below : List Int32} {v_face : List Int32} {v_worn : List Int32} {v_lastBend : List Int32} {v_tape : List Int32} {v_text : List Int32} {v_names : List Int32} {v_bends : List Int32} {v_high : List Int32} {v_to : List Int32} {v_pileSize : List Int32} {v_planLine : List Int32} {v_planWay : List Int32} {v_keptMany : Int32} {v_done : Int32} {v_changeWas : List Int32} {v_changeIs : List Int32} {v_isKept : Bool} {v_imageRows : Int32} {v_imageColumns : Int32} {v_tapeMany : Int32} (g_0 : gm_ch v_keptMany v_done v_limit v_changeWas v_changeIs) (g_1 : gm_sh v_rowsOf v_columnsOf v_isKept v_imageRows v_imageColumns v_shapeRows v_shapeColumns v_row v_column v_below v_face v_worn v_lastBend) (g_2 : gm_tx v_tapeMany v_textMany v_tape v_text v_names v_bends v_high v_to v_pileSize) (g_3 : gm_pl v_planned v_planLine v_planWay) : wp (fX9_top 700 x1 x2 v_rowsOf v_columnsOf v_textMany v_base v_at v_ends v_fault v_opened v_bentMany v_bentWrong v_moreWorn v_planned v_allWrong v_allWorn v_z v_limit v_shapeRows v_shapeColumns v_row v_column v_below v_face v_worn v_lastBend v_tape v_text v_names v_bends v_high v_to v_pileSize v_planLine v_planWay) (cu25 (fun (r : Int32) (wv_base : Int32) (wv_at : Int32) (wv_ends : Int32) (wv_fault : Int32) (wv_opened : Int32) (wv_bentMany : Int32) (wv_bentWrong : Int32) (wv_moreWorn : Int32) (wv_allWrong : Int32) (wv_allWorn : Int32) (wv_z : Int32) (wv_shapeRows : List Int32) (wv_shapeColumns : List Int32) (wv_row : List Int32) (wv_column : List Int32) (wv_below : List Int32) (wv_face : List Int32) (wv_worn : List Int32) (wv_lastBend : List Int32) (wv_names : List Int32) (wv_bends : List Int32) (wv_high : List Int32) (wv_to : List Int32) (wv_pileSize : List Int32) => gm_sh v_rowsOf v_columnsOf v_isKept v_imageRows v_imageColumns wv_shapeRows wv_shapeColumns wv_row wv_column wv_below wv_face wv_worn wv_lastBend ∧ gm_tx v_tapeMany v_textMany v_tape v_text wv_names wv_bends wv_high wv_to wv_pileSize)) := by
  obtain ⟨a_0_0, a_0_1, a_0_2, a_0_3, a_0_4, a_0_5, a_0_6, a_0_7⟩ := id g_0
  obtain ⟨a_1_0, a_1_1, a_1_2, a_1_3, a_1_4, a_1_5, a_1_6, a_1_7, a_1_8, a_1_9, a_1_10, a_1_11, a_1_12, a_1_13⟩ := id g_1
  obtain ⟨a_2_0, a_2_1, a_2_2, a_2_3, a_2_4, a_2_5, a_2_6, a_2_7, a_2_8, a_2_9, a_2_10⟩ := id g_2
  obtain ⟨a_3_0, a_3_1, a_3_2, a_3_3⟩ := id g_3
  have n0 : (0 : Int32).toInt = 0 := by decide
  have n1 : (1 : Int32).toInt = 1 := by decide
  have n5 : (5 : Int32).toInt = 5 := by decide
  refine wp_cu25 (sf_X9_top (u_row := v_row) (u_col := v_column) (u_sR := v_shapeRows) (u_sC := v_shapeColumns) (A := 32) (B9 := 160) (a9 := 1) (b9 := 5) (u_bel := v_below) (u_fac := v_face) (u_wo := v_worn) (u_la := v_lastBend) (Aw := 64) (Bw := 320) (Nat.le_refl 700) a_1_0 a_1_1 a_1_2 a_1_3 a_2_2 a_2_3 a_3_0 a_3_1 a_0_4 a_1_4 a_1_5 a_1_6 a_1_7 a_1_8 a_1_9 a_1_10 a_1_11 a_2_4 a_2_5 a_2_6 a_2_7 a_2_8 a_2_9 a_2_10 a_3_2 a_3_3 (fr_refl _ _ _) (fr_refl _ _ _) (fr_refl _ _ _) (fr_refl _ _ _) (by omega) (by omega) (by omega) (by omega) (fr_refl _ _ _) (fr_refl _ _ _) (fr_refl _ _ _) (fr_refl _ _ _) (by omega) (by omega)) (fun r wv_base wv_at wv_ends wv_fault wv_opened wv_bentMany wv_bentWrong wv_moreWorn wv_allWrong wv_allWorn wv_z wv_shapeRows wv_shapeColumns wv_row wv_column wv_below wv_face wv_worn wv_lastBend wv_names wv_bends wv_high wv_to wv_pileSize ⟨q_0, q_1, q_2, q_3, q_4, q_5, q_6, q_7, q_8, q_9, q_10, q_11, q_12, q_13, q_14, q_15, q_16, q_17, q_18, q_19, q_20⟩ => ?_)
  have l_0 : lv9 v_rowsOf v_columnsOf wv_shapeRows wv_shapeColumns wv_row wv_column (0 : Int32) := lv9_fr a_1_12 q_15 q_16 q_13 q_14 (by omega) (by omega) (by omega) (by omega) (i_fl a_1_0 a_1_1 a_1_2 a_1_3).2.2
  have l_5 : ¬ (v_isKept = false) → 1 ≤ v_imageRows.toInt ∧ v_imageRows.toInt ≤ 4 ∧ 1 ≤ v_imageColumns.toInt ∧ v_imageColumns.toInt ≤ 8 ∧ lv9 v_imageRows v_imageColumns wv_shapeRows wv_shapeColumns wv_row wv_column (5 : Int32) := fun hk => (by
    obtain ⟨j_0, j_1, j_2, j_3, j_4⟩ := a_1_13 hk
    exact ⟨j_0, j_1, j_2, j_3, lv9_fr j_4 q_15 q_16 q_13 q_14 (by omega) (by omega) (by omega) (by omega) (i_fl j_0 j_1 j_2 j_3).2.2⟩)
  exact ⟨⟨a_1_0, a_1_1, a_1_2, a_1_3, q_0, q_1, q_2, q_3, q_4, q_5, q_6, q_7, l_0, l_5⟩, ⟨a_2_0, a_2_1, a_2_2, a_2_3, a_2_4, a_2_5, q_8, q_9, q_10, q_11, q_12⟩⟩
set_option maxHeartbeats 4000000 in
set_option maxRecDepth 20000 in
theorem st9_beside {x1 : Int32} {x2 : Int32} {v_rowsOf : Int32} {v_columnsOf : Int32} {v_textMany : Int32} {v_base : Int32} {v_at : Int32} {v_ends : Int32} {v_fault : Int32} {v_opened : Int32} {v_bentMany : Int32} {v_bentWrong : Int32} {v_moreWorn : Int32} {v_planned : Int32} {v_allWrong : Int32} {v_allWorn : Int32} {v_z : Int32} {v_limit : List Int32} {v_shapeRows : List Int32} {v_shapeColumns : List Int32} {v_row : List Int32} {v_column : List Int32} {v_below : List Int32} {v_face : List Int32} {v_worn : List Int32} {v_lastBend : List Int32} {v_tape : List Int32} {v_text : List Int32} {v_names : List Int32} {v_bends : List Int32} {v_high : List Int32} {v_to : List Int32} {v_pileSize : List Int32} {v_planLine : List Int32} {v_planWay : List Int32} {v_keptMany : Int32} {v_done : Int32} {v_changeWas : List Int32} {v_changeIs : List Int32} {v_isKept : Bool} {v_imageRows : Int32} {v_imageColumns : Int32} {v_tapeMany : Int32} (g_0 : gm_ch v_keptMany v_done v_limit v_changeWas v_changeIs) (g_1 : gm_sh v_rowsOf v_columnsOf v_isKept v_imageRows v_imageColumns v_shapeRows v_shapeColumns v_row v_column v_below v_face v_worn v_lastBend) (g_2 : gm_tx v_tapeMany v_textMany v_tape v_text v_names v_bends v_high v_to v_pileSize) (g_3 : gm_pl v_planned v_planLine v_planWay) : wp (fX9_beside 700 x1 x2 v_rowsOf v_columnsOf v_textMany v_base v_at v_ends v_fault v_opened v_bentMany v_bentWrong v_moreWorn v_planned v_allWrong v_allWorn v_z v_limit v_shapeRows v_shapeColumns v_row v_column v_below v_face v_worn v_lastBend v_tape v_text v_names v_bends v_high v_to v_pileSize v_planLine v_planWay) (cu25 (fun (r : Int32) (wv_base : Int32) (wv_at : Int32) (wv_ends : Int32) (wv_fault : Int32) (wv_opened : Int32) (wv_bentMany : Int32) (wv_bentWrong : Int32) (wv_moreWorn : Int32) (wv_allWrong : Int32) (wv_allWorn : Int32) (wv_z : Int32) (wv_shapeRows : List Int32) (wv_shapeColumns : List Int32) (wv_row : List Int32) (wv_column : List Int32) (wv_below : List Int32) (wv_face : List Int32) (wv_worn : List Int32) (wv_lastBend : List Int32) (wv_names : List Int32) (wv_bends : List Int32) (wv_high : List Int32) (wv_to : List Int32) (wv_pileSize : List Int32) => gm_sh v_rowsOf v_columnsOf v_isKept v_imageRows v_imageColumns wv_shapeRows wv_shapeColumns wv_row wv_column wv_below wv_face wv_worn wv_lastBend ∧ gm_tx v_tapeMany v_textMany v_tape v_text wv_names wv_bends wv_high wv_to wv_pileSize)) := by
  obtain ⟨a_0_0, a_0_1, a_0_2, a_0_3, a_0_4, a_0_5, a_0_6, a_0_7⟩ := id g_0
  obtain ⟨a_1_0, a_1_1, a_1_2, a_1_3, a_1_4, a_1_5, a_1_6, a_1_7, a_1_8, a_1_9, a_1_10, a_1_11, a_1_12, a_1_13⟩ := id g_1
  obtain ⟨a_2_0, a_2_1, a_2_2, a_2_3, a_2_4, a_2_5, a_2_6, a_2_7, a_2_8, a_2_9, a_2_10⟩ := id g_2
  obtain ⟨a_3_0, a_3_1, a_3_2, a_3_3⟩ := id g_3
  have n0 : (0 : Int32).toInt = 0 := by decide
  have n1 : (1 : Int32).toInt = 1 := by decide
  have n5 : (5 : Int32).toInt = 5 := by decide
  refine wp_cu25 (sf_X9_beside (u_row := v_row) (u_col := v_column) (u_sR := v_shapeRows) (u_sC := v_shapeColumns) (A := 32) (B9 := 160) (a9 := 1) (b9 := 5) (u_bel := v_below) (u_fac := v_face) (u_wo := v_worn) (u_la := v_lastBend) (Aw := 64) (Bw := 320) (Nat.le_refl 700) a_1_0 a_1_1 a_1_2 a_1_3 a_2_2 a_2_3 a_3_0 a_3_1 a_0_4 a_1_4 a_1_5 a_1_6 a_1_7 a_1_8 a_1_9 a_1_10 a_1_11 a_2_4 a_2_5 a_2_6 a_2_7 a_2_8 a_2_9 a_2_10 a_3_2 a_3_3 (fr_refl _ _ _) (fr_refl _ _ _) (fr_refl _ _ _) (fr_refl _ _ _) (by omega) (by omega) (by omega) (by omega) (fr_refl _ _ _) (fr_refl _ _ _) (fr_refl _ _ _) (fr_refl _ _ _) (by omega) (by omega)) (fun r wv_base wv_at wv_ends wv_fault wv_opened wv_bentMany wv_bentWrong wv_moreWorn wv_allWrong wv_allWorn wv_z wv_shapeRows wv_shapeColumns wv_row wv_column wv_below wv_face wv_worn wv_lastBend wv_names wv_bends wv_high wv_to wv_pileSize ⟨q_0, q_1, q_2, q_3, q_4, q_5, q_6, q_7, q_8, q_9, q_10, q_11, q_12, q_13, q_14, q_15, q_16, q_17, q_18, q_19, q_20⟩ => ?_)
  have l_0 : lv9 v_rowsOf v_columnsOf wv_shapeRows wv_shapeColumns wv_row wv_column (0 : Int32) := lv9_fr a_1_12 q_15 q_16 q_13 q_14 (by omega) (by omega) (by omega) (by omega) (i_fl a_1_0 a_1_1 a_1_2 a_1_3).2.2
  have l_5 : ¬ (v_isKept = false) → 1 ≤ v_imageRows.toInt ∧ v_imageRows.toInt ≤ 4 ∧ 1 ≤ v_imageColumns.toInt ∧ v_imageColumns.toInt ≤ 8 ∧ lv9 v_imageRows v_imageColumns wv_shapeRows wv_shapeColumns wv_row wv_column (5 : Int32) := fun hk => (by
    obtain ⟨j_0, j_1, j_2, j_3, j_4⟩ := a_1_13 hk
    exact ⟨j_0, j_1, j_2, j_3, lv9_fr j_4 q_15 q_16 q_13 q_14 (by omega) (by omega) (by omega) (by omega) (i_fl j_0 j_1 j_2 j_3).2.2⟩)
  exact ⟨⟨a_1_0, a_1_1, a_1_2, a_1_3, q_0, q_1, q_2, q_3, q_4, q_5, q_6, q_7, l_0, l_5⟩, ⟨a_2_0, a_2_1, a_2_2, a_2_3, a_2_4, a_2_5, q_8, q_9, q_10, q_11, q_12⟩⟩
set_option maxHeartbeats 4000000 in
set_option maxRecDepth 20000 in
theorem st9_wished {x1 : Int32} {x2 : Int32} {v_rowsOf : Int32} {v_columnsOf : Int32} {v_textMany : Int32} {v_base : Int32} {v_at : Int32} {v_ends : Int32} {v_fault : Int32} {v_opened : Int32} {v_bentMany : Int32} {v_bentWrong : Int32} {v_moreWorn : Int32} {v_wishedField : Int32} {v_isFound : Bool} {v_bestWrong : Int32} {v_bestWorn : Int32} {v_bestMany : Int32} {v_limit : List Int32} {v_shapeRows : List Int32} {v_shapeColumns : List Int32} {v_row : List Int32} {v_column : List Int32} {v_below : List Int32} {v_face : List Int32} {v_worn : List Int32} {v_lastBend : List Int32} {v_tape : List Int32} {v_text : List Int32} {v_names : List Int32} {v_bends : List Int32} {v_high : List Int32} {v_to : List Int32} {v_pileSize : List Int32} {v_way1 : List Int32} {v_bestWay : List Int32} {v_keptMany : Int32} {v_done : Int32} {v_changeWas : List Int32} {v_changeIs : List Int32} {v_isKept : Bool} {v_imageRows : Int32} {v_imageColumns : Int32} {v_tapeMany : Int32} (g_0 : gm_ch v_keptMany v_done v_limit v_changeWas v_changeIs) (g_1 : gm_sh v_rowsOf v_columnsOf v_isKept v_imageRows v_imageColumns v_shapeRows v_shapeColumns v_row v_column v_below v_face v_worn v_lastBend) (g_2 : gm_tx v_tapeMany v_textMany v_tape v_text v_names v_bends v_high v_to v_pileSize) (g_3 : gm_se v_bestMany v_way1 v_bestWay) : wp (fX9_wished 700 x1 x2 v_rowsOf v_columnsOf v_textMany v_base v_at v_ends v_fault v_opened v_bentMany v_bentWrong v_moreWorn v_wishedField v_isFound v_bestWrong v_bestWorn v_bestMany v_limit v_shapeRows v_shapeColumns v_row v_column v_below v_face v_worn v_lastBend v_tape v_text v_names v_bends v_high v_to v_pileSize v_way1 v_bestWay) (cu29 (fun (r : Int32) (wv_base : Int32) (wv_at : Int32) (wv_ends : Int32) (wv_fault : Int32) (wv_opened : Int32) (wv_bentMany : Int32) (wv_bentWrong : Int32) (wv_moreWorn : Int32) (wv_wishedField : Int32) (wv_isFound : Bool) (wv_bestWrong : Int32) (wv_bestWorn : Int32) (wv_bestMany : Int32) (wv_shapeRows : List Int32) (wv_shapeColumns : List Int32) (wv_row : List Int32) (wv_column : List Int32) (wv_below : List Int32) (wv_face : List Int32) (wv_worn : List Int32) (wv_lastBend : List Int32) (wv_names : List Int32) (wv_bends : List Int32) (wv_high : List Int32) (wv_to : List Int32) (wv_pileSize : List Int32) (wv_way1 : List Int32) (wv_bestWay : List Int32) => gm_sh v_rowsOf v_columnsOf v_isKept v_imageRows v_imageColumns wv_shapeRows wv_shapeColumns wv_row wv_column wv_below wv_face wv_worn wv_lastBend ∧ gm_tx v_tapeMany v_textMany v_tape v_text wv_names wv_bends wv_high wv_to wv_pileSize ∧ gm_se wv_bestMany wv_way1 wv_bestWay)) := by
  obtain ⟨a_0_0, a_0_1, a_0_2, a_0_3, a_0_4, a_0_5, a_0_6, a_0_7⟩ := id g_0
  obtain ⟨a_1_0, a_1_1, a_1_2, a_1_3, a_1_4, a_1_5, a_1_6, a_1_7, a_1_8, a_1_9, a_1_10, a_1_11, a_1_12, a_1_13⟩ := id g_1
  obtain ⟨a_2_0, a_2_1, a_2_2, a_2_3, a_2_4, a_2_5, a_2_6, a_2_7, a_2_8, a_2_9, a_2_10⟩ := id g_2
  obtain ⟨a_3_0, a_3_1, a_3_2, a_3_3⟩ := id g_3
  have n0 : (0 : Int32).toInt = 0 := by decide
  have n1 : (1 : Int32).toInt = 1 := by decide
  have n5 : (5 : Int32).toInt = 5 := by decide
  refine wp_cu29 (sf_X9_wished (u_row := v_row) (u_col := v_column) (u_sR := v_shapeRows) (u_sC := v_shapeColumns) (A := 32) (B9 := 160) (a9 := 1) (b9 := 5) (u_bel := v_below) (u_fac := v_face) (u_wo := v_worn) (u_la := v_lastBend) (Aw := 64) (Bw := 320) (Nat.le_refl 700) a_1_0 a_1_1 a_1_2 a_1_3 a_2_2 a_2_3 a_3_0 a_3_1 a_0_4 a_1_4 a_1_5 a_1_6 a_1_7 a_1_8 a_1_9 a_1_10 a_1_11 a_2_4 a_2_5 a_2_6 a_2_7 a_2_8 a_2_9 a_2_10 a_3_2 a_3_3 (fr_refl _ _ _) (fr_refl _ _ _) (fr_refl _ _ _) (fr_refl _ _ _) (by omega) (by omega) (by omega) (by omega) (fr_refl _ _ _) (fr_refl _ _ _) (fr_refl _ _ _) (fr_refl _ _ _) (by omega) (by omega)) (fun r wv_base wv_at wv_ends wv_fault wv_opened wv_bentMany wv_bentWrong wv_moreWorn wv_wishedField wv_isFound wv_bestWrong wv_bestWorn wv_bestMany wv_shapeRows wv_shapeColumns wv_row wv_column wv_below wv_face wv_worn wv_lastBend wv_names wv_bends wv_high wv_to wv_pileSize wv_way1 wv_bestWay ⟨q_0, q_1, q_2, q_3, q_4, q_5, q_6, q_7, q_8, q_9, q_10, q_11, q_12, q_13, q_14, q_15, q_16, q_17, q_18, q_19, q_20, q_21, q_22, q_23, q_24⟩ => ?_)
  have l_0 : lv9 v_rowsOf v_columnsOf wv_shapeRows wv_shapeColumns wv_row wv_column (0 : Int32) := lv9_fr a_1_12 q_19 q_20 q_17 q_18 (by omega) (by omega) (by omega) (by omega) (i_fl a_1_0 a_1_1 a_1_2 a_1_3).2.2
  have l_5 : ¬ (v_isKept = false) → 1 ≤ v_imageRows.toInt ∧ v_imageRows.toInt ≤ 4 ∧ 1 ≤ v_imageColumns.toInt ∧ v_imageColumns.toInt ≤ 8 ∧ lv9 v_imageRows v_imageColumns wv_shapeRows wv_shapeColumns wv_row wv_column (5 : Int32) := fun hk => (by
    obtain ⟨j_0, j_1, j_2, j_3, j_4⟩ := a_1_13 hk
    exact ⟨j_0, j_1, j_2, j_3, lv9_fr j_4 q_19 q_20 q_17 q_18 (by omega) (by omega) (by omega) (by omega) (i_fl j_0 j_1 j_2 j_3).2.2⟩)
  exact ⟨⟨a_1_0, a_1_1, a_1_2, a_1_3, q_2, q_3, q_4, q_5, q_6, q_7, q_8, q_9, l_0, l_5⟩, ⟨a_2_0, a_2_1, a_2_2, a_2_3, a_2_4, a_2_5, q_10, q_11, q_12, q_13, q_14⟩, ⟨q_0, q_1, q_15, q_16⟩⟩
set_option maxHeartbeats 4000000 in
set_option maxRecDepth 20000 in
theorem st9_right {x1 : Int32} {v_rowsOf : Int32} {v_columnsOf : Int32} {v_textMany : Int32} {v_base : Int32} {v_at : Int32} {v_ends : Int32} {v_fault : Int32} {v_opened : Int32} {v_bentMany : Int32} {v_bentWrong : Int32} {v_moreWorn : Int32} {v_wishedField : Int32} {v_isFound : Bool} {v_bestWrong : Int32} {v_bestWorn : Int32} {v_bestMany : Int32} {v_limit : List Int32} {v_shapeRows : List Int32} {v_shapeColumns : List Int32} {v_row : List Int32} {v_column : List Int32} {v_below : List Int32} {v_face : List Int32} {v_worn : List Int32} {v_lastBend : List Int32} {v_tape : List Int32} {v_text : List Int32} {v_names : List Int32} {v_bends : List Int32} {v_high : List Int32} {v_to : List Int32} {v_pileSize : List Int32} {v_way1 : List Int32} {v_bestWay : List Int32} {v_keptMany : Int32} {v_done : Int32} {v_changeWas : List Int32} {v_changeIs : List Int32} {v_isKept : Bool} {v_imageRows : Int32} {v_imageColumns : Int32} {v_tapeMany : Int32} (g_0 : gm_ch v_keptMany v_done v_limit v_changeWas v_changeIs) (g_1 : gm_sh v_rowsOf v_columnsOf v_isKept v_imageRows v_imageColumns v_shapeRows v_shapeColumns v_row v_column v_below v_face v_worn v_lastBend) (g_2 : gm_tx v_tapeMany v_textMany v_tape v_text v_names v_bends v_high v_to v_pileSize) (g_3 : gm_se v_bestMany v_way1 v_bestWay) : wp (fX9_right 700 x1 v_rowsOf v_columnsOf v_textMany v_base v_at v_ends v_fault v_opened v_bentMany v_bentWrong v_moreWorn v_wishedField v_isFound v_bestWrong v_bestWorn v_bestMany v_limit v_shapeRows v_shapeColumns v_row v_column v_below v_face v_worn v_lastBend v_tape v_text v_names v_bends v_high v_to v_pileSize v_way1 v_bestWay) (cu29 (fun (r : Int32) (wv_base : Int32) (wv_at : Int32) (wv_ends : Int32) (wv_fault : Int32) (wv_opened : Int32) (wv_bentMany : Int32) (wv_bentWrong : Int32) (wv_moreWorn : Int32) (wv_wishedField : Int32) (wv_isFound : Bool) (wv_bestWrong : Int32) (wv_bestWorn : Int32) (wv_bestMany : Int32) (wv_shapeRows : List Int32) (wv_shapeColumns : List Int32) (wv_row : List Int32) (wv_column : List Int32) (wv_below : List Int32) (wv_face : List Int32) (wv_worn : List Int32) (wv_lastBend : List Int32) (wv_names : List Int32) (wv_bends : List Int32) (wv_high : List Int32) (wv_to : List Int32) (wv_pileSize : List Int32) (wv_way1 : List Int32) (wv_bestWay : List Int32) => gm_sh v_rowsOf v_columnsOf v_isKept v_imageRows v_imageColumns wv_shapeRows wv_shapeColumns wv_row wv_column wv_below wv_face wv_worn wv_lastBend ∧ gm_tx v_tapeMany v_textMany v_tape v_text wv_names wv_bends wv_high wv_to wv_pileSize ∧ gm_se wv_bestMany wv_way1 wv_bestWay)) := by
  obtain ⟨a_0_0, a_0_1, a_0_2, a_0_3, a_0_4, a_0_5, a_0_6, a_0_7⟩ := id g_0
  obtain ⟨a_1_0, a_1_1, a_1_2, a_1_3, a_1_4, a_1_5, a_1_6, a_1_7, a_1_8, a_1_9, a_1_10, a_1_11, a_1_12, a_1_13⟩ := id g_1
  obtain ⟨a_2_0, a_2_1, a_2_2, a_2_3, a_2_4, a_2_5, a_2_6, a_2_7, a_2_8, a_2_9, a_2_10⟩ := id g_2
  obtain ⟨a_3_0, a_3_1, a_3_2, a_3_3⟩ := id g_3
  have n0 : (0 : Int32).toInt = 0 := by decide
  have n1 : (1 : Int32).toInt = 1 := by decide
  have n5 : (5 : Int32).toInt = 5 := by decide
  refine wp_cu29 (sf_X9_right (u_row := v_row) (u_col := v_column) (u_sR := v_shapeRows) (u_sC := v_shapeColumns) (A := 32) (B9 := 160) (a9 := 1) (b9 := 5) (u_bel := v_below) (u_fac := v_face) (u_wo := v_worn) (u_la := v_lastBend) (Aw := 64) (Bw := 320) (Nat.le_refl 700) a_1_0 a_1_1 a_1_2 a_1_3 a_2_2 a_2_3 a_3_0 a_3_1 a_0_4 a_1_4 a_1_5 a_1_6 a_1_7 a_1_8 a_1_9 a_1_10 a_1_11 a_2_4 a_2_5 a_2_6 a_2_7 a_2_8 a_2_9 a_2_10 a_3_2 a_3_3 (fr_refl _ _ _) (fr_refl _ _ _) (fr_refl _ _ _) (fr_refl _ _ _) (by omega) (by omega) (by omega) (by omega) (fr_refl _ _ _) (fr_refl _ _ _) (fr_refl _ _ _) (fr_refl _ _ _) (by omega) (by omega)) (fun r wv_base wv_at wv_ends wv_fault wv_opened wv_bentMany wv_bentWrong wv_moreWorn wv_wishedField wv_isFound wv_bestWrong wv_bestWorn wv_bestMany wv_shapeRows wv_shapeColumns wv_row wv_column wv_below wv_face wv_worn wv_lastBend wv_names wv_bends wv_high wv_to wv_pileSize wv_way1 wv_bestWay ⟨q_0, q_1, q_2, q_3, q_4, q_5, q_6, q_7, q_8, q_9, q_10, q_11, q_12, q_13, q_14, q_15, q_16, q_17, q_18, q_19, q_20, q_21, q_22, q_23, q_24⟩ => ?_)
  have l_0 : lv9 v_rowsOf v_columnsOf wv_shapeRows wv_shapeColumns wv_row wv_column (0 : Int32) := lv9_fr a_1_12 q_19 q_20 q_17 q_18 (by omega) (by omega) (by omega) (by omega) (i_fl a_1_0 a_1_1 a_1_2 a_1_3).2.2
  have l_5 : ¬ (v_isKept = false) → 1 ≤ v_imageRows.toInt ∧ v_imageRows.toInt ≤ 4 ∧ 1 ≤ v_imageColumns.toInt ∧ v_imageColumns.toInt ≤ 8 ∧ lv9 v_imageRows v_imageColumns wv_shapeRows wv_shapeColumns wv_row wv_column (5 : Int32) := fun hk => (by
    obtain ⟨j_0, j_1, j_2, j_3, j_4⟩ := a_1_13 hk
    exact ⟨j_0, j_1, j_2, j_3, lv9_fr j_4 q_19 q_20 q_17 q_18 (by omega) (by omega) (by omega) (by omega) (i_fl j_0 j_1 j_2 j_3).2.2⟩)
  exact ⟨⟨a_1_0, a_1_1, a_1_2, a_1_3, q_2, q_3, q_4, q_5, q_6, q_7, q_8, q_9, l_0, l_5⟩, ⟨a_2_0, a_2_1, a_2_2, a_2_3, a_2_4, a_2_5, q_10, q_11, q_12, q_13, q_14⟩, ⟨q_0, q_1, q_15, q_16⟩⟩
set_option maxHeartbeats 4000000 in
set_option maxRecDepth 20000 in
theorem st9_wind {x1 : Int32} {x2 : Int32} {x3 : Int32} {v_rowsOf : Int32} {v_columnsOf : Int32} {v_textMany : Int32} {v_base : Int32} {v_at : Int32} {v_ends : Int32} {v_fault : Int32} {v_opened : Int32} {v_bentMany : Int32} {v_bentWrong : Int32} {v_moreWorn : Int32} {v_planned : Int32} {v_allWrong : Int32} {v_allWorn : Int32} {v_z : Int32} {v_limit : List Int32} {v_shapeRows : List Int32} {v_shapeColumns : List Int32} {v_row : List Int32} {v_column : List Int32} {v_below : List Int32} {v_face : List Int32} {v_worn : List Int32} {v_lastBend : List Int32} {v_tape : List Int32} {v_text : List Int32} {v_names : List Int32} {v_bends : List Int32} {v_high : List Int32} {v_to : List Int32} {v_pileSize : List Int32} {v_planLine : List Int32} {v_planWay : List Int32} {v_keptMany : Int32} {v_done : Int32} {v_changeWas : List Int32} {v_changeIs : List Int32} {v_isKept : Bool} {v_imageRows : Int32} {v_imageColumns : Int32} {v_tapeMany : Int32} (g_0 : gm_ch v_keptMany v_done v_limit v_changeWas v_changeIs) (g_1 : gm_sh v_rowsOf v_columnsOf v_isKept v_imageRows v_imageColumns v_shapeRows v_shapeColumns v_row v_column v_below v_face v_worn v_lastBend) (g_2 : gm_tx v_tapeMany v_textMany v_tape v_text v_names v_bends v_high v_to v_pileSize) (g_3 : gm_pl v_planned v_planLine v_planWay) : wp (fX9_wind 700 x1 x2 x3 v_rowsOf v_columnsOf v_textMany v_base v_at v_ends v_fault v_opened v_bentMany v_bentWrong v_moreWorn v_planned v_allWrong v_allWorn v_z v_limit v_shapeRows v_shapeColumns v_row v_column v_below v_face v_worn v_lastBend v_tape v_text v_names v_bends v_high v_to v_pileSize v_planLine v_planWay) (cu25 (fun (r : Int32) (wv_base : Int32) (wv_at : Int32) (wv_ends : Int32) (wv_fault : Int32) (wv_opened : Int32) (wv_bentMany : Int32) (wv_bentWrong : Int32) (wv_moreWorn : Int32) (wv_allWrong : Int32) (wv_allWorn : Int32) (wv_z : Int32) (wv_shapeRows : List Int32) (wv_shapeColumns : List Int32) (wv_row : List Int32) (wv_column : List Int32) (wv_below : List Int32) (wv_face : List Int32) (wv_worn : List Int32) (wv_lastBend : List Int32) (wv_names : List Int32) (wv_bends : List Int32) (wv_high : List Int32) (wv_to : List Int32) (wv_pileSize : List Int32) => gm_sh v_rowsOf v_columnsOf v_isKept v_imageRows v_imageColumns wv_shapeRows wv_shapeColumns wv_row wv_column wv_below wv_face wv_worn wv_lastBend ∧ gm_tx v_tapeMany v_textMany v_tape v_text wv_names wv_bends wv_high wv_to wv_pileSize)) := by
  obtain ⟨a_0_0, a_0_1, a_0_2, a_0_3, a_0_4, a_0_5, a_0_6, a_0_7⟩ := id g_0
  obtain ⟨a_1_0, a_1_1, a_1_2, a_1_3, a_1_4, a_1_5, a_1_6, a_1_7, a_1_8, a_1_9, a_1_10, a_1_11, a_1_12, a_1_13⟩ := id g_1
  obtain ⟨a_2_0, a_2_1, a_2_2, a_2_3, a_2_4, a_2_5, a_2_6, a_2_7, a_2_8, a_2_9, a_2_10⟩ := id g_2
  obtain ⟨a_3_0, a_3_1, a_3_2, a_3_3⟩ := id g_3
  have n0 : (0 : Int32).toInt = 0 := by decide
  have n1 : (1 : Int32).toInt = 1 := by decide
  have n5 : (5 : Int32).toInt = 5 := by decide
  refine wp_cu25 (sf_X9_wind (u_row := v_row) (u_col := v_column) (u_sR := v_shapeRows) (u_sC := v_shapeColumns) (A := 32) (B9 := 160) (a9 := 1) (b9 := 5) (u_bel := v_below) (u_fac := v_face) (u_wo := v_worn) (u_la := v_lastBend) (Aw := 64) (Bw := 320) (Nat.le_refl 700) a_1_0 a_1_1 a_1_2 a_1_3 a_2_2 a_2_3 a_3_0 a_3_1 a_0_4 a_1_4 a_1_5 a_1_6 a_1_7 a_1_8 a_1_9 a_1_10 a_1_11 a_2_4 a_2_5 a_2_6 a_2_7 a_2_8 a_2_9 a_2_10 a_3_2 a_3_3 (fr_refl _ _ _) (fr_refl _ _ _) (fr_refl _ _ _) (fr_refl _ _ _) (by omega) (by omega) (by omega) (by omega) (fr_refl _ _ _) (fr_refl _ _ _) (fr_refl _ _ _) (fr_refl _ _ _) (by omega) (by omega)) (fun r wv_base wv_at wv_ends wv_fault wv_opened wv_bentMany wv_bentWrong wv_moreWorn wv_allWrong wv_allWorn wv_z wv_shapeRows wv_shapeColumns wv_row wv_column wv_below wv_face wv_worn wv_lastBend wv_names wv_bends wv_high wv_to wv_pileSize ⟨q_0, q_1, q_2, q_3, q_4, q_5, q_6, q_7, q_8, q_9, q_10, q_11, q_12, q_13, q_14, q_15, q_16, q_17, q_18, q_19, q_20⟩ => ?_)
  have l_0 : lv9 v_rowsOf v_columnsOf wv_shapeRows wv_shapeColumns wv_row wv_column (0 : Int32) := lv9_fr a_1_12 q_15 q_16 q_13 q_14 (by omega) (by omega) (by omega) (by omega) (i_fl a_1_0 a_1_1 a_1_2 a_1_3).2.2
  have l_5 : ¬ (v_isKept = false) → 1 ≤ v_imageRows.toInt ∧ v_imageRows.toInt ≤ 4 ∧ 1 ≤ v_imageColumns.toInt ∧ v_imageColumns.toInt ≤ 8 ∧ lv9 v_imageRows v_imageColumns wv_shapeRows wv_shapeColumns wv_row wv_column (5 : Int32) := fun hk => (by
    obtain ⟨j_0, j_1, j_2, j_3, j_4⟩ := a_1_13 hk
    exact ⟨j_0, j_1, j_2, j_3, lv9_fr j_4 q_15 q_16 q_13 q_14 (by omega) (by omega) (by omega) (by omega) (i_fl j_0 j_1 j_2 j_3).2.2⟩)
  exact ⟨⟨a_1_0, a_1_1, a_1_2, a_1_3, q_0, q_1, q_2, q_3, q_4, q_5, q_6, q_7, l_0, l_5⟩, ⟨a_2_0, a_2_1, a_2_2, a_2_3, a_2_4, a_2_5, q_8, q_9, q_10, q_11, q_12⟩⟩
set_option maxHeartbeats 4000000 in
set_option maxRecDepth 20000 in
theorem st9_crosses {x1 : Int32} {x2 : Int32} {v_order1 : List Int32} {v_placeIn : List Int32} (g_0 : gm_or v_order1 v_placeIn) : wp (fX9_crosses 700 x1 x2 v_order1 v_placeIn) (cu3 (fun (r : Int32) (wv_order1 : List Int32) (wv_placeIn : List Int32) => gm_or wv_order1 wv_placeIn)) := by
  obtain ⟨a_0_0, a_0_1⟩ := id g_0
  refine wp_cu3 (sf_X9_crosses (Nat.le_refl 700) a_0_0 a_0_1) (fun r wv_order1 wv_placeIn ⟨q_0, q_1⟩ => ?_)
  exact ⟨q_0, q_1⟩
set_option maxHeartbeats 4000000 in
set_option maxRecDepth 20000 in
theorem st9_orders {x1 : Int32} {x2 : Int32} {v_soughtBy : Int32} {v_sought : Int32} {v_soughtAt : Int32} {v_foundMany : Int32} {v_foundOrder : Int32} {v_order1 : List Int32} {v_placeIn : List Int32} (g_0 : gm_or v_order1 v_placeIn) : wp (fX9_orders 700 x1 x2 v_soughtBy v_sought v_soughtAt v_foundMany v_foundOrder v_order1 v_placeIn) (cu8 (fun (r : Int32) (wv_soughtBy : Int32) (wv_sought : Int32) (wv_soughtAt : Int32) (wv_foundMany : Int32) (wv_foundOrder : Int32) (wv_order1 : List Int32) (wv_placeIn : List Int32) => gm_or wv_order1 wv_placeIn)) := by
  obtain ⟨a_0_0, a_0_1⟩ := id g_0
  refine wp_cu8 (sf_X9_orders (Nat.le_refl 700) a_0_0 a_0_1) (fun r wv_soughtBy wv_sought wv_soughtAt wv_foundMany wv_foundOrder wv_order1 wv_placeIn ⟨q_0, q_1⟩ => ?_)
  exact ⟨q_0, q_1⟩
set_option maxHeartbeats 4000000 in
set_option maxRecDepth 20000 in
theorem st9_bends {x1 : Int32} {x2 : Int32} {v_order1 : List Int32} {v_placeIn : List Int32} (g_0 : gm_or v_order1 v_placeIn) : wp (fX9_bends 700 x1 x2 v_order1 v_placeIn) (cu3 (fun (r : Int32) (wv_order1 : List Int32) (wv_placeIn : List Int32) => gm_or wv_order1 wv_placeIn)) := by
  obtain ⟨a_0_0, a_0_1⟩ := id g_0
  refine wp_cu3 (sf_X9_bends (Nat.le_refl 700) a_0_0 a_0_1) (fun r wv_order1 wv_placeIn ⟨q_0, q_1⟩ => ?_)
  exact ⟨q_0, q_1⟩
set_option maxHeartbeats 4000000 in
set_option maxRecDepth 20000 in
theorem st9_by {x1 : Int32} {x2 : Int32} {x3 : Int32} {v_soughtBy : Int32} {v_sought : Int32} {v_soughtAt : Int32} {v_foundMany : Int32} {v_foundOrder : Int32} {v_order1 : List Int32} {v_placeIn : List Int32} (g_0 : gm_or v_order1 v_placeIn) : wp (fX9_by 700 x1 x2 x3 v_soughtBy v_sought v_soughtAt v_foundMany v_foundOrder v_order1 v_placeIn) (cu8 (fun (r : Int32) (wv_soughtBy : Int32) (wv_sought : Int32) (wv_soughtAt : Int32) (wv_foundMany : Int32) (wv_foundOrder : Int32) (wv_order1 : List Int32) (wv_placeIn : List Int32) => gm_or wv_order1 wv_placeIn)) := by
  obtain ⟨a_0_0, a_0_1⟩ := id g_0
  refine wp_cu8 (sf_X9_by (Nat.le_refl 700) a_0_0 a_0_1) (fun r wv_soughtBy wv_sought wv_soughtAt wv_foundMany wv_foundOrder wv_order1 wv_placeIn ⟨q_0, q_1⟩ => ?_)
  exact ⟨q_0, q_1⟩
set_option maxHeartbeats 4000000 in
set_option maxRecDepth 20000 in
theorem st9_with {x1 : Int32} {x2 : Int32} {v_soughtBy : Int32} {v_sought : Int32} {v_soughtAt : Int32} {v_foundMany : Int32} {v_foundOrder : Int32} {v_order1 : List Int32} {v_placeIn : List Int32} (g_0 : gm_or v_order1 v_placeIn) : wp (fX9_with 700 x1 x2 v_soughtBy v_sought v_soughtAt v_foundMany v_foundOrder v_order1 v_placeIn) (cu8 (fun (r : Int32) (wv_soughtBy : Int32) (wv_sought : Int32) (wv_soughtAt : Int32) (wv_foundMany : Int32) (wv_foundOrder : Int32) (wv_order1 : List Int32) (wv_placeIn : List Int32) => gm_or wv_order1 wv_placeIn)) := by
  obtain ⟨a_0_0, a_0_1⟩ := id g_0
  refine wp_cu8 (sf_X9_with (Nat.le_refl 700) a_0_0 a_0_1) (fun r wv_soughtBy wv_sought wv_soughtAt wv_foundMany wv_foundOrder wv_order1 wv_placeIn ⟨q_0, q_1⟩ => ?_)
  exact ⟨q_0, q_1⟩
set_option maxHeartbeats 4000000 in
set_option maxRecDepth 20000 in
theorem st9_image {v_rowsOf : Int32} {v_columnsOf : Int32} {v_folded : Int32} {v_wronged : Int32} {v_isKept : Bool} {v_imageRows : Int32} {v_imageColumns : Int32} {v_imageFolded : Int32} {v_imageWronged : Int32} {v_shapeRows : List Int32} {v_shapeColumns : List Int32} {v_row : List Int32} {v_column : List Int32} {v_below : List Int32} {v_face : List Int32} {v_worn : List Int32} {v_lastBend : List Int32} (g_0 : gm_sh v_rowsOf v_columnsOf v_isKept v_imageRows v_imageColumns v_shapeRows v_shapeColumns v_row v_column v_below v_face v_worn v_lastBend) : wp (fX9_image 700 v_rowsOf v_columnsOf v_folded v_wronged v_isKept v_imageRows v_imageColumns v_imageFolded v_imageWronged v_shapeRows v_shapeColumns v_row v_column v_below v_face v_worn v_lastBend) (cu14 (fun (r : Int32) (wv_isKept : Bool) (wv_imageRows : Int32) (wv_imageColumns : Int32) (wv_imageFolded : Int32) (wv_imageWronged : Int32) (wv_shapeRows : List Int32) (wv_shapeColumns : List Int32) (wv_row : List Int32) (wv_column : List Int32) (wv_below : List Int32) (wv_face : List Int32) (wv_worn : List Int32) (wv_lastBend : List Int32) => gm_sh v_rowsOf v_columnsOf wv_isKept wv_imageRows wv_imageColumns wv_shapeRows wv_shapeColumns wv_row wv_column wv_below wv_face wv_worn wv_lastBend)) := by
  obtain ⟨a_0_0, a_0_1, a_0_2, a_0_3, a_0_4, a_0_5, a_0_6, a_0_7, a_0_8, a_0_9, a_0_10, a_0_11, a_0_12, a_0_13⟩ := id g_0
  have n0 : (0 : Int32).toInt = 0 := by decide
  have n1 : (1 : Int32).toInt = 1 := by decide
  have n5 : (5 : Int32).toInt = 5 := by decide
  refine wp_cu14 (sf_X9_image (u_row := v_row) (u_col := v_column) (u_sR := v_shapeRows) (u_sC := v_shapeColumns) (A := 160) (B9 := 192) (a9 := 5) (b9 := 6) (u_bel := v_below) (u_fac := v_face) (u_wo := v_worn) (u_la := v_lastBend) (Aw := 320) (Bw := 384) (Nat.le_refl 700) a_0_0 a_0_1 a_0_2 a_0_3 a_0_4 a_0_5 a_0_6 a_0_7 a_0_8 a_0_9 a_0_10 a_0_11 (fr_refl _ _ _) (fr_refl _ _ _) (fr_refl _ _ _) (fr_refl _ _ _) (by omega) (by omega) (by omega) (by omega) (fr_refl _ _ _) (fr_refl _ _ _) (fr_refl _ _ _) (fr_refl _ _ _) (by omega) (by omega) a_0_12) (fun r wv_isKept wv_imageRows wv_imageColumns wv_imageFolded wv_imageWronged wv_shapeRows wv_shapeColumns wv_row wv_column wv_below wv_face wv_worn wv_lastBend ⟨q_0, q_1, q_2, q_3, q_4, q_5, q_6, q_7, q_8, q_9, q_10, q_11, q_12, q_13, q_14, q_15, q_16, q_17, q_18, q_19, q_20⟩ => ?_)
  have l_0 : lv9 v_rowsOf v_columnsOf wv_shapeRows wv_shapeColumns wv_row wv_column (0 : Int32) := lv9_fr a_0_12 q_10 q_11 q_8 q_9 (by omega) (by omega) (by omega) (by omega) (i_fl a_0_0 a_0_1 a_0_2 a_0_3).2.2
  exact ⟨a_0_0, a_0_1, a_0_2, a_0_3, q_0, q_1, q_2, q_3, q_4, q_5, q_6, q_7, l_0, (fun _ => ⟨q_17, q_18, q_19, q_20, q_16⟩)⟩
set_option maxHeartbeats 4000000 in
set_option maxRecDepth 20000 in
theorem st9_back {v_rowsOf : Int32} {v_columnsOf : Int32} {v_folded : Int32} {v_wronged : Int32} {v_isKept : Bool} {v_imageRows : Int32} {v_imageColumns : Int32} {v_imageFolded : Int32} {v_imageWronged : Int32} {v_shapeRows : List Int32} {v_shapeColumns : List Int32} {v_row : List Int32} {v_column : List Int32} {v_below : List Int32} {v_face : List Int32} {v_worn : List Int32} {v_lastBend : List Int32} (g_0 : gm_sh v_rowsOf v_columnsOf v_isKept v_imageRows v_imageColumns v_shapeRows v_shapeColumns v_row v_column v_below v_face v_worn v_lastBend) : wp (fX9_back 700 v_rowsOf v_columnsOf v_folded v_wronged v_isKept v_imageRows v_imageColumns v_imageFolded v_imageWronged v_shapeRows v_shapeColumns v_row v_column v_below v_face v_worn v_lastBend) (cu13 (fun (r : Int32) (wv_rowsOf : Int32) (wv_columnsOf : Int32) (wv_folded : Int32) (wv_wronged : Int32) (wv_shapeRows : List Int32) (wv_shapeColumns : List Int32) (wv_row : List Int32) (wv_column : List Int32) (wv_below : List Int32) (wv_face : List Int32) (wv_worn : List Int32) (wv_lastBend : List Int32) => gm_sh wv_rowsOf wv_columnsOf v_isKept v_imageRows v_imageColumns wv_shapeRows wv_shapeColumns wv_row wv_column wv_below wv_face wv_worn wv_lastBend)) := by
  obtain ⟨a_0_0, a_0_1, a_0_2, a_0_3, a_0_4, a_0_5, a_0_6, a_0_7, a_0_8, a_0_9, a_0_10, a_0_11, a_0_12, a_0_13⟩ := id g_0
  have n0 : (0 : Int32).toInt = 0 := by decide
  have n1 : (1 : Int32).toInt = 1 := by decide
  have n5 : (5 : Int32).toInt = 5 := by decide
  by_cases hK : v_isKept = false
  · subst hK
    exact wp_of (bk_f _ _ _ _ _ _ _ _ _ _ _ _ _ _ _ _ _) (wp_so13 g_0)
  · obtain ⟨k_0, k_1, k_2, k_3, k_4⟩ := a_0_13 hK
    refine wp_cu13 (sf_X9_back (u_row := v_row) (u_col := v_column) (u_sR := v_shapeRows) (u_sC := v_shapeColumns) (A := 0) (B9 := 32) (a9 := 0) (b9 := 1) (u_bel := v_below) (u_fac := v_face) (u_wo := v_worn) (u_la := v_lastBend) (Aw := 0) (Bw := 64) (Nat.le_refl 700) a_0_0 a_0_1 a_0_2 a_0_3 a_0_4 a_0_5 a_0_6 a_0_7 a_0_8 a_0_9 a_0_10 a_0_11 (fr_refl _ _ _) (fr_refl _ _ _) (fr_refl _ _ _) (fr_refl _ _ _) (by omega) (by omega) (by omega) (by omega) (fr_refl _ _ _) (fr_refl _ _ _) (fr_refl _ _ _) (fr_refl _ _ _) (by omega) (by omega) hK k_0 k_1 k_2 k_3 k_4) (fun r wv_rowsOf wv_columnsOf wv_folded wv_wronged wv_shapeRows wv_shapeColumns wv_row wv_column wv_below wv_face wv_worn wv_lastBend ⟨q_0, q_1, q_2, q_3, q_4, q_5, q_6, q_7, q_8, q_9, q_10, q_11, q_12, q_13, q_14, q_15, q_16, q_17, q_18, q_19, q_20⟩ => ?_)
    have l_5 : ¬ (v_isKept = false) → 1 ≤ v_imageRows.toInt ∧ v_imageRows.toInt ≤ 4 ∧ 1 ≤ v_imageColumns.toInt ∧ v_imageColumns.toInt ≤ 8 ∧ lv9 v_imageRows v_imageColumns wv_shapeRows wv_shapeColumns wv_row wv_column (5 : Int32) := fun hk => (by
      obtain ⟨j_0, j_1, j_2, j_3, j_4⟩ := a_0_13 hk
      exact ⟨j_0, j_1, j_2, j_3, lv9_fr j_4 q_14 q_15 q_12 q_13 (by omega) (by omega) (by omega) (by omega) (i_fl j_0 j_1 j_2 j_3).2.2⟩)
    exact ⟨q_0, q_1, q_2, q_3, q_4, q_5, q_6, q_7, q_8, q_9, q_10, q_11, q_20, l_5⟩
set_option maxHeartbeats 4000000 in
set_option maxRecDepth 20000 in
theorem st9_undo {v_done : Int32} {v_limit : List Int32} {v_changeWas : List Int32} {v_keptMany : Int32} {v_changeIs : List Int32} (g_0 : gm_ch v_keptMany v_done v_limit v_changeWas v_changeIs) : wp (fX9_undo 700 v_done v_limit v_changeWas) (cu3 (fun (r : Int32) (wv_done : Int32) (wv_limit : List Int32) => gm_ch v_keptMany wv_done wv_limit v_changeWas v_changeIs)) := by
  obtain ⟨a_0_0, a_0_1, a_0_2, a_0_3, a_0_4, a_0_5, a_0_6, a_0_7⟩ := id g_0
  refine wp_cu3 (sf_X9_undo (Nat.le_refl 700) a_0_2 a_0_3 a_0_4 a_0_5) (fun r wv_done wv_limit ⟨q_0, q_1, q_2, q_3⟩ => ?_)
  exact ⟨a_0_0, a_0_1, q_0, q_1, q_2, a_0_5, a_0_6, (by omega)⟩
set_option maxHeartbeats 4000000 in
set_option maxRecDepth 20000 in
theorem st9_redo {v_keptMany : Int32} {v_done : Int32} {v_limit : List Int32} {v_changeIs : List Int32} {v_changeWas : List Int32} (g_0 : gm_ch v_keptMany v_done v_limit v_changeWas v_changeIs) : wp (fX9_redo 700 v_keptMany v_done v_limit v_changeIs) (cu3 (fun (r : Int32) (wv_done : Int32) (wv_limit : List Int32) => gm_ch v_keptMany wv_done wv_limit v_changeWas v_changeIs)) := by
  obtain ⟨a_0_0, a_0_1, a_0_2, a_0_3, a_0_4, a_0_5, a_0_6, a_0_7⟩ := id g_0
  refine wp_cu3 (sf_X9_redo (Nat.le_refl 700) a_0_0 a_0_1 a_0_2 a_0_3 a_0_4 a_0_6 a_0_7) (fun r wv_done wv_limit ⟨q_0, q_1, q_2, q_3⟩ => ?_)
  exact ⟨a_0_0, a_0_1, q_0, q_1, q_2, a_0_5, a_0_6, q_3⟩
set_option maxHeartbeats 4000000 in
set_option maxRecDepth 20000 in
theorem st9_body {x1 : Int32} {v_bodies : Int32} {v_bodyKind : List Int32} {v_trace : List Int32} (g_0 : gm_bo v_bodies v_bodyKind v_trace) : wp (fX9_body 700 x1 v_bodies v_bodyKind) (cu3 (fun (r : Int32) (wv_bodies : Int32) (wv_bodyKind : List Int32) => gm_bo wv_bodies wv_bodyKind v_trace)) := by
  obtain ⟨a_0_0, a_0_1, a_0_2, a_0_3, a_0_4⟩ := id g_0
  refine wp_cu3 (sfb_X9_body a_0_0 a_0_1 a_0_2 a_0_4) (fun r wv_bodies wv_bodyKind ⟨q_0, q_1, q_2, q_3⟩ => ?_)
  exact ⟨q_0, q_1, q_2, a_0_3, q_3⟩
set_option maxHeartbeats 4000000 in
set_option maxRecDepth 20000 in
theorem st9_trace {x1 : Int32} {v_ran : Int32} {v_trace : List Int32} {v_bodies : Int32} {v_bodyKind : List Int32} (g_0 : gm_bo v_bodies v_bodyKind v_trace) : wp (fX9_trace 700 x1 v_ran v_trace) (fun (r : Int32) => True) := by
  obtain ⟨a_0_0, a_0_1, a_0_2, a_0_3, a_0_4⟩ := id g_0
  refine wp_cu1 (sf_X9_trace (Nat.le_refl 700) a_0_3) (fun r _ => ?_)
  exact trivial
set_option maxHeartbeats 4000000 in
set_option maxRecDepth 20000 in
theorem st9_keep {x1 : Int32} {x2 : Int32} {v_bodies : Int32} {v_shelf : List Int32} {v_many : List Int32} {v_bodyKind : List Int32} {v_trace : List Int32} {v_items : List Int64} {v_carried : List Int64} (g_0 : gm_bo v_bodies v_bodyKind v_trace) (g_1 : gm_sf v_shelf v_many v_items v_carried) : wp (fX9_keep 700 x1 x2 v_bodies v_shelf v_many) (cu3 (fun (r : Int32) (wv_shelf : List Int32) (wv_many : List Int32) => gm_sf wv_shelf wv_many v_items v_carried)) := by
  obtain ⟨a_0_0, a_0_1, a_0_2, a_0_3, a_0_4⟩ := id g_0
  obtain ⟨a_1_0, a_1_1, a_1_2, a_1_3, a_1_4⟩ := id g_1
  refine wp_cu3 (sf_X9_keep (Nat.le_refl 700) a_0_0 a_0_1 a_1_0 a_1_1 a_1_4) (fun r wv_shelf wv_many ⟨q_0, q_1, q_2⟩ => ?_)
  exact ⟨q_0, q_1, a_1_2, a_1_3, q_2⟩
set_option maxHeartbeats 4000000 in
set_option maxRecDepth 20000 in
theorem st9_row {x1 : Int32} {x2 : Int32} {x3 : Int32} {v_shelf : List Int32} {v_many : List Int32} {v_items : List Int64} {v_carried : List Int64} (g_0 : gm_sf v_shelf v_many v_items v_carried) : wp (fX9_row 700 x1 x2 x3 v_shelf v_many v_items) (cu4 (fun (r : Int32) (wv_shelf : List Int32) (wv_many : List Int32) (wv_items : List Int64) => gm_sf wv_shelf wv_many wv_items v_carried)) := by
  obtain ⟨a_0_0, a_0_1, a_0_2, a_0_3, a_0_4⟩ := id g_0
  refine wp_cu4 (sf_X9_row (Nat.le_refl 700) a_0_0 a_0_1 a_0_2 a_0_4) (fun r wv_shelf wv_many wv_items ⟨q_0, q_1, q_2, q_3⟩ => ?_)
  exact ⟨q_0, q_1, q_2, a_0_3, q_3⟩
set_option maxHeartbeats 4000000 in
set_option maxRecDepth 20000 in
theorem st9_put {x1 : Int32} {x2 : Int32} {x3 : Int64} {v_shelf : List Int32} {v_many : List Int32} {v_items : List Int64} {v_carried : List Int64} (g_0 : gm_sf v_shelf v_many v_items v_carried) : wp (fX9_put 700 x1 x2 x3 v_shelf v_many v_items) (cu2 (fun (r : Int32) (wv_items : List Int64) => gm_sf v_shelf v_many wv_items v_carried)) := by
  obtain ⟨a_0_0, a_0_1, a_0_2, a_0_3, a_0_4⟩ := id g_0
  refine wp_cu2 (sf_X9_put (Nat.le_refl 700) a_0_0 a_0_1 a_0_2 a_0_4) (fun r wv_items q_0 => ?_)
  exact ⟨a_0_0, a_0_1, q_0, a_0_3, a_0_4⟩
set_option maxHeartbeats 4000000 in
set_option maxRecDepth 20000 in
theorem st9_element {x1 : Int32} {x2 : Int32} {v_shelf : List Int32} {v_many : List Int32} {v_items : List Int64} {v_carried : List Int64} (g_0 : gm_sf v_shelf v_many v_items v_carried) : wp (fX9_element 700 x1 x2 v_shelf v_many v_items) (fun (r : Int64) => True) := by
  obtain ⟨a_0_0, a_0_1, a_0_2, a_0_3, a_0_4⟩ := id g_0
  refine wp_cu1 (sf_X9_element (Nat.le_refl 700) a_0_0 a_0_1 a_0_2 a_0_4) (fun r _ => ?_)
  exact trivial
set_option maxHeartbeats 4000000 in
set_option maxRecDepth 20000 in
theorem st9_shift {x1 : Int32} {x2 : Int32} {x3 : Int32} {x4 : Int32} {x5 : Int32} {v_shelf : List Int32} {v_many : List Int32} {v_items : List Int64} {v_carried : List Int64} (g_0 : gm_sf v_shelf v_many v_items v_carried) : wp (fX9_shift 700 x1 x2 x3 x4 x5 v_shelf v_many v_items v_carried) (cu3 (fun (r : Int32) (wv_items : List Int64) (wv_carried : List Int64) => gm_sf v_shelf v_many wv_items wv_carried)) := by
  obtain ⟨a_0_0, a_0_1, a_0_2, a_0_3, a_0_4⟩ := id g_0
  refine wp_cu3 (sf_X9_shift (Nat.le_refl 700) a_0_0 a_0_1 a_0_2 a_0_3 a_0_4) (fun r wv_items wv_carried ⟨q_0, q_1⟩ => ?_)
  exact ⟨a_0_0, a_0_1, q_0, q_1, a_0_4⟩
set_option maxHeartbeats 4000000 in
set_option maxRecDepth 20000 in
theorem st9_taken {x1 : Int32} {x2 : Int32} {v_bodyKind : List Int32} {v_shelf : List Int32} {v_bodies : Int32} {v_trace : List Int32} {v_many : List Int32} {v_items : List Int64} {v_carried : List Int64} (g_0 : gm_bo v_bodies v_bodyKind v_trace) (g_1 : gm_sf v_shelf v_many v_items v_carried) : wp (fX9_taken 700 x1 x2 v_bodyKind v_shelf) (fun (r : Int32) => True) := by
  obtain ⟨a_0_0, a_0_1, a_0_2, a_0_3, a_0_4⟩ := id g_0
  obtain ⟨a_1_0, a_1_1, a_1_2, a_1_3, a_1_4⟩ := id g_1
  refine wp_cu1 (sf_X9_taken (Nat.le_refl 700) a_0_2 a_1_0) (fun r _ => ?_)
  exact trivial
set_option maxHeartbeats 4000000 in
set_option maxRecDepth 20000 in
theorem st9_count {x1 : Int32} {v_done : Int32} {v_rowsOf : Int32} {v_columnsOf : Int32} {v_tapeMany : Int32} {v_planned : Int32} {v_bodies : Int32} {v_ran : Int32} {v_keptMany : Int32} {v_limit : List Int32} {v_changeWas : List Int32} {v_changeIs : List Int32} {v_isKept : Bool} {v_imageRows : Int32} {v_imageColumns : Int32} {v_shapeRows : List Int32} {v_shapeColumns : List Int32} {v_row : List Int32} {v_column : List Int32} {v_below : List Int32} {v_face : List Int32} {v_worn : List Int32} {v_lastBend : List Int32} {v_textMany : Int32} {v_tape : List Int32} {v_text : List Int32} {v_names : List Int32} {v_bends : List Int32} {v_high : List Int32} {v_to : List Int32} {v_pileSize : List Int32} {v_planLine : List Int32} {v_planWay : List Int32} {v_bodyKind : List Int32} {v_trace : List Int32} (g_0 : gm_ch v_keptMany v_done v_limit v_changeWas v_changeIs) (g_1 : gm_sh v_rowsOf v_columnsOf v_isKept v_imageRows v_imageColumns v_shapeRows v_shapeColumns v_row v_column v_below v_face v_worn v_lastBend) (g_2 : gm_tx v_tapeMany v_textMany v_tape v_text v_names v_bends v_high v_to v_pileSize) (g_3 : gm_pl v_planned v_planLine v_planWay) (g_4 : gm_bo v_bodies v_bodyKind v_trace) : wp (fX9_count 700 x1 v_done v_rowsOf v_columnsOf v_tapeMany v_planned v_bodies v_ran) (fun (r : Int32) => True) := by
  obtain ⟨a_0_0, a_0_1, a_0_2, a_0_3, a_0_4, a_0_5, a_0_6, a_0_7⟩ := id g_0
  obtain ⟨a_1_0, a_1_1, a_1_2, a_1_3, a_1_4, a_1_5, a_1_6, a_1_7, a_1_8, a_1_9, a_1_10, a_1_11, a_1_12, a_1_13⟩ := id g_1
  obtain ⟨a_2_0, a_2_1, a_2_2, a_2_3, a_2_4, a_2_5, a_2_6, a_2_7, a_2_8, a_2_9, a_2_10⟩ := id g_2
  obtain ⟨a_3_0, a_3_1, a_3_2, a_3_3⟩ := id g_3
  obtain ⟨a_4_0, a_4_1, a_4_2, a_4_3, a_4_4⟩ := id g_4
  refine wp_cu1 (sf_X9_count (Nat.le_refl 700) a_0_2 a_0_3 a_1_0 a_1_1 a_1_2 a_1_3 a_2_0 a_2_1 a_3_0 a_3_1 a_4_0 a_4_1) (fun r _ => ?_)
  exact trivial
end
section
/-! The fresh objects -/
theorem fnd_0 : fnd (mm_zs 8) := fun i j h1 h2 e => by
  have f : ∀ c : Int32, j.toInt = c.toInt → j = c := fun c e => Int32.toInt_inj.mp e
  have g : ∀ c : Int32, i.toInt = c.toInt → i = c := fun c e => Int32.toInt_inj.mp e
  have n2 : (2 : Int32).toInt = 2 := by decide
  have n3 : (3 : Int32).toInt = 3 := by decide
  have n4 : (4 : Int32).toInt = 4 := by decide
  have n5 : (5 : Int32).toInt = 5 := by decide
  have n6 : (6 : Int32).toInt = 6 := by decide
  have n7 : (7 : Int32).toInt = 7 := by decide
  have n8 : (8 : Int32).toInt = 8 := by decide
  rcases (show i.toInt = 2 ∨ i.toInt = 3 ∨ i.toInt = 4 ∨ i.toInt = 5 ∨ i.toInt = 6 ∨ i.toInt = 7 by omega) with k | k | k | k | k | k
  · rw [f 3 (by omega), g 2 (by omega)]; decide +kernel
  · rw [f 4 (by omega), g 3 (by omega)]; decide +kernel
  · rw [f 5 (by omega), g 4 (by omega)]; decide +kernel
  · rw [f 6 (by omega), g 5 (by omega)]; decide +kernel
  · rw [f 7 (by omega), g 6 (by omega)]; decide +kernel
  · rw [f 8 (by omega), g 7 (by omega)]; decide +kernel
theorem nw_sh : gi_sh 2 4 2 4 z5_rowOf z5_colOf (mm_zs 32) (mm_zs 32) (mm_zs 64) (mm_zs 64) (mm_zs 64) (mm_zs 32) := ⟨(by decide), (by decide), (by decide), (by decide), (by decide), (by decide), (by decide), (by decide), (by decide +kernel), (by decide +kernel), (by decide +kernel), (by decide +kernel), (by decide +kernel), (by decide +kernel), (by decide +kernel), (by decide +kernel), (zn_len (by decide +kernel) _), (zn_len (by decide +kernel) _)⟩
theorem nw_ch : gi_ch 0 0 (mm_zs 40) (mm_zs 40) := ⟨(by decide), (by decide), (by decide), (by decide), (by decide +kernel), (by decide +kernel)⟩
theorem nw_la : gi_la 0 0 0 (mm_zs 120) (mm_zs 121) (mm_zs 121) (mm_zs 121) := ⟨(by decide), (by decide), (by decide), (by decide), (by decide), (by decide), (by decide +kernel), (by decide +kernel), (by decide +kernel), (by decide +kernel)⟩
theorem nw_pl : gi_pl 0 (mm_zs 12) (mm_zs 12) := ⟨(by decide), (by decide), (by decide +kernel), (by decide +kernel)⟩
theorem nw_sf : gi_sf 0 (mm_zl 60) := ⟨(by decide), (by decide), (by decide +kernel)⟩
theorem nw_se : gi_se 0 (mm_zs 3) (mm_zs 3) := ⟨(by decide), (by decide), (by decide +kernel), (by decide +kernel)⟩
theorem nw_st : gi_st (mm_zs 7) (mm_zs 680) (mm_zs 8) := ⟨(by decide +kernel), (by decide +kernel), (by decide +kernel), fnd_0⟩
theorem nw_fo : gi_fo 0 (mm_zs 50) (mm_zs 24) := ⟨(by decide), (by decide), (by decide +kernel), (by decide +kernel), (zn_len (by decide +kernel) _)⟩
theorem nw_gm_ch : gm_ch 0 0 z9_limit (mm_zs 40) (mm_zs 40) := ⟨(by decide), (by decide), (by decide), (by decide), (by decide +kernel), (by decide +kernel), (by decide +kernel), (by decide)⟩
theorem nw_gm_sh : gm_sh 2 4 false 0 0 z9_shapeRows z9_shapeColumns z9_row z9_column (mm_zs 192) (mm_zs 192) (mm_zs 384) (mm_zs 384) := ⟨(by decide), (by decide), (by decide), (by decide), (by decide +kernel), (by decide +kernel), (by decide +kernel), (by decide +kernel), (by decide +kernel), (by decide +kernel), (by decide +kernel), (by decide +kernel), ⟨by decide +kernel, by decide +kernel, by decide +kernel, by decide +kernel, zn_len (by decide +kernel) _, zn_len (by decide +kernel) _⟩, (fun h => absurd rfl h)⟩
theorem nw_gm_tx : gm_tx 0 (-1) (mm_zs 120) (mm_zs 120) (mm_zs 6) (mm_zs 64) (mm_zs 32) (mm_zs 32) (mm_zs 64) := ⟨(by decide), (by decide), (by decide), (by decide), (by decide +kernel), (by decide +kernel), (by decide +kernel), (by decide +kernel), (by decide +kernel), (by decide +kernel), (by decide +kernel)⟩
theorem nw_gm_pl : gm_pl 0 (mm_zs 12) (mm_zs 12) := ⟨(by decide), (by decide), (by decide +kernel), (by decide +kernel)⟩
theorem nw_gm_se : gm_se 0 (mm_zs 3) (mm_zs 3) := ⟨(by decide), (by decide), (by decide +kernel), (by decide +kernel)⟩
theorem nw_gm_or : gm_or (mm_zs 7) (mm_zs 7) := ⟨(by decide +kernel), (by decide +kernel)⟩
theorem nw_gm_bo : gm_bo 0 (mm_zs 50) (mm_zs 24) := ⟨(by decide), (by decide), (by decide +kernel), (by decide +kernel), (zn_len (by decide +kernel) _)⟩
theorem nw_gm_sf : gm_sf z9_shelf (mm_zs 6) (mm_zl 360) (mm_zl 60) := ⟨(by decide +kernel), (by decide +kernel), (by decide +kernel), (by decide +kernel), (zn_len (by decide +kernel) _)⟩
end
section
/-! limit, undo, redo: class and reference alike -/
theorem wp_get {α : Type} {o : Option α} {Q : α → Prop} {a : α} (h : wp o Q) (e : o = some a) : Q a := by
  obtain ⟨r, e1, q⟩ := h
  rw [e1] at e
  injection e with e
  rw [← e]
  exact q
theorem ck_t {α : Type} {c : Bool} {x : Option α} (h : c = true) : mm_ck c x = x := by
  unfold mm_ck
  rw [if_pos h]
theorem nm_eq {α β : Type} (x : α) (k : α → Option β) : mm_nm x k = k x := rfl
theorem bs_1 {α β : Type} (a : α) (k : α → Option β) : mm_bd1 (some a) k = k a := rfl
theorem bs_2 {α0 α1 β : Type} (a0 : α0) (a1 : α1) (k : α0 → α1 → Option β) : mm_bd2 (some (a0, a1)) k = k a0 a1 := rfl
theorem bs_3 {α0 α1 α2 β : Type} (a0 : α0) (a1 : α1) (a2 : α2) (k : α0 → α1 → α2 → Option β) : mm_bd3 (some (a0, a1, a2)) k = k a0 a1 a2 := rfl
def shf (l : List Int32) (k : Nat) : List Int32 := l.take (k - 1) ++ (l.drop k ++ l.drop 39)
theorem shf_step (l : List Int32) (j : Nat) (h : j + 1 < 40) (hl : l.length = 40) : shf (l.set j (l.getD (j + 1) 0)) (j + 2) = shf l (j + 1) := by
  unfold shf
  have h1 : (l.set j (l.getD (j + 1) 0)).take (j + 2 - 1) = l.take j ++ [l.getD (j + 1) 0] := by
    rw [show j + 2 - 1 = j + 1 by omega, List.take_add_one, List.take_set_of_le (Nat.le_refl j), List.getElem?_set_self (by omega)]
    rfl
  have h2 : l.drop (j + 1) = l.getD (j + 1) 0 :: l.drop (j + 2) := by
    rw [List.drop_eq_getElem_cons (by omega), List.getD_eq_getElem?_getD, List.getElem?_eq_getElem (by omega)]
    rfl
  rw [h1, h2, List.drop_set_of_lt (by omega), List.drop_set_of_lt (by omega), show j + 1 - 1 = j by omega, List.append_assoc]
  rfl
theorem shf_end (l : List Int32) (hl : l.length = 40) : shf l 40 = l := by
  unfold shf
  rw [List.drop_of_length_le (by omega), List.nil_append, show 40 - 1 = 39 by omega, List.take_append_drop]
theorem shf_cp (l : List Int32) (hl : l.length = 40) : mm_cp l l (1 : Int32) (0 : Int32) (39 : Int32) = shf l 1 := by
  unfold mm_cp shf
  rw [show (1 : Int32).toNatClampNeg = 1 by decide, show (0 : Int32).toNatClampNeg = 0 by decide, show (39 : Int32).toNatClampNeg = 39 by decide, List.take_of_length_le (l := l.drop 1) (by rw [List.length_drop]; omega)]
theorem shf_len (l : List Int32) (hl : l.length = 40) : (shf l 1).length = 40 := by
  unfold shf
  rw [List.length_append, List.length_append, List.length_take, List.length_drop, List.length_drop]
  omega
theorem li_39 (x1 x2 k d : Int32) (lim : List Int32) : ∀ (i n j : Nat) (x3 : Int32) (was is : List Int32), i + j = 39 → i < n → x3.toInt = j + 1 → was.length = 40 → is.length = 40 → fX9_limit_39 700 n x1 x2 x3 k d lim was is = fX9_limit_89 700 x1 x2 k (d - (1 : Int32)) lim (shf was (j + 1)) (shf is (j + 1)) := by
  have n40 : (40 : Int32).toInt = 40 := by decide
  have n1 : (1 : Int32).toInt = 1 := by decide
  intro i
  induction i with
  | zero =>
    intro n j x3 was is e hn hx h1 h2
    obtain ⟨n, rfl⟩ : ∃ m, n = m + 1 := ⟨n - 1, by omega⟩
    obtain rfl : j = 39 := by omega
    rw [shf_end _ h1, shf_end _ h2]
    show (if (40 : Int32) ≤ x3 then _ else _) = _
    rw [if_pos (by rw [Int32.le_iff_toInt_le]; omega)]
    rfl
  | succ i ih =>
    intro n j x3 was is e hn hx h1 h2
    obtain ⟨n, rfl⟩ : ∃ m, n = m + 1 := ⟨n - 1, by omega⟩
    have ea : (x3 - (1 : Int32)).toInt = j := by rw [i_subE rfl (by omega) (by omega)]; omega
    have eb : (x3 + (1 : Int32)).toInt = (j + 1 : Nat) + 1 := by rw [i_addE rfl (by omega) (by omega)]; omega
    have c3 : x3.toNatClampNeg = j + 1 := by show x3.toInt.toNat = _; omega
    have c2 : (x3 - (1 : Int32)).toNatClampNeg = j := by show (x3 - (1 : Int32)).toInt.toNat = _; omega
    have L := ih n (j + 1) (x3 + (1 : Int32)) (mm_is was (x3 - (1 : Int32)) (mm_ig was x3)) (mm_is is (x3 - (1 : Int32)) (mm_ig is x3)) (by omega) (by omega) eb (by rw [is_len]; exact h1) (by rw [is_len]; exact h2)
    have s1 : shf (mm_is was (x3 - (1 : Int32)) (mm_ig was x3)) (j + 1 + 1) = shf was (j + 1) := by
      unfold mm_is mm_ig
      rw [c2, c3]
      exact shf_step was j (by omega) h1
    have s2 : shf (mm_is is (x3 - (1 : Int32)) (mm_ig is x3)) (j + 1 + 1) = shf is (j + 1) := by
      unfold mm_is mm_ig
      rw [c2, c3]
      exact shf_step is j (by omega) h2
    rw [s1, s2] at L
    rw [← L]
    show (if (40 : Int32) ≤ x3 then _ else _) = _
    rw [if_neg (by rw [Int32.le_iff_toInt_le]; omega)]
    rw [ck_t (i_inb (by omega) (by omega)), nm_eq, ck_t (i_inb (by omega) (by omega)), nm_eq, ck_t (i_inb (by omega) (by omega)), nm_eq, ck_t (i_inb (by omega) (by omega)), nm_eq, nm_eq]
def rl_ch (v_value v_done v_size : Int32) (v_before v_after : List Int32) (m_keptMany m_done : Int32) (m_limit m_changeWas m_changeIs : List Int32) : Prop := m_keptMany = v_size ∧ m_done = v_done ∧ m_limit = [v_value] ∧ m_changeWas = v_before ∧ m_changeIs = v_after
theorem rl_same {v d s : Int32} {b a : List Int32} : rl_ch v d s b a s d [v] b a := ⟨rfl, rfl, rfl, rfl, rfl⟩
theorem li_89 (x v k d d' s : Int32) (b a : List Int32) (h0 : 0 ≤ d.toInt) (h1 : d.toInt < 40) (hb : b.length = 40) (ha : a.length = 40) : fX0_become_22 700 x v d s b a = some (x, d + (1 : Int32), d + (1 : Int32), mm_is b d v, mm_is a d x) ∧ fX9_limit_89 700 x v k d [v] b a = some (v, d + (1 : Int32), d + (1 : Int32), [x], mm_is b d v, mm_is a d x) := by
  unfold fX0_become_22 fX9_limit_89
  constructor
  · rw [ck_t (i_inb (by omega) (by omega)), nm_eq, ck_t (i_inb (by omega) (by omega)), nm_eq, nm_eq]
  · rw [ck_t (i_inb (by omega) (by omega)), nm_eq, ck_t (i_inb (by omega) (by omega)), nm_eq, nm_eq, ck_t (show mm_inb (0 : Int32) [v].length = true by rfl), nm_eq]
    rfl
theorem rc_limit {x v d s : Int32} {b a : List Int32} (g : gi_ch d s b a) : ∃ (r v' d' s' : Int32) (b' a' : List Int32), fX8_limit 700 x v d s b a = some (r, v', d', s', b', a') ∧ fX9_limit 700 x s d [v] b a = some (r, s', d', [v'], b', a') := by
  obtain ⟨a0, a1, a2, a3, a4, a5⟩ := g
  have n1 : (1 : Int32).toInt = 1 := by decide
  have n40 : (40 : Int32).toInt = 40 := by decide
  have n99 : (99 : Int32).toInt = 99 := by decide
  have m1 : (1 : Int64).toInt = 1 := by decide
  have m99 : (99 : Int64).toInt = 99 := by decide
  have mx := i_64 x
  unfold fX8_limit fX9_limit
  obtain ⟨w, ew, qw⟩ := sf_X9_within (Nat.le_refl 700) (x0 := x.toInt64) (x2 := 1) (x4 := 99)
  rw [ew]
  rcases qw with ⟨rfl, q0, q1⟩ | ⟨rfl, q0⟩
  · rw [if_neg (by rw [Int32.lt_iff_toInt_lt]; omega), if_pos (by rw [Int32.le_iff_toInt_le]; omega)]
    unfold fX0_become
    rw [bs_1, if_neg (show ¬ (true = false) by decide), ck_t (show mm_inb (0 : Int32) [v].length = true by rfl), nm_eq, show mm_ig [v] (0 : Int32) = v from rfl]
    by_cases e : x = v
    · rw [if_pos e, if_pos e.symm]
      exact ⟨_, _, _, _, _, _, rfl, rfl⟩
    · rw [if_neg e, if_neg (show ¬ v = x from fun h => e h.symm)]
      by_cases e4 : d = (40 : Int32)
      · rw [if_pos e4, if_pos e4]
        have hd : (d - (1 : Int32)).toInt = 39 := by rw [i_subE rfl (by rw [e4]; omega) (by rw [e4]; omega), e4]; omega
        obtain ⟨k1, k2⟩ := li_89 x v s (d - (1 : Int32)) d s (shf b 1) (shf a 1) (by omega) (by omega) (shf_len b a4) (shf_len a a5)
        rw [show fX0_forgetOldest 700 d b a = some (d - (1 : Int32), shf b 1, shf a 1) by
          unfold fX0_forgetOldest
          rw [a4, ck_t (by decide), nm_eq, a5, ck_t (by decide), nm_eq, nm_eq, shf_cp b a4, shf_cp a a5]]
        rw [li_39 x v s d [v] 39 700 0 1 b a (by omega) (by omega) (by omega) a4 a5]
        rw [bs_3, k1, k2]
        exact ⟨_, _, _, _, _, _, rfl, rfl⟩
      · rw [if_neg e4, if_neg e4]
        have hd : d.toInt < 40 := by
          have : d.toInt ≠ 40 := fun h => e4 (Int32.toInt_inj.mp (by omega))
          omega
        obtain ⟨k1, k2⟩ := li_89 x v s d d s b a a0 hd a4 a5
        rw [k1, k2]
        exact ⟨_, _, _, _, _, _, rfl, rfl⟩
  · refine ⟨(-1 : Int32), v, d, s, b, a, ?_, rfl⟩
    by_cases c : x < (1 : Int32)
    · rw [if_pos c]
    · rw [if_neg c, if_neg (by rw [Int32.lt_iff_toInt_lt] at c; rw [Int32.le_iff_toInt_le]; omega)]
theorem rc_undo {v d s : Int32} {b a : List Int32} (g : gi_ch d s b a) : ∃ (r v' d' : Int32), fX8_undo 700 v d b = some (r, v', d') ∧ fX9_undo 700 d [v] b = some (r, d', [v']) := by
  obtain ⟨a0, a1, a2, a3, a4, a5⟩ := g
  have n1 : (1 : Int32).toInt = 1 := by decide
  have n0 : (0 : Int32).toInt = 0 := by decide
  unfold fX8_undo fX9_undo fX0_stepBack
  by_cases e : d = 0
  · rw [if_pos e, if_pos e]
    exact ⟨_, _, _, rfl, rfl⟩
  · rw [if_neg e, if_neg e]
    have hd : 0 < d.toInt := by
      have : d.toInt ≠ 0 := fun h => e (Int32.toInt_inj.mp (by omega))
      omega
    have ed : (d - (1 : Int32)).toInt = d.toInt - 1 := by rw [i_subE rfl (by omega) (by omega)]; omega
    rw [if_neg (by rw [Int32.le_iff_toInt_le]; omega)]
    rw [nm_eq, nm_eq, ck_t (i_inb (by omega) (by omega)), bs_2, nm_eq, ck_t (i_inb (by omega) (by omega)), nm_eq, ck_t (show mm_inb (0 : Int32) [v].length = true by rfl), nm_eq]
    exact ⟨_, _, _, rfl, rfl⟩
theorem rc_redo {v d s : Int32} {b a : List Int32} (g : gi_ch d s b a) (h : d.toInt ≤ s.toInt) : ∃ (r v' d' : Int32), fX8_redo 700 v d s a = some (r, v', d') ∧ fX9_redo 700 s d [v] a = some (r, d', [v']) := by
  obtain ⟨a0, a1, a2, a3, a4, a5⟩ := g
  have n1 : (1 : Int32).toInt = 1 := by decide
  unfold fX8_redo fX9_redo fX0_stepOn
  by_cases e : d = s
  · rw [if_pos e, if_pos e]
    exact ⟨_, _, _, rfl, rfl⟩
  · rw [if_neg e, if_neg e]
    have hd : d.toInt < s.toInt := by
      have : d.toInt ≠ s.toInt := fun h => e (Int32.toInt_inj.mp h)
      omega
    rw [if_neg (by rw [Int32.le_iff_toInt_le]; omega)]
    rw [ck_t (i_inb (by omega) (by omega)), nm_eq, nm_eq, bs_2, ck_t (i_inb (by omega) (by omega)), nm_eq, ck_t (show mm_inb (0 : Int32) [v].length = true by rfl), nm_eq, nm_eq]
    exact ⟨_, _, _, rfl, rfl⟩
end
section
/-! limit, undo, redo: one step -/
theorem rs_limit {x1 v_changes_value v_changes_done v_changes_size : Int32} {v_changes_before v_changes_after : List Int32} {m_keptMany m_done : Int32} {m_limit m_changeWas m_changeIs : List Int32} (g8 : gi_ch v_changes_done v_changes_size v_changes_before v_changes_after) (g9 : gm_ch m_keptMany m_done m_limit m_changeWas m_changeIs) (hr : rl_ch v_changes_value v_changes_done v_changes_size v_changes_before v_changes_after m_keptMany m_done m_limit m_changeWas m_changeIs) : ∃ (r p_value p_done p_size : Int32) (p_before p_after : List Int32) (q_keptMany q_done : Int32) (q_limit q_changeWas q_changeIs : List Int32), fX8_limit 700 x1 v_changes_value v_changes_done v_changes_size v_changes_before v_changes_after = some (r, p_value, p_done, p_size, p_before, p_after) ∧ fX9_limit 700 x1 m_keptMany m_done m_limit m_changeWas m_changeIs = some (r, q_keptMany, q_done, q_limit, q_changeWas, q_changeIs) ∧ gi_ch p_done p_size p_before p_after ∧ gm_ch q_keptMany q_done q_limit q_changeWas q_changeIs ∧ rl_ch p_value p_done p_size p_before p_after q_keptMany q_done q_limit q_changeWas q_changeIs := by
  obtain ⟨rfl, rfl, rfl, rfl, rfl⟩ := hr
  obtain ⟨r, v', d', s', b', a', e8, e9⟩ := rc_limit (x := x1) (v := v_changes_value) g8
  have q8 := wp_get (st8_limit (v_changes_value := v_changes_value) g8) e8
  have q9 := wp_get (st9_limit g9) e9
  exact ⟨_, _, _, _, _, _, _, _, _, _, _, e8, e9, q8, q9, rl_same⟩
theorem rs_undo {v_changes_value v_changes_done v_changes_size : Int32} {v_changes_before v_changes_after : List Int32} {m_keptMany m_done : Int32} {m_limit m_changeWas m_changeIs : List Int32} (g8 : gi_ch v_changes_done v_changes_size v_changes_before v_changes_after) (g9 : gm_ch m_keptMany m_done m_limit m_changeWas m_changeIs) (hr : rl_ch v_changes_value v_changes_done v_changes_size v_changes_before v_changes_after m_keptMany m_done m_limit m_changeWas m_changeIs) : ∃ (r p_value p_done q_done : Int32) (q_limit : List Int32), fX8_undo 700 v_changes_value v_changes_done v_changes_before = some (r, p_value, p_done) ∧ fX9_undo 700 m_done m_limit m_changeWas = some (r, q_done, q_limit) ∧ gi_ch p_done v_changes_size v_changes_before v_changes_after ∧ gm_ch m_keptMany q_done q_limit m_changeWas m_changeIs ∧ rl_ch p_value p_done v_changes_size v_changes_before v_changes_after m_keptMany q_done q_limit m_changeWas m_changeIs := by
  obtain ⟨rfl, rfl, rfl, rfl, rfl⟩ := hr
  obtain ⟨r, v', d', e8, e9⟩ := rc_undo (v := v_changes_value) g8
  have q8 := wp_get (st8_undo (v_changes_value := v_changes_value) g8) e8
  have q9 := wp_get (st9_undo g9) e9
  exact ⟨_, _, _, _, _, e8, e9, q8, q9, rl_same⟩
theorem rs_redo {v_changes_value v_changes_done v_changes_size : Int32} {v_changes_before v_changes_after : List Int32} {m_keptMany m_done : Int32} {m_limit m_changeWas m_changeIs : List Int32} (g8 : gi_ch v_changes_done v_changes_size v_changes_before v_changes_after) (g9 : gm_ch m_keptMany m_done m_limit m_changeWas m_changeIs) (hr : rl_ch v_changes_value v_changes_done v_changes_size v_changes_before v_changes_after m_keptMany m_done m_limit m_changeWas m_changeIs) : ∃ (r p_value p_done q_done : Int32) (q_limit : List Int32), fX8_redo 700 v_changes_value v_changes_done v_changes_size v_changes_after = some (r, p_value, p_done) ∧ fX9_redo 700 m_keptMany m_done m_limit m_changeIs = some (r, q_done, q_limit) ∧ gi_ch p_done v_changes_size v_changes_before v_changes_after ∧ gm_ch m_keptMany q_done q_limit m_changeWas m_changeIs ∧ rl_ch p_value p_done v_changes_size v_changes_before v_changes_after m_keptMany q_done q_limit m_changeWas m_changeIs := by
  obtain ⟨rfl, rfl, rfl, rfl, rfl⟩ := hr
  obtain ⟨c0, c1, c2, c3, c4, c5, c6, c7⟩ := id g9
  obtain ⟨r, v', d', e8, e9⟩ := rc_redo (v := v_changes_value) g8 (by assumption)
  have q8 := wp_get (st8_redo (v_changes_value := v_changes_value) g8) e8
  have q9 := wp_get (st9_redo g9) e9
  exact ⟨_, _, _, _, _, e8, e9, q8, q9, rl_same⟩
theorem nw_ch9 : rl_ch 20 0 0 (mm_zs 40) (mm_zs 40) 0 0 z9_limit (mm_zs 40) (mm_zs 40) := ⟨rfl, rfl, by decide +kernel, rfl, rfl⟩
end
section
/-! Geometry: the class's turn, field by field -/
theorem ge_is (l : List Int32) (i v : Int32) (k : Nat) (hk : k < l.length) : (mm_is l i v).getD k 0 = if i.toInt.toNat = k then v else l.getD k 0 := by
  show (l.set i.toInt.toNat v).getD k 0 = _
  rw [List.getD_eq_getElem?_getD, List.getElem?_set, List.getD_eq_getElem?_getD]
  by_cases e : i.toInt.toNat = k
  · rw [if_pos e, if_pos e, if_pos (by rw [e]; exact hk)]
    rfl
  · rw [if_neg e, if_neg e]
theorem ge_ig (l : List Int32) (i : Int32) : mm_ig l i = l.getD i.toInt.toNat 0 := rfl
theorem ck_x {α : Type} {c : Bool} {x : Option α} {z : α} (h : mm_ck c x = some z) : x = some z := (mm_cks h).2
theorem sm_i {α : Type} {a b : α} (h : some a = some b) : a = b := by
  injection h
/-- l1 is l but for v at place i -/
def ps_w (l l1 : List Int32) (i : Nat) (v : Int32) : Prop := l1.length = l.length ∧ ∀ k : Nat, k < l.length → l1.getD k 0 = if i = k then v else l.getD k 0
theorem ps_is (l : List Int32) (i v : Int32) : ps_w l (mm_is l i v) i.toInt.toNat v := ⟨is_len l i v, fun k hk => ge_is l i v k hk⟩
theorem ps_id (l : List Int32) (i : Nat) : ps_w l l i (l.getD i 0) := ⟨rfl, fun k _ => by
  by_cases e : i = k
  · rw [if_pos e, e]
  · rw [if_neg e]⟩
theorem ps_at {l l1 : List Int32} {i : Nat} {v : Int32} (h : ps_w l l1 i v) (k : i < l.length) : l1.getD i 0 = v := by rw [h.2 i k, if_pos rfl]
theorem ps_ne {l l1 : List Int32} {i k : Nat} {v : Int32} (h : ps_w l l1 i v) (k1 : k < l.length) (n : i ≠ k) : l1.getD k 0 = l.getD k 0 := by rw [h.2 k k1, if_neg n]
def al_w (w r c : Int32) : Int32 := if (4 : Int32) ≤ w then r else c
def ac_w (w r c : Int32) : Int32 := if (4 : Int32) ≤ w then c else r
def csw (w : Int32) : Bool := decide ((w &&& (2 : Int32)) = 0)
def ovw (w : Int32) : Bool := decide ((w &&& (1 : Int32)) = 0)
/-- does the field at place a come? -/
def cm_w (x1 a : Int32) (b : Bool) : Bool := decide ((if x1 ≤ a then (0 : Int32) else (1 : Int32)) = mm_b b)
def np_w (x1 st a : Int32) (co : Bool) : Int32 := (if co = true then (((2 : Int32) * x1) - (1 : Int32)) - a else a) - st
def nb_w (co ov : Bool) (own met b : Int32) : Int32 := if co = true then (if ov = true then ((own - (1 : Int32)) - b) + met else (own - (1 : Int32)) - b) else (if ov = true then b else b + met)
def nf_w (co : Bool) (f : Int32) : Int32 := if co = true then (1 : Int32) - f else f
def ta_w (T : List Int32) (high wide w m x : Int32) : Int32 := if m < 0 then 0 else if m < (if (4 : Int32) ≤ w then high else wide) then (if (4 : Int32) ≤ w then mm_ig T ((m * (8 : Int32)) + x) else mm_ig T ((x * (8 : Int32)) + m)) else 0
theorem al_e {i w a : Int32} {R C : List Int32} (h : fX5_along 700 i w R C = some a) : a = al_w w (R.getD i.toInt.toNat 0) (C.getD i.toInt.toNat 0) := by
  unfold fX5_along at h
  unfold al_w
  by_cases c : (4 : Int32) ≤ w
  · rw [if_pos c] at h ⊢
    exact (sm_i (ck_x h)).symm
  · rw [if_neg c] at h ⊢
    exact (sm_i (ck_x h)).symm
theorem ac_e {i w a : Int32} {R C : List Int32} (h : fX5_across 700 i w R C = some a) : a = ac_w w (R.getD i.toInt.toNat 0) (C.getD i.toInt.toNat 0) := by
  unfold fX5_across at h
  unfold ac_w
  by_cases c : (4 : Int32) ≤ w
  · rw [if_pos c] at h ⊢
    exact (sm_i (ck_x h)).symm
  · rw [if_neg c] at h ⊢
    exact (sm_i (ck_x h)).symm
theorem sp_e {w high wide r : Int32} (h : fX5_span 700 w high wide = some r) : r = if (4 : Int32) ≤ w then high else wide := by
  unfold fX5_span at h
  by_cases c : (4 : Int32) ≤ w
  · rw [if_pos c] at h ⊢
    exact (sm_i h).symm
  · rw [if_neg c] at h ⊢
    exact (sm_i h).symm
theorem cs_e {w : Int32} {r : Bool} (h : fX5_comesFromStart 700 w = some r) : r = csw w := by
  unfold fX5_comesFromStart at h
  unfold csw
  by_cases c : (w &&& (2 : Int32)) = 0
  · rw [if_pos c] at h
    rw [decide_eq_true c]
    exact (sm_i h).symm
  · rw [if_neg c] at h
    rw [decide_eq_false c]
    exact (sm_i h).symm
theorem ov_e {w : Int32} {r : Bool} (h : fX5_comesOver 700 w = some r) : r = ovw w := by
  unfold fX5_comesOver at h
  unfold ovw
  by_cases c : (w &&& (1 : Int32)) = 0
  · rw [if_pos c] at h
    rw [decide_eq_true c]
    exact (sm_i h).symm
  · rw [if_neg c] at h
    rw [decide_eq_false c]
    exact (sm_i h).symm
theorem ta_e {m x w high wide r : Int32} {T : List Int32} (h : fX5_tallAt 700 m x w high wide T = some r) : r = ta_w T high wide w m x := by
  unfold fX5_tallAt at h
  unfold ta_w
  by_cases c : m < 0
  · rw [if_pos c] at h ⊢
    exact (sm_i h).symm
  · rw [if_neg c] at h ⊢
    obtain ⟨s, es, h⟩ := mm_bd1s h
    have hs := sp_e es
    rw [← hs]
    by_cases d : m < s
    · rw [if_pos d] at h ⊢
      by_cases f : (4 : Int32) ≤ w
      · rw [if_pos f] at h ⊢
        exact (sm_i (ck_x h)).symm
      · rw [if_neg f] at h ⊢
        exact (sm_i (ck_x h)).symm
    · rw [if_neg d] at h ⊢
      exact (sm_i h).symm
theorem sa_e {i w v : Int32} {R C R1 C1 : List Int32} (h : fX5_setAlong 700 i w v R C = some (R1, C1)) : ps_w R R1 i.toInt.toNat (if (4 : Int32) ≤ w then v else R.getD i.toInt.toNat 0) ∧ ps_w C C1 i.toInt.toNat (if (4 : Int32) ≤ w then C.getD i.toInt.toNat 0 else v) := by
  unfold fX5_setAlong at h
  by_cases c : (4 : Int32) ≤ w
  · rw [if_pos c] at h ⊢
    rw [if_pos c]
    have h := ck_x h
    rw [nm_eq] at h
    have h := sm_i h
    injection h with h1 h2
    subst h1
    subst h2
    exact ⟨ps_is _ _ _, ps_id _ _⟩
  · rw [if_neg c] at h ⊢
    rw [if_neg c]
    have h := ck_x h
    rw [nm_eq] at h
    have h := sm_i h
    injection h with h1 h2
    subst h1
    subst h2
    exact ⟨ps_id _ _, ps_is _ _ _⟩
theorem tu_188 {β : Type} {k : Int32 → Int32 → Int32 → Int32 → Int32 → Int32 → Int32 → Int32 → List Int32 → List Int32 → List Int32 → List Int32 → List Int32 → Option (Int32 × Int32 × List Int32 × List Int32 × List Int32 × List Int32 × List Int32)} {x1 x2 x4 x5 x6 rows cols high wide : Int32} {R C B F T : List Int32} {z : Int32 × Int32 × List Int32 × List Int32 × List Int32 × List Int32 × List Int32} (e : fX5_turn_188 700 k x1 x2 x4 x5 x6 rows cols high wide R C B F T = some z) : ∃ R1 C1 : List Int32, k x1 x2 x4 (x5 + (1 : Int32)) rows cols high wide R1 C1 B F T = some z ∧ ps_w R R1 x5.toInt.toNat (if (4 : Int32) ≤ x2 then x6 - x4 else R.getD x5.toInt.toNat 0) ∧ ps_w C C1 x5.toInt.toNat (if (4 : Int32) ≤ x2 then C.getD x5.toInt.toNat 0 else x6 - x4) := by
  unfold fX5_turn_188 at e
  obtain ⟨R1, C1, es, e⟩ := mm_bd2s e
  rw [nm_eq] at e
  exact ⟨R1, C1, e, sa_e es⟩
theorem tu_144 {k : Int32 → Int32 → Int32 → Int32 → Int32 → Int32 → Int32 → Int32 → List Int32 → List Int32 → List Int32 → List Int32 → List Int32 → Option (Int32 × Int32 × List Int32 × List Int32 × List Int32 × List Int32 × List Int32)} {x1 x2 x4 x5 x7 s0 s1 rows cols high wide : Int32} {R C B F T : List Int32} {z : Int32 × Int32 × List Int32 × List Int32 × List Int32 × List Int32 × List Int32} (e : fX5_turn_144 700 k x1 x2 x4 x5 x7 s0 s1 x5 rows cols high wide R C B F T = some z) : ∃ R1 C1 B1 F1 : List Int32, k x1 x2 x4 (x5 + (1 : Int32)) rows cols high wide R1 C1 B1 F1 T = some z ∧ ps_w R R1 x5.toInt.toNat (if (4 : Int32) ≤ x2 then x7 - x4 else R.getD x5.toInt.toNat 0) ∧ ps_w C C1 x5.toInt.toNat (if (4 : Int32) ≤ x2 then C.getD x5.toInt.toNat 0 else x7 - x4) ∧ ps_w B B1 x5.toInt.toNat (s1 + s0) ∧ ps_w F F1 x5.toInt.toNat ((1 : Int32) - F.getD x5.toInt.toNat 0) := by
  unfold fX5_turn_144 at e
  rw [nm_eq] at e
  have e := ck_x e
  rw [nm_eq] at e
  have e := ck_x e
  rw [nm_eq] at e
  have e := ck_x e
  rw [nm_eq] at e
  obtain ⟨R1, C1, e, h1, h2⟩ := tu_188 (β := Unit) e
  exact ⟨R1, C1, _, _, e, h1, h2, ps_is _ _ _, ps_is _ _ _⟩
/-- a field before and behind the fold -/
def mv_w (T : List Int32) (high wide w x1 st r c b f r' c' b' f' : Int32) : Prop := b' = nb_w (cm_w x1 (al_w w r c) (csw w)) (ovw w) (ta_w T high wide w (al_w w r c) (ac_w w r c)) (ta_w T high wide w ((((2 : Int32) * x1) - (1 : Int32)) - al_w w r c) (ac_w w r c)) b ∧ f' = nf_w (cm_w x1 (al_w w r c) (csw w)) f ∧ r' = (if (4 : Int32) ≤ w then np_w x1 st (al_w w r c) (cm_w x1 (al_w w r c) (csw w)) else r) ∧ c' = (if (4 : Int32) ≤ w then c else np_w x1 st (al_w w r c) (cm_w x1 (al_w w r c) (csw w)))
theorem tu_90 {k : Int32 → Int32 → Int32 → Int32 → Int32 → Int32 → Int32 → Int32 → List Int32 → List Int32 → List Int32 → List Int32 → List Int32 → Option (Int32 × Int32 × List Int32 × List Int32 × List Int32 × List Int32 × List Int32)} {x1 x2 x4 x5 a t rows cols high wide : Int32} {R C B F T : List Int32} {z : Int32 × Int32 × List Int32 × List Int32 × List Int32 × List Int32 × List Int32} (ha : a = al_w x2 (R.getD x5.toInt.toNat 0) (C.getD x5.toInt.toNat 0)) (ht : t = ta_w T high wide x2 ((((2 : Int32) * x1) - (1 : Int32)) - a) (ac_w x2 (R.getD x5.toInt.toNat 0) (C.getD x5.toInt.toNat 0))) (e : fX5_turn_90 700 k x1 x2 x4 x5 a ((((2 : Int32) * x1) - (1 : Int32)) - a) t (if x1 ≤ a then (0 : Int32) else (1 : Int32)) rows cols high wide R C B F T = some z) : ∃ R1 C1 B1 F1 : List Int32, k x1 x2 x4 (x5 + (1 : Int32)) rows cols high wide R1 C1 B1 F1 T = some z ∧ ∃ r' c' b' f' : Int32, mv_w T high wide x2 x1 x4 (R.getD x5.toInt.toNat 0) (C.getD x5.toInt.toNat 0) (B.getD x5.toInt.toNat 0) (F.getD x5.toInt.toNat 0) r' c' b' f' ∧ ps_w R R1 x5.toInt.toNat r' ∧ ps_w C C1 x5.toInt.toNat c' ∧ ps_w B B1 x5.toInt.toNat b' ∧ ps_w F F1 x5.toInt.toNat f' := by
  unfold fX5_turn_90 at e
  obtain ⟨q, eq, e⟩ := mm_bd1s e
  have hq := cs_e eq
  subst hq
  unfold mv_w
  rw [← ha, ← ht]
  by_cases c : (if x1 ≤ a then (0 : Int32) else (1 : Int32)) = mm_b (csw x2)
  · rw [if_pos c] at e
    have hc : cm_w x1 a (csw x2) = true := decide_eq_true c
    rw [hc]
    obtain ⟨x, ex, e⟩ := mm_bd1s e
    have hx := ac_e ex
    obtain ⟨o, eo, e⟩ := mm_bd1s e
    have ho := ta_e eo
    rw [hx] at ho
    rw [← ho]
    have e := ck_x e
    obtain ⟨v, ev, e⟩ := mm_bd1s e
    have hv := ov_e ev
    subst hv
    by_cases d : ovw x2 = false
    · rw [if_pos d] at e
      rw [d]
      obtain ⟨R1, C1, B1, F1, e, h1, h2, h3, h4⟩ := tu_144 e
      refine ⟨R1, C1, B1, F1, e, _, _, _, _, ⟨rfl, rfl, rfl, rfl⟩, h1, h2, ?_, h4⟩
      have z0 : ((o - (1 : Int32)) - (mm_ig B x5)) + (0 : Int32) = (o - (1 : Int32)) - (mm_ig B x5) := Int32.add_zero _
      rw [z0] at h3
      exact h3
    · rw [if_neg d] at e
      have d : ovw x2 = true := by
        cases h : ovw x2
        · exact absurd h d
        · rfl
      rw [d]
      obtain ⟨R1, C1, B1, F1, e, h1, h2, h3, h4⟩ := tu_144 e
      exact ⟨R1, C1, B1, F1, e, _, _, _, _, ⟨rfl, rfl, rfl, rfl⟩, h1, h2, h3, h4⟩
  · rw [if_neg c] at e
    have hc : cm_w x1 a (csw x2) = false := decide_eq_false c
    rw [hc]
    obtain ⟨v, ev, e⟩ := mm_bd1s e
    have hv := ov_e ev
    subst hv
    by_cases d : ovw x2 = false
    · rw [if_pos d] at e
      rw [d]
      have e := ck_x e
      rw [nm_eq] at e
      have e := ck_x e
      rw [nm_eq] at e
      obtain ⟨R1, C1, e, h1, h2⟩ := tu_188 (β := Unit) e
      exact ⟨R1, C1, _, _, e, _, _, _, _, ⟨rfl, rfl, rfl, rfl⟩, h1, h2, ps_is _ _ _, ps_id _ _⟩
    · rw [if_neg d] at e
      have d : ovw x2 = true := by
        cases h : ovw x2
        · exact absurd h d
        · rfl
      rw [d]
      obtain ⟨R1, C1, e, h1, h2⟩ := tu_188 (β := Unit) e
      exact ⟨R1, C1, _, _, e, _, _, _, _, ⟨rfl, rfl, rfl, rfl⟩, h1, h2, ps_id _ _, ps_id _ _⟩
theorem tu_35 {x1 x2 x4 rows cols high wide : Int32} {T : List Int32} {m : Nat} (hm : (rows * cols).toInt = m) (m32 : m ≤ 32) : ∀ (n : Nat) (x5 : Int32) (R C B F : List Int32) (h' w' : Int32) (R' C' B' F' T' : List Int32), fX5_turn_35 700 n x1 x2 x4 x5 rows cols high wide R C B F T = some (h', w', R', C', B', F', T') → 0 ≤ x5.toInt → x5.toInt ≤ m → R.length = 32 → C.length = 32 → B.length = 32 → F.length = 32 → (h' = (if (4 : Int32) ≤ x2 then mm_max x1 (high - x1) else high) ∧ w' = (if (4 : Int32) ≤ x2 then wide else mm_max x1 (wide - x1))) ∧ (∀ k : Nat, k < x5.toInt.toNat → R'.getD k 0 = R.getD k 0 ∧ C'.getD k 0 = C.getD k 0 ∧ B'.getD k 0 = B.getD k 0 ∧ F'.getD k 0 = F.getD k 0) ∧ (∀ k : Nat, x5.toInt.toNat ≤ k → k < m → mv_w T high wide x2 x1 x4 (R.getD k 0) (C.getD k 0) (B.getD k 0) (F.getD k 0) (R'.getD k 0) (C'.getD k 0) (B'.getD k 0) (F'.getD k 0)) := by
  have n1 : (1 : Int32).toInt = 1 := by decide
  intro n
  induction n with
  | zero =>
    intro x5 R C B F h' w' R' C' B' F' T' e
    exact absurd e (by intro h; cases h)
  | succ n ih =>
    intro x5 R C B F h' w' R' C' B' F' T' e p0 p1 l1 l2 l3 l4
    rw [uf_X5_turn_35] at e
    obtain ⟨fl, ef, e⟩ := mm_bd1s e
    have hf : rows * cols = fl := sm_i ef
    subst hf
    by_cases c : rows * cols ≤ x5
    · rw [if_pos c] at e
      have d := i_le c
      obtain ⟨s, es, e⟩ := mm_bd1s e
      obtain ⟨u, v, en, e⟩ := mm_bd2s e
      have e := sm_i e
      injection e with e1 e
      injection e with e2 e
      injection e with e3 e
      injection e with e4 e
      injection e with e5 e
      injection e with e6 e
      subst e1 e2 e3 e4 e5 e6
      refine ⟨?_, fun k hk => ⟨rfl, rfl, rfl, rfl⟩, fun k k0 k1 => absurd k1 (by omega)⟩
      unfold fX5_spanBehind at es
      obtain ⟨q, eq, es⟩ := mm_bd1s es
      have hq := sp_e eq
      have hs := sm_i es
      unfold fX5_narrow at en
      by_cases f : (4 : Int32) ≤ x2
      · rw [if_pos f] at en hq
        have en := sm_i en
        injection en with e7 e8
        rw [if_pos f, if_pos f, ← e7, ← e8, ← hs, hq]
        exact ⟨rfl, rfl⟩
      · rw [if_neg f] at en hq
        have en := sm_i en
        injection en with e7 e8
        rw [if_neg f, if_neg f, ← e7, ← e8, ← hs, hq]
        exact ⟨rfl, rfl⟩
    · rw [if_neg c] at e
      have d := i_nle c
      obtain ⟨a, ea, e⟩ := mm_bd1s e
      have ha := al_e ea
      rw [nm_eq] at e
      obtain ⟨x, ex, e⟩ := mm_bd1s e
      have hx := ac_e ex
      obtain ⟨t, et, e⟩ := mm_bd1s e
      have ht := ta_e et
      rw [hx] at ht
      have e2 : fX5_turn_90 700 (fX5_turn_35 700 n) x1 x2 x4 x5 a ((((2 : Int32) * x1) - (1 : Int32)) - a) t (if x1 ≤ a then (0 : Int32) else (1 : Int32)) rows cols high wide R C B F T = some (h', w', R', C', B', F', T') := by
        by_cases g : x1 ≤ a
        · rw [if_pos g] at e ⊢
          exact e
        · rw [if_neg g] at e ⊢
          exact e
      obtain ⟨R1, C1, B1, F1, e3, r', c', b', f', hv, s1, s2, s3, s4⟩ := tu_90 ha ht e2
      generalize hy : x5 + (1 : Int32) = y at e3
      have ey := i_addE hy (by omega) (by omega)
      obtain ⟨j1, j2, j3⟩ := ih y R1 C1 B1 F1 h' w' R' C' B' F' T' e3 (by omega) (by omega) (by rw [s1.1]; exact l1) (by rw [s2.1]; exact l2) (by rw [s3.1]; exact l3) (by rw [s4.1]; exact l4)
      refine ⟨j1, fun k hk => ?_, fun k k0 k1 => ?_⟩
      · obtain ⟨q1, q2, q3, q4⟩ := j2 k (by omega)
        rw [q1, q2, q3, q4, ps_ne s1 (by omega) (by omega), ps_ne s2 (by omega) (by omega), ps_ne s3 (by omega) (by omega), ps_ne s4 (by omega) (by omega)]
        exact ⟨rfl, rfl, rfl, rfl⟩
      · by_cases g : x5.toInt.toNat = k
        · obtain ⟨q1, q2, q3, q4⟩ := j2 k (by omega)
          rw [← g] at q1 q2 q3 q4 ⊢
          rw [q1, q2, q3, q4, ps_at s1 (by omega), ps_at s2 (by omega), ps_at s3 (by omega), ps_at s4 (by omega)]
          exact hv
        · have q := j3 k (by omega) k1
          rw [ps_ne s1 (by omega) g, ps_ne s2 (by omega) g, ps_ne s3 (by omega) g, ps_ne s4 (by omega) g] at q
          exact q
end
section
/-! Geometry: the reference's moves, field by field -/
theorem ix_e {x1 x9 : Int32} (h0 : 0 ≤ x1.toInt) (h1 : x1.toInt ≤ 5) (k0 : 0 ≤ x9.toInt) (k1 : x9.toInt ≤ 64) : (((32 : Int32) * x1) + x9).toInt.toNat = 32 * x1.toInt.toNat + x9.toInt.toNat := by
  generalize hz : (32 : Int32) * x1 = z
  have ez := i_mulLE (c := 32) (by decide) hz (by omega) (by omega)
  generalize hy : z + x9 = y
  have ey := i_addE hy (by omega) (by omega)
  omega
theorem wn_x (a l h : Int64) : fX9_within 700 a l h = some (decide (l.toInt ≤ a.toInt ∧ a.toInt ≤ h.toInt)) := by
  obtain ⟨w, ew, qw⟩ := sf_X9_within (Nat.le_refl 700) (x0 := a) (x2 := l) (x4 := h)
  rw [ew]
  rcases qw with ⟨rfl, q0, q1⟩ | ⟨rfl, q0⟩
  · rw [decide_eq_true ⟨q0, q1⟩]
  · rw [decide_eq_false (by omega)]
def pl_w (x4 r c : Int32) : Int32 := if x4 = 0 then r else c
def pc_w (x4 r c : Int32) : Int32 := if x4 = 0 then c else r
theorem pl_e {x1 x2 x3 a : Int32} {row col : List Int32} (h : fX9_placeOf 700 x1 x2 x3 row col = some a) : a = pl_w x3 (row.getD (((32 : Int32) * x1) + x2).toInt.toNat 0) (col.getD (((32 : Int32) * x1) + x2).toInt.toNat 0) := by
  unfold fX9_placeOf at h
  unfold pl_w
  by_cases c : x3 = 0
  · rw [if_pos c] at h ⊢
    exact (sm_i (ck_x h)).symm
  · rw [if_neg c] at h ⊢
    exact (sm_i (ck_x h)).symm
theorem pl_not (x4 r c : Int32) : pl_w (if x4 = 0 then (1 : Int32) else (0 : Int32)) r c = pc_w x4 r c := by
  unfold pl_w pc_w
  by_cases h : x4 = 0
  · rw [if_pos h, if_pos h, if_neg (by decide)]
  · rw [if_neg h, if_neg h, if_pos rfl]
/-- how many of the places from j on, m of them, are such -/
def kc_w (p : Nat → Bool) : Nat → Nat → Int32
  | _, 0 => 0
  | j, m + 1 => (if p j = true then (1 : Int32) else (0 : Int32)) + kc_w p (j + 1) m
theorem kc_c {p q : Nat → Bool} : ∀ (m j : Nat), (∀ k : Nat, j ≤ k → k < j + m → p k = q k) → kc_w p j m = kc_w q j m := by
  intro m
  induction m with
  | zero =>
    intro j _
    rfl
  | succ m ih =>
    intro j h
    show (if p j = true then (1 : Int32) else (0 : Int32)) + kc_w p (j + 1) m = (if q j = true then (1 : Int32) else (0 : Int32)) + kc_w q (j + 1) m
    rw [h j (by omega) (by omega), ih (j + 1) (fun k k0 k1 => h k (by omega) (by omega))]
def iw_w (x4 r c : Int32) : Int32 := ((8 : Int32) * pc_w x4 r c) + pl_w x4 r c
theorem pm_94 {x1 x2 x4 x5 x6 x7 x8 ro co : Int32} {sR sC row col bel fac hi to : List Int32} {z : (List Int32 × List Int32 × List Int32 × List Int32 × List Int32 × List Int32 × List Int32 × List Int32 × List Int32)} : ∀ (n : Nat) (x9 : Int32) (PS : List Int32), fX9_movesAll_94 700 n x1 x2 x4 x5 x6 x7 x8 x9 ro co sR sC row col bel fac hi to PS = some z → 0 ≤ x9.toInt → x9.toInt ≤ 64 → PS.length = 64 → (∀ k : Nat, k < x9.toInt.toNat → PS.getD k 0 = 0) → ∃ PS1 : List Int32, PS1.length = 64 ∧ (∀ k : Nat, k < 64 → PS1.getD k 0 = 0) ∧ fX9_movesAll_118 700 700 x1 x2 x4 x5 x6 x7 x8 (0 : Int32) ro co sR sC row col bel fac hi to PS1 = some z := by
  have n1 : (1 : Int32).toInt = 1 := by decide
  have n64 : (64 : Int32).toInt = 64 := by decide
  intro n
  induction n with
  | zero =>
    intro x9 PS e
    exact absurd e (by intro h; cases h)
  | succ n ih =>
    intro x9 PS e p0 p1 l H
    rw [uf_X9_movesAll_94] at e
    by_cases c : (64 : Int32) ≤ x9
    · rw [if_pos c] at e
      have d := i_le c
      exact ⟨PS, l, fun k hk => H k (by omega), e⟩
    · rw [if_neg c] at e
      have d := i_nle c
      have e := ck_x e
      rw [nm_eq, nm_eq] at e
      generalize hy : x9 + (1 : Int32) = y at e
      have ey := i_addE hy (by omega) (by omega)
      refine ih y (mm_is PS x9 (0 : Int32)) e (by omega) (by omega) (by rw [is_len]; exact l) (fun k hk => ?_)
      rw [ge_is _ _ _ _ (by omega)]
      by_cases g : x9.toInt.toNat = k
      · rw [if_pos g]
      · rw [if_neg g]
        exact H k (by omega)
theorem pm_154 {k : Int32 → Int32 → Int32 → Int32 → Int32 → Int32 → Int32 → Int32 → Int32 → Int32 → List Int32 → List Int32 → List Int32 → List Int32 → List Int32 → List Int32 → List Int32 → List Int32 → List Int32 → Option (List Int32 × List Int32 × List Int32 × List Int32 × List Int32 × List Int32 × List Int32 × List Int32 × List Int32)} {x1 x2 x4 x5 x6 x7 x8 x9 s4 ro co : Int32} {sR sC row col bel fac hi to PS : List Int32} {z : (List Int32 × List Int32 × List Int32 × List Int32 × List Int32 × List Int32 × List Int32 × List Int32 × List Int32)} (h4 : s4 = pl_w x4 (row.getD (((32 : Int32) * x1) + x9).toInt.toNat 0) (col.getD (((32 : Int32) * x1) + x9).toInt.toNat 0)) (e : fX9_movesAll_154 700 k x1 x2 x4 x5 x6 x7 x8 x9 (if x4 = 0 then (1 : Int32) else (0 : Int32)) x9 x1 s4 ro co sR sC row col bel fac hi to PS = some z) : k x1 x2 x4 x5 x6 x7 x8 (x9 + (1 : Int32)) ro co sR sC row col bel fac hi to (mm_is PS (iw_w x4 (row.getD (((32 : Int32) * x1) + x9).toInt.toNat 0) (col.getD (((32 : Int32) * x1) + x9).toInt.toNat 0)) (mm_ig PS (iw_w x4 (row.getD (((32 : Int32) * x1) + x9).toInt.toNat 0) (col.getD (((32 : Int32) * x1) + x9).toInt.toNat 0)) + (1 : Int32))) = some z := by
  rw [uf_X9_movesAll_154] at e
  obtain ⟨a, ea, e⟩ := mm_bd1s e
  have ha := pl_e ea
  rw [pl_not] at ha
  obtain ⟨i, ei, e⟩ := mm_bd1s e
  have hi' : ((8 : Int32) * a) + s4 = i := sm_i ei
  have e := ck_x e
  rw [nm_eq] at e
  have e := ck_x e
  rw [nm_eq, nm_eq] at e
  have hj : iw_w x4 (row.getD (((32 : Int32) * x1) + x9).toInt.toNat 0) (col.getD (((32 : Int32) * x1) + x9).toInt.toNat 0) = i := by
    unfold iw_w
    rw [← h4, ← ha]
    exact hi'
  rw [hj]
  exact e
theorem pm_118 {x1 x2 x4 x5 x6 x7 x8 ro co : Int32} {sR sC row col bel fac hi to : List Int32} {z : (List Int32 × List Int32 × List Int32 × List Int32 × List Int32 × List Int32 × List Int32 × List Int32 × List Int32)} {m : Nat} (hm : (ro * co).toInt = m) (m32 : m ≤ 32) (L0 : 0 ≤ x1.toInt) (L5 : x1.toInt ≤ 5) : ∀ (n : Nat) (x9 : Int32) (PS : List Int32), fX9_movesAll_118 700 n x1 x2 x4 x5 x6 x7 x8 x9 ro co sR sC row col bel fac hi to PS = some z → 0 ≤ x9.toInt → x9.toInt ≤ m → PS.length = 64 → ∃ PS1 : List Int32, PS1.length = 64 ∧ (∀ j : Nat, j < 64 → PS1.getD j 0 = PS.getD j 0 + kc_w (fun k => decide ((iw_w x4 (row.getD (32 * x1.toInt.toNat + k) 0) (col.getD (32 * x1.toInt.toNat + k) 0)).toInt.toNat = j)) x9.toInt.toNat (m - x9.toInt.toNat)) ∧ fX9_movesAll_174 700 700 x1 x2 x4 x5 x6 x7 x8 (0 : Int32) ro co sR sC row col bel fac hi to PS1 = some z := by
  have n1 : (1 : Int32).toInt = 1 := by decide
  intro n
  induction n with
  | zero =>
    intro x9 PS e
    exact absurd e (by intro h; cases h)
  | succ n ih =>
    intro x9 PS e p0 p1 l
    rw [uf_X9_movesAll_118] at e
    obtain ⟨fl, ef, e⟩ := mm_bd1s e
    have hf : ro * co = fl := sm_i ef
    subst hf
    by_cases c : ro * co ≤ x9
    · rw [if_pos c] at e
      have d := i_le c
      have q : m - x9.toInt.toNat = 0 := by omega
      refine ⟨PS, l, fun j hj => ?_, e⟩
      rw [q]
      exact (Int32.add_zero _).symm
    · rw [if_neg c] at e
      have d := i_nle c
      obtain ⟨a, ea, e⟩ := mm_bd1s e
      have ha := pl_e ea
      have e2 : fX9_movesAll_154 700 (fX9_movesAll_118 700 n) x1 x2 x4 x5 x6 x7 x8 x9 (if x4 = 0 then (1 : Int32) else (0 : Int32)) x9 x1 a ro co sR sC row col bel fac hi to PS = some z := by
        by_cases g : x4 = 0
        · rw [if_pos g] at e ⊢
          exact e
        · rw [if_neg g] at e ⊢
          exact e
      have e3 := pm_154 ha e2
      rw [ix_e L0 L5 p0 (by omega)] at e3
      generalize hi' : iw_w x4 (row.getD (32 * x1.toInt.toNat + x9.toInt.toNat) 0) (col.getD (32 * x1.toInt.toNat + x9.toInt.toNat) 0) = i at e3
      generalize hy : x9 + (1 : Int32) = y at e3
      have ey := i_addE hy (by omega) (by omega)
      obtain ⟨PS1, q1, q2, q3⟩ := ih y _ e3 (by omega) (by omega) (by rw [is_len]; exact l)
      refine ⟨PS1, q1, fun j hj => ?_, q3⟩
      rw [q2 j hj, ge_is _ _ _ _ (by omega)]
      obtain ⟨u, hu⟩ : ∃ u : Nat, m - x9.toInt.toNat = u + 1 := ⟨m - x9.toInt.toNat - 1, by omega⟩
      have hu2 : m - y.toInt.toNat = u := by omega
      have hy2 : y.toInt.toNat = x9.toInt.toNat + 1 := by omega
      rw [hu, hu2, hy2]
      show _ = PS.getD j 0 + ((if decide ((iw_w x4 (row.getD (32 * x1.toInt.toNat + x9.toInt.toNat) 0) (col.getD (32 * x1.toInt.toNat + x9.toInt.toNat) 0)).toInt.toNat = j) = true then (1 : Int32) else (0 : Int32)) + kc_w _ (x9.toInt.toNat + 1) u)
      rw [hi']
      by_cases g : i.toInt.toNat = j
      · rw [if_pos g, decide_eq_true g, if_pos rfl, ge_ig, g, Int32.add_assoc]
      · rw [if_neg g, decide_eq_false g, if_neg (by decide), Int32.zero_add]
/-- what lies where the place is mirrored to -/
def th_w (PS : List Int32) (x7 m x : Int32) : Int32 := if 0 ≤ m.toInt ∧ m.toInt ≤ (x7 - (1 : Int32)).toInt then PS.getD (((8 : Int32) * x) + m).toInt.toNat 0 else 0
def c9_w (x2 a x5 : Int32) : Bool := decide ((if x2 ≤ a then (0 : Int32) else (1 : Int32)) = x5)
def o9_w (x6 : Int32) : Bool := !decide (x6 = 0)
/-- a field before and behind the fold, as the reference has it -/
def mr_w (PS : List Int32) (x7 x4 x5 x6 x2 x8 r c b f b' f' p' : Int32) : Prop := b' = nb_w (c9_w x2 (pl_w x4 r c) x5) (o9_w x6) (PS.getD (iw_w x4 r c).toInt.toNat 0) (th_w PS x7 ((((2 : Int32) * x2) - (1 : Int32)) - pl_w x4 r c) (pc_w x4 r c)) b ∧ f' = nf_w (c9_w x2 (pl_w x4 r c) x5) f ∧ p' = np_w x2 x8 (pl_w x4 r c) (c9_w x2 (pl_w x4 r c) x5)
theorem pm_276 {k : Int32 → Int32 → Int32 → Int32 → Int32 → Int32 → Int32 → Int32 → Int32 → Int32 → List Int32 → List Int32 → List Int32 → List Int32 → List Int32 → List Int32 → List Int32 → List Int32 → List Int32 → Option (List Int32 × List Int32 × List Int32 × List Int32 × List Int32 × List Int32 × List Int32 × List Int32 × List Int32)} {x1 x2 x4 x5 x6 x7 x8 x9 x10 x11 x12 x14 ro co : Int32} {sR sC row col bel fac hi to PS : List Int32} {z : (List Int32 × List Int32 × List Int32 × List Int32 × List Int32 × List Int32 × List Int32 × List Int32 × List Int32)} (e : fX9_movesAll_276 700 k x1 x2 x4 x5 x6 x7 x8 x9 x10 x11 x12 ((((2 : Int32) * x2) - (1 : Int32)) - x11) x14 (if x2 ≤ x11 then (0 : Int32) else (1 : Int32)) ro co sR sC row col bel fac hi to PS = some z) : ∃ fac1 hi1 to1 : List Int32, k x1 x2 x4 x5 x6 x7 x8 (x9 + (1 : Int32)) ro co sR sC row col bel fac1 hi1 to1 PS = some z ∧ ps_w hi hi1 x9.toInt.toNat (nb_w (c9_w x2 x11 x5) (o9_w x6) (PS.getD (((8 : Int32) * x12) + x11).toInt.toNat 0) x14 (bel.getD x10.toInt.toNat 0)) ∧ ps_w to to1 x9.toInt.toNat (np_w x2 x8 x11 (c9_w x2 x11 x5)) ∧ ps_w fac fac1 x10.toInt.toNat (nf_w (c9_w x2 x11 x5) (fac.getD x10.toInt.toNat 0)) := by
  rw [uf_X9_movesAll_276] at e
  by_cases c : (if x2 ≤ x11 then (0 : Int32) else (1 : Int32)) = x5
  · have hc : c9_w x2 x11 x5 = true := decide_eq_true c
    rw [if_pos c] at e
    rw [hc]
    obtain ⟨i, ei, e⟩ := mm_bd1s e
    have hi' : ((8 : Int32) * x12) + x11 = i := sm_i ei
    have e := ck_x e
    have e := ck_x e
    rw [nm_eq] at e
    by_cases d : x6 = 0
    · rw [if_pos d, uf_X9_movesAll_326] at e
      have ho : o9_w x6 = false := by
        unfold o9_w
        rw [decide_eq_true d]
        rfl
      rw [ho]
      have e := ck_x e
      rw [nm_eq] at e
      have e := ck_x e
      rw [nm_eq] at e
      have e := ck_x e
      rw [nm_eq, nm_eq] at e
      have e := ck_x e
      rw [nm_eq, uf_X9_movesAll_402, nm_eq] at e
      rw [hi']
      exact ⟨_, _, _, e, ps_is _ _ _, ps_is _ _ _, ps_is _ _ _⟩
    · rw [if_neg d, uf_X9_movesAll_326] at e
      have ho : o9_w x6 = true := by
        unfold o9_w
        rw [decide_eq_false d]
        rfl
      rw [ho]
      have e := ck_x e
      rw [nm_eq] at e
      have e := ck_x e
      rw [nm_eq] at e
      have e := ck_x e
      rw [nm_eq, nm_eq] at e
      have e := ck_x e
      rw [nm_eq, uf_X9_movesAll_402, nm_eq] at e
      rw [hi']
      exact ⟨_, _, _, e, ps_is _ _ _, ps_is _ _ _, ps_is _ _ _⟩
  · have hc : c9_w x2 x11 x5 = false := decide_eq_false c
    rw [if_neg c] at e
    rw [hc]
    by_cases d : x6 = 0
    · rw [if_pos d] at e
      have ho : o9_w x6 = false := by
        unfold o9_w
        rw [decide_eq_true d]
        rfl
      rw [ho]
      have e := ck_x e
      rw [uf_X9_movesAll_389] at e
      have e := ck_x e
      rw [nm_eq, nm_eq] at e
      have e := ck_x e
      rw [nm_eq, uf_X9_movesAll_402, nm_eq] at e
      exact ⟨_, _, _, e, ps_is _ _ _, ps_is _ _ _, ps_id _ _⟩
    · rw [if_neg d] at e
      have ho : o9_w x6 = true := by
        unfold o9_w
        rw [decide_eq_false d]
        rfl
      rw [ho]
      have e := ck_x e
      rw [uf_X9_movesAll_389] at e
      have e := ck_x e
      rw [nm_eq, nm_eq] at e
      have e := ck_x e
      rw [nm_eq, uf_X9_movesAll_402, nm_eq] at e
      exact ⟨_, _, _, e, ps_is _ _ _, ps_is _ _ _, ps_id _ _⟩
theorem pm_217 {k : Int32 → Int32 → Int32 → Int32 → Int32 → Int32 → Int32 → Int32 → Int32 → Int32 → List Int32 → List Int32 → List Int32 → List Int32 → List Int32 → List Int32 → List Int32 → List Int32 → List Int32 → Option (List Int32 × List Int32 × List Int32 × List Int32 × List Int32 × List Int32 × List Int32 × List Int32 × List Int32)} {x1 x2 x4 x5 x6 x7 x8 x9 x11 ro co : Int32} {sR sC row col bel fac hi to PS : List Int32} {z : (List Int32 × List Int32 × List Int32 × List Int32 × List Int32 × List Int32 × List Int32 × List Int32 × List Int32)} {o : Nat} (ho : (((32 : Int32) * x1) + x9).toInt.toNat = o) (h11 : x11 = pl_w x4 (row.getD o 0) (col.getD o 0)) (e : fX9_movesAll_217 700 k x1 x2 x4 x5 x6 x7 x8 x9 (((32 : Int32) * x1) + x9) x11 (if x4 = 0 then (1 : Int32) else (0 : Int32)) x9 x1 ro co sR sC row col bel fac hi to PS = some z) : ∃ fac1 hi1 to1 : List Int32, k x1 x2 x4 x5 x6 x7 x8 (x9 + (1 : Int32)) ro co sR sC row col bel fac1 hi1 to1 PS = some z ∧ ∃ b' f' p' : Int32, mr_w PS x7 x4 x5 x6 x2 x8 (row.getD o 0) (col.getD o 0) (bel.getD o 0) (fac.getD o 0) b' f' p' ∧ ps_w hi hi1 x9.toInt.toNat b' ∧ ps_w to to1 x9.toInt.toNat p' ∧ ps_w fac fac1 o f' := by
  rw [uf_X9_movesAll_217] at e
  obtain ⟨a, ea, e⟩ := mm_bd1s e
  have ha := pl_e ea
  rw [pl_not, ho] at ha
  rw [nm_eq, wn_x, bs_1, i_64, i_64] at e
  have n0 : (0 : Int64).toInt = 0 := by decide
  rw [n0] at e
  unfold mr_w
  have hiw : iw_w x4 (row.getD o 0) (col.getD o 0) = ((8 : Int32) * a) + x11 := by
    unfold iw_w
    rw [← ha, ← h11]
  rw [hiw, ← ha, ← h11, ← ho]
  have key : ∀ t : Int32, fX9_movesAll_263 700 k x1 x2 x4 x5 x6 x7 x8 x9 (((32 : Int32) * x1) + x9) x11 a ((((2 : Int32) * x2) - (1 : Int32)) - x11) t ro co sR sC row col bel fac hi to PS = some z → t = th_w PS x7 ((((2 : Int32) * x2) - (1 : Int32)) - x11) a → ∃ fac1 hi1 to1 : List Int32, k x1 x2 x4 x5 x6 x7 x8 (x9 + (1 : Int32)) ro co sR sC row col bel fac1 hi1 to1 PS = some z ∧ ∃ b' f' p' : Int32, (b' = nb_w (c9_w x2 x11 x5) (o9_w x6) (PS.getD (((8 : Int32) * a) + x11).toInt.toNat 0) (th_w PS x7 ((((2 : Int32) * x2) - (1 : Int32)) - x11) a) (bel.getD (((32 : Int32) * x1) + x9).toInt.toNat 0) ∧ f' = nf_w (c9_w x2 x11 x5) (fac.getD (((32 : Int32) * x1) + x9).toInt.toNat 0) ∧ p' = np_w x2 x8 x11 (c9_w x2 x11 x5)) ∧ ps_w hi hi1 x9.toInt.toNat b' ∧ ps_w to to1 x9.toInt.toNat p' ∧ ps_w fac fac1 (((32 : Int32) * x1) + x9).toInt.toNat f' := by
    intro t e ht
    rw [uf_X9_movesAll_263] at e
    have e2 : fX9_movesAll_276 700 k x1 x2 x4 x5 x6 x7 x8 x9 (((32 : Int32) * x1) + x9) x11 a ((((2 : Int32) * x2) - (1 : Int32)) - x11) t (if x2 ≤ x11 then (0 : Int32) else (1 : Int32)) ro co sR sC row col bel fac hi to PS = some z := by
      by_cases g : x2 ≤ x11
      · rw [if_pos g] at e ⊢
        exact e
      · rw [if_neg g] at e ⊢
        exact e
    obtain ⟨fac1, hi1, to1, q, q1, q2, q3⟩ := pm_276 e2
    rw [ht] at q1
    exact ⟨fac1, hi1, to1, q, _, _, _, ⟨rfl, rfl, rfl⟩, q1, q2, q3⟩
  by_cases g : 0 ≤ ((((2 : Int32) * x2) - (1 : Int32)) - x11).toInt ∧ ((((2 : Int32) * x2) - (1 : Int32)) - x11).toInt ≤ (x7 - (1 : Int32)).toInt
  · rw [decide_eq_true g, if_neg (by decide)] at e
    obtain ⟨i, ei, e⟩ := mm_bd1s e
    have hi' : ((8 : Int32) * a) + ((((2 : Int32) * x2) - (1 : Int32)) - x11) = i := sm_i ei
    subst hi'
    refine key _ (ck_x e) ?_
    unfold th_w
    rw [if_pos g]
    rfl
  · rw [decide_eq_false g, if_pos rfl] at e
    refine key _ e ?_
    unfold th_w
    rw [if_neg g]
end
section
/-! Geometry: the reference's moves, the loops -/
theorem pm_174 {x1 x2 x4 x5 x6 x7 x8 ro co : Int32} {sR sC row col bel PS : List Int32} {z : (List Int32 × List Int32 × List Int32 × List Int32 × List Int32 × List Int32 × List Int32 × List Int32 × List Int32)} {m : Nat} (hm : (ro * co).toInt = m) (m32 : m ≤ 32) (L0 : 0 ≤ x1.toInt) (L5 : x1.toInt ≤ 5) : ∀ (n : Nat) (x9 : Int32) (fac hi to : List Int32), fX9_movesAll_174 700 n x1 x2 x4 x5 x6 x7 x8 x9 ro co sR sC row col bel fac hi to PS = some z → 0 ≤ x9.toInt → x9.toInt ≤ m → fac.length = 192 → hi.length = 32 → to.length = 32 → ∃ fac1 hi1 to1 : List Int32, (fac1.length = 192 ∧ hi1.length = 32 ∧ to1.length = 32) ∧ (∀ k : Nat, k < x9.toInt.toNat → hi1.getD k 0 = hi.getD k 0 ∧ to1.getD k 0 = to.getD k 0) ∧ (∀ j : Nat, j < 192 → (j < 32 * x1.toInt.toNat + x9.toInt.toNat ∨ 32 * x1.toInt.toNat + m ≤ j) → fac1.getD j 0 = fac.getD j 0) ∧ (∀ k : Nat, x9.toInt.toNat ≤ k → k < m → mr_w PS x7 x4 x5 x6 x2 x8 (row.getD (32 * x1.toInt.toNat + k) 0) (col.getD (32 * x1.toInt.toNat + k) 0) (bel.getD (32 * x1.toInt.toNat + k) 0) (fac.getD (32 * x1.toInt.toNat + k) 0) (hi1.getD k 0) (fac1.getD (32 * x1.toInt.toNat + k) 0) (to1.getD k 0)) ∧ fX9_movesAll_411 700 700 x1 x2 x4 x7 (0 : Int32) ro co sR sC row col bel fac1 hi1 to1 PS = some z := by
  have n1 : (1 : Int32).toInt = 1 := by decide
  intro n
  induction n with
  | zero =>
    intro x9 fac hi to e
    exact absurd e (by intro h; cases h)
  | succ n ih =>
    intro x9 fac hi to e p0 p1 l1 l2 l3
    rw [uf_X9_movesAll_174] at e
    obtain ⟨fl, ef, e⟩ := mm_bd1s e
    have hf : ro * co = fl := sm_i ef
    subst hf
    by_cases c : ro * co ≤ x9
    · rw [if_pos c] at e
      have d := i_le c
      exact ⟨fac, hi, to, ⟨l1, l2, l3⟩, fun k hk => ⟨rfl, rfl⟩, fun j _ _ => rfl, fun k k0 k1 => absurd k1 (by omega), e⟩
    · rw [if_neg c] at e
      have d := i_nle c
      rw [nm_eq] at e
      obtain ⟨a, ea, e⟩ := mm_bd1s e
      have ha := pl_e ea
      have e2 : fX9_movesAll_217 700 (fX9_movesAll_174 700 n) x1 x2 x4 x5 x6 x7 x8 x9 (((32 : Int32) * x1) + x9) a (if x4 = 0 then (1 : Int32) else (0 : Int32)) x9 x1 ro co sR sC row col bel fac hi to PS = some z := by
        by_cases g : x4 = 0
        · rw [if_pos g] at e ⊢
          exact e
        · rw [if_neg g] at e ⊢
          exact e
      have io := ix_e L0 L5 p0 (show x9.toInt ≤ 64 by omega)
      rw [io] at ha
      obtain ⟨fac1, hi1, to1, e3, b', f', p', hv, s1, s2, s3⟩ := pm_217 io ha e2
      generalize hy : x9 + (1 : Int32) = y at e3
      have ey := i_addE hy (by omega) (by omega)
      obtain ⟨fac2, hi2, to2, ⟨g1, g2, g3⟩, j1, j2, j3, j4⟩ := ih y fac1 hi1 to1 e3 (by omega) (by omega) (by rw [s3.1]; exact l1) (by rw [s1.1]; exact l2) (by rw [s2.1]; exact l3)
      refine ⟨fac2, hi2, to2, ⟨g1, g2, g3⟩, fun k hk => ?_, fun j hj hk => ?_, fun k k0 k1 => ?_, j4⟩
      · obtain ⟨q1, q2⟩ := j1 k (by omega)
        rw [q1, q2, ps_ne s1 (by omega) (by omega), ps_ne s2 (by omega) (by omega)]
        exact ⟨rfl, rfl⟩
      · rw [j2 j hj (by omega), ps_ne s3 (by omega) (by omega)]
      · by_cases g : x9.toInt.toNat = k
        · obtain ⟨q1, q2⟩ := j1 k (by omega)
          have q3 := j2 (32 * x1.toInt.toNat + k) (by omega) (by omega)
          rw [← g] at q1 q2 q3 ⊢
          rw [q1, q2, q3, ps_at s1 (by omega), ps_at s2 (by omega), ps_at s3 (by omega)]
          exact hv
        · have q := j3 k (by omega) k1
          rw [ps_ne s3 (by omega) (by omega)] at q
          exact q
def lf_w (x2 x7 : Int32) : Int32 := if x2 ≤ (x7 - x2) then x7 - x2 else x2
theorem pm_411 {x1 x2 x4 x7 ro co : Int32} {sR sC fac hi to PS : List Int32} {m : Nat} (hm : (ro * co).toInt = m) (m32 : m ≤ 32) (L0 : 0 ≤ x1.toInt) (L5 : x1.toInt ≤ 5) : ∀ (n : Nat) (x9 : Int32) (row col bel sR' sC' row' col' bel' fac' hi' to' PS' : List Int32), fX9_movesAll_411 700 n x1 x2 x4 x7 x9 ro co sR sC row col bel fac hi to PS = some (sR', sC', row', col', bel', fac', hi', to', PS') → 0 ≤ x9.toInt → x9.toInt ≤ m → row.length = 192 → col.length = 192 → bel.length = 192 → (fac' = fac ∧ sR' = (if x4 = 0 then mm_is sR x1 (lf_w x2 x7) else sR) ∧ sC' = (if x4 = 0 then sC else mm_is sC x1 (lf_w x2 x7)) ∧ row'.length = 192 ∧ col'.length = 192 ∧ bel'.length = 192 ∧ hi' = hi ∧ to' = to ∧ PS' = PS) ∧ (∀ j : Nat, j < 192 → (j < 32 * x1.toInt.toNat + x9.toInt.toNat ∨ 32 * x1.toInt.toNat + m ≤ j) → row'.getD j 0 = row.getD j 0 ∧ col'.getD j 0 = col.getD j 0 ∧ bel'.getD j 0 = bel.getD j 0) ∧ (∀ k : Nat, x9.toInt.toNat ≤ k → k < m → row'.getD (32 * x1.toInt.toNat + k) 0 = (if x4 = 0 then to.getD k 0 else row.getD (32 * x1.toInt.toNat + k) 0) ∧ col'.getD (32 * x1.toInt.toNat + k) 0 = (if x4 = 0 then col.getD (32 * x1.toInt.toNat + k) 0 else to.getD k 0) ∧ bel'.getD (32 * x1.toInt.toNat + k) 0 = hi.getD k 0) := by
  have n1 : (1 : Int32).toInt = 1 := by decide
  intro n
  induction n with
  | zero =>
    intro x9 row col bel sR' sC' row' col' bel' fac' hi' to' PS' e
    exact absurd e (by intro h; cases h)
  | succ n ih =>
    intro x9 row col bel sR' sC' row' col' bel' fac' hi' to' PS' e p0 p1 l1 l2 l3
    rw [uf_X9_movesAll_411] at e
    obtain ⟨fl, ef, e⟩ := mm_bd1s e
    have hf : ro * co = fl := sm_i ef
    subst hf
    by_cases c : ro * co ≤ x9
    · rw [if_pos c] at e
      have d := i_le c
      have e2 : fX9_movesAll_507 700 x1 x4 (lf_w x2 x7) ro co sR sC row col bel fac hi to PS = some (sR', sC', row', col', bel', fac', hi', to', PS') := by
        unfold lf_w
        by_cases g : x2 ≤ (x7 - x2)
        · rw [if_pos g] at e ⊢
          exact e
        · rw [if_neg g] at e ⊢
          exact e
      rw [uf_X9_movesAll_507] at e2
      by_cases g : x4 = 0
      · rw [if_pos g] at e2
        have e2 := ck_x e2
        rw [nm_eq] at e2
        apply mm_sub9 e2
        rw [if_pos g, if_pos g]
        exact ⟨⟨rfl, rfl, rfl, l1, l2, l3, rfl, rfl, rfl⟩, fun j _ _ => ⟨rfl, rfl, rfl⟩, fun k k0 k1 => absurd k1 (by omega)⟩
      · rw [if_neg g] at e2
        have e2 := ck_x e2
        rw [nm_eq] at e2
        apply mm_sub9 e2
        rw [if_neg g, if_neg g]
        exact ⟨⟨rfl, rfl, rfl, l1, l2, l3, rfl, rfl, rfl⟩, fun j _ _ => ⟨rfl, rfl, rfl⟩, fun k k0 k1 => absurd k1 (by omega)⟩
    · rw [if_neg c] at e
      have d := i_nle c
      have e := ck_x e
      rw [nm_eq] at e
      have e := ck_x e
      rw [nm_eq] at e
      have io := ix_e L0 L5 p0 (show x9.toInt ≤ 64 by omega)
      have key : ∀ (row1 col1 : List Int32), fX9_movesAll_485 700 (fX9_movesAll_411 700 n) x1 x2 x4 x7 x9 ro co sR sC row1 col1 (mm_is bel (((32 : Int32) * x1) + x9) (mm_ig hi x9)) fac hi to PS = some (sR', sC', row', col', bel', fac', hi', to', PS') → ps_w row row1 (32 * x1.toInt.toNat + x9.toInt.toNat) (if x4 = 0 then to.getD x9.toInt.toNat 0 else row.getD (32 * x1.toInt.toNat + x9.toInt.toNat) 0) → ps_w col col1 (32 * x1.toInt.toNat + x9.toInt.toNat) (if x4 = 0 then col.getD (32 * x1.toInt.toNat + x9.toInt.toNat) 0 else to.getD x9.toInt.toNat 0) → (fac' = fac ∧ sR' = (if x4 = 0 then mm_is sR x1 (lf_w x2 x7) else sR) ∧ sC' = (if x4 = 0 then sC else mm_is sC x1 (lf_w x2 x7)) ∧ row'.length = 192 ∧ col'.length = 192 ∧ bel'.length = 192 ∧ hi' = hi ∧ to' = to ∧ PS' = PS) ∧ (∀ j : Nat, j < 192 → (j < 32 * x1.toInt.toNat + x9.toInt.toNat ∨ 32 * x1.toInt.toNat + m ≤ j) → row'.getD j 0 = row.getD j 0 ∧ col'.getD j 0 = col.getD j 0 ∧ bel'.getD j 0 = bel.getD j 0) ∧ (∀ k : Nat, x9.toInt.toNat ≤ k → k < m → row'.getD (32 * x1.toInt.toNat + k) 0 = (if x4 = 0 then to.getD k 0 else row.getD (32 * x1.toInt.toNat + k) 0) ∧ col'.getD (32 * x1.toInt.toNat + k) 0 = (if x4 = 0 then col.getD (32 * x1.toInt.toNat + k) 0 else to.getD k 0) ∧ bel'.getD (32 * x1.toInt.toNat + k) 0 = hi.getD k 0) := by
        intro row1 col1 e s1 s2
        have s3 := ps_is bel (((32 : Int32) * x1) + x9) (mm_ig hi x9)
        rw [io] at s3
        rw [uf_X9_movesAll_485, nm_eq] at e
        generalize hy : x9 + (1 : Int32) = y at e
        have ey := i_addE hy (by omega) (by omega)
        obtain ⟨j1, j2, j3⟩ := ih y row1 col1 _ sR' sC' row' col' bel' fac' hi' to' PS' e (by omega) (by omega) (by rw [s1.1]; exact l1) (by rw [s2.1]; exact l2) (by rw [s3.1]; exact l3)
        refine ⟨j1, fun j hj hk => ?_, fun k k0 k1 => ?_⟩
        · obtain ⟨q1, q2, q3⟩ := j2 j hj (by omega)
          rw [q1, q2, q3, ps_ne s1 (by omega) (by omega), ps_ne s2 (by omega) (by omega), ps_ne s3 (by omega) (by omega)]
          exact ⟨rfl, rfl, rfl⟩
        · by_cases g : x9.toInt.toNat = k
          · obtain ⟨q1, q2, q3⟩ := j2 (32 * x1.toInt.toNat + k) (by omega) (by omega)
            rw [← g] at q1 q2 q3 ⊢
            rw [q1, q2, q3, ps_at s1 (by omega), ps_at s2 (by omega), ps_at s3 (by omega)]
            exact ⟨rfl, rfl, rfl⟩
          · obtain ⟨q1, q2, q3⟩ := j3 k (by omega) k1
            rw [q1, q2, q3, ps_ne s1 (by omega) (by omega), ps_ne s2 (by omega) (by omega)]
            exact ⟨rfl, rfl, rfl⟩
      by_cases g : x4 = 0
      · rw [if_pos g] at e
        have e := ck_x e
        rw [nm_eq] at e
        have e := ck_x e
        rw [nm_eq] at e
        refine key _ _ e ?_ ?_
        · rw [if_pos g, ← io]
          exact ps_is _ _ _
        · rw [if_pos g]
          exact ps_id _ _
      · rw [if_neg g] at e
        have e := ck_x e
        rw [nm_eq] at e
        have e := ck_x e
        rw [nm_eq] at e
        refine key _ _ e ?_ ?_
        · rw [if_neg g]
          exact ps_id _ _
        · rw [if_neg g, ← io]
          exact ps_is _ _ _
def b9_w (w : Int32) : Int32 := if (4 : Int32) ≤ w then (0 : Int32) else (1 : Int32)
def l9_w (w : Int32) : Int32 := if (2 : Int32) ≤ (mm_rem w (4 : Int32)) then (0 : Int32) else (1 : Int32)
def v9_w (w : Int32) : Int32 := if (mm_rem w (2 : Int32)) = 0 then (1 : Int32) else (0 : Int32)
def s9_w (x2 x5 x7 : Int32) : Int32 := if x5 = 0 then (if (0 : Int32) ≤ (((2 : Int32) * x2) - x7) then (0 : Int32) else (((2 : Int32) * x2) - x7)) else x2
theorem mo_e {x1 x2 w ro co : Int32} {sR sC row col bel fac hi to PS sR' sC' row' col' bel' fac' hi' to' PS' : List Int32} {m : Nat} (hm : (ro * co).toInt = m) (m32 : m ≤ 32) (L0 : 0 ≤ x1.toInt) (L5 : x1.toInt ≤ 5) (l1 : row.length = 192) (l2 : col.length = 192) (l3 : bel.length = 192) (l4 : fac.length = 192) (l5 : hi.length = 32) (l6 : to.length = 32) (l7 : PS.length = 64) (e : fX9_movesAll 700 x1 x2 w ro co sR sC row col bel fac hi to PS = some (sR', sC', row', col', bel', fac', hi', to', PS')) : ∃ (x7 : Int32) (PS1 hi1 to1 : List Int32), x7 = (if b9_w w = 0 then mm_ig sR x1 else mm_ig sC x1) ∧ PS1.length = 64 ∧ (∀ j : Nat, j < 64 → PS1.getD j 0 = kc_w (fun k => decide ((iw_w (b9_w w) (row.getD (32 * x1.toInt.toNat + k) 0) (col.getD (32 * x1.toInt.toNat + k) 0)).toInt.toNat = j)) 0 m) ∧ (sR' = (if b9_w w = 0 then mm_is sR x1 (lf_w x2 x7) else sR) ∧ sC' = (if b9_w w = 0 then sC else mm_is sC x1 (lf_w x2 x7))) ∧ (∀ j : Nat, j < 192 → (j < 32 * x1.toInt.toNat ∨ 32 * x1.toInt.toNat + m ≤ j) → row'.getD j 0 = row.getD j 0 ∧ col'.getD j 0 = col.getD j 0 ∧ bel'.getD j 0 = bel.getD j 0 ∧ fac'.getD j 0 = fac.getD j 0) ∧ (∀ k : Nat, k < m → mr_w PS1 x7 (b9_w w) (l9_w w) (v9_w w) x2 (s9_w x2 (l9_w w) x7) (row.getD (32 * x1.toInt.toNat + k) 0) (col.getD (32 * x1.toInt.toNat + k) 0) (bel.getD (32 * x1.toInt.toNat + k) 0) (fac.getD (32 * x1.toInt.toNat + k) 0) (bel'.getD (32 * x1.toInt.toNat + k) 0) (fac'.getD (32 * x1.toInt.toNat + k) 0) (to1.getD k 0) ∧ row'.getD (32 * x1.toInt.toNat + k) 0 = (if b9_w w = 0 then to1.getD k 0 else row.getD (32 * x1.toInt.toNat + k) 0) ∧ col'.getD (32 * x1.toInt.toNat + k) 0 = (if b9_w w = 0 then col.getD (32 * x1.toInt.toNat + k) 0 else to1.getD k 0)) ∧ (row'.length = 192 ∧ col'.length = 192 ∧ bel'.length = 192 ∧ fac'.length = 192 ∧ hi'.length = 32 ∧ to'.length = 32 ∧ PS'.length = 64) := by
  have n0 : (0 : Int32).toInt = 0 := by decide
  have e10 : fX9_movesAll_10 700 x1 x2 w (b9_w w) ro co sR sC row col bel fac hi to PS = some (sR', sC', row', col', bel', fac', hi', to', PS') := by
    rw [uf_X9_movesAll] at e
    unfold b9_w
    by_cases g : (4 : Int32) ≤ w
    · rw [if_pos g] at e ⊢
      exact e
    · rw [if_neg g] at e ⊢
      exact e
  generalize b9_w w = x4 at e10 ⊢
  have e24 : fX9_movesAll_24 700 x1 x2 w x4 (l9_w w) ro co sR sC row col bel fac hi to PS = some (sR', sC', row', col', bel', fac', hi', to', PS') := by
    rw [uf_X9_movesAll_10] at e10
    have e10 := ck_x e10
    unfold l9_w
    by_cases g : (2 : Int32) ≤ (mm_rem w (4 : Int32))
    · rw [if_pos g] at e10 ⊢
      exact e10
    · rw [if_neg g] at e10 ⊢
      exact e10
  generalize l9_w w = x5 at e24 ⊢
  have e37 : fX9_movesAll_37 700 x1 x2 x4 x5 (v9_w w) ro co sR sC row col bel fac hi to PS = some (sR', sC', row', col', bel', fac', hi', to', PS') := by
    rw [uf_X9_movesAll_24] at e24
    have e24 := ck_x e24
    unfold v9_w
    by_cases g : (mm_rem w (2 : Int32)) = 0
    · rw [if_pos g] at e24 ⊢
      exact e24
    · rw [if_neg g] at e24 ⊢
      exact e24
  generalize v9_w w = x6 at e37 ⊢
  have e59 : fX9_movesAll_59 700 x1 x2 x4 x5 x6 (if x4 = 0 then mm_ig sR x1 else mm_ig sC x1) ro co sR sC row col bel fac hi to PS = some (sR', sC', row', col', bel', fac', hi', to', PS') := by
    rw [uf_X9_movesAll_37] at e37
    by_cases g : x4 = 0
    · rw [if_pos g] at e37 ⊢
      exact ck_x e37
    · rw [if_neg g] at e37 ⊢
      exact ck_x e37
  refine ⟨(if x4 = 0 then mm_ig sR x1 else mm_ig sC x1), ?_⟩
  generalize (if x4 = 0 then mm_ig sR x1 else mm_ig sC x1) = x7 at e59 ⊢
  have e94 : fX9_movesAll_94 700 700 x1 x2 x4 x5 x6 x7 (s9_w x2 x5 x7) (0 : Int32) ro co sR sC row col bel fac hi to PS = some (sR', sC', row', col', bel', fac', hi', to', PS') := by
    rw [uf_X9_movesAll_59] at e59
    unfold s9_w
    by_cases g : x5 = 0
    · rw [if_pos g] at e59 ⊢
      by_cases h : (0 : Int32) ≤ (((2 : Int32) * x2) - x7)
      · rw [if_pos h] at e59 ⊢
        rw [uf_X9_movesAll_89] at e59
        exact e59
      · rw [if_neg h] at e59 ⊢
        rw [uf_X9_movesAll_89] at e59
        exact e59
    · rw [if_neg g] at e59 ⊢
      rw [uf_X9_movesAll_89] at e59
      exact e59
  obtain ⟨PS0, a1, a2, e118⟩ := pm_94 700 (0 : Int32) PS e94 (by omega) (by omega) l7 (fun k hk => absurd hk (by omega))
  obtain ⟨PS1, b1, b2, e174⟩ := pm_118 hm m32 L0 L5 700 (0 : Int32) PS0 e118 (by omega) (by omega) a1
  obtain ⟨fac1, hi1, to1, ⟨c1, c2, c3⟩, -, d2, d3, e411⟩ := pm_174 hm m32 L0 L5 700 (0 : Int32) fac hi to e174 (by omega) (by omega) l4 l5 l6
  obtain ⟨⟨f1, f2, f3, f4, f5, f6, f7, f8, f9⟩, g2, g3⟩ := pm_411 hm m32 L0 L5 700 (0 : Int32) row col bel sR' sC' row' col' bel' fac' hi' to' PS' e411 (by omega) (by omega) l1 l2 l3
  have z0 : (0 : Int32).toInt.toNat = 0 := by decide
  rw [z0] at b2 d2 d3 g2 g3
  subst f1 f7 f8 f9
  refine ⟨PS', hi', to', rfl, b1, fun j hj => ?_, ⟨f2, f3⟩, fun j hj hk => ?_, fun k hk => ?_, ⟨f4, f5, f6, c1, c2, c3, b1⟩⟩
  · rw [b2 j hj, a2 j hj, Int32.zero_add]
    rfl
  · obtain ⟨q1, q2, q3⟩ := g2 j hj (by omega)
    exact ⟨q1, q2, q3, d2 j hj (by omega)⟩
  · obtain ⟨q1, q2, q3⟩ := g3 k (by omega) hk
    have q := d3 k (by omega) hk
    rw [← q3] at q
    exact ⟨q, q1, q2⟩
end
section
/-! Geometry: piles, the turn whole -/
theorem fi_5 {v x3 : Int32} : ∀ (n : Nat) (x2 : Int32) (l l' : List Int32), fJ7_fill_53178_5 700 n v x2 x3 l = some l' → 0 ≤ x2.toInt → x3.toInt ≤ l.length → x3.toInt < 2147483647 → l'.length = l.length ∧ ∀ k : Nat, k < l.length → l'.getD k 0 = if x2.toInt.toNat ≤ k ∧ k < x3.toInt.toNat then v else l.getD k 0 := by
  have n1 : (1 : Int32).toInt = 1 := by decide
  intro n
  induction n with
  | zero =>
    intro x2 l l' e
    exact absurd e (by intro h; cases h)
  | succ n ih =>
    intro x2 l l' e p0 p1 p2
    rw [uf_J7_fill_53178_5] at e
    by_cases c : x3 ≤ x2
    · rw [if_pos c] at e
      have d := i_le c
      have e := sm_i e
      subst e
      exact ⟨rfl, fun k hk => by rw [if_neg (by omega)]⟩
    · rw [if_neg c] at e
      have d := i_nle c
      have e := ck_x e
      rw [nm_eq, nm_eq] at e
      generalize hy : x2 + (1 : Int32) = y at e
      have ey := i_addE hy (by omega) (by omega)
      obtain ⟨q1, q2⟩ := ih y _ l' e (by omega) (by rw [is_len]; exact p1) p2
      rw [is_len] at q1 q2
      refine ⟨q1, fun k hk => ?_⟩
      rw [q2 k hk, ge_is _ _ _ _ hk]
      by_cases g : x2.toInt.toNat = k
      · rw [if_neg (by omega), if_pos g, if_pos (by omega)]
      · rw [if_neg g]
        by_cases h : x2.toInt.toNat ≤ k ∧ k < x3.toInt.toNat
        · rw [if_pos (by omega), if_pos h]
        · rw [if_neg (by omega), if_neg h]
theorem fi_e {v : Int32} {l l' : List Int32} (e : fJ7_fill_53178 700 v l = some l') (h : l.length ≤ 1000) : l'.length = l.length ∧ ∀ k : Nat, k < l.length → l'.getD k 0 = v := by
  rw [uf_J7_fill_53178, nm_eq] at e
  have n0 : (0 : Int32).toInt = 0 := by decide
  have hn : (Int32.ofNat l.length).toInt = (l.length : Int) := Int32.toInt_ofNat_of_lt (by omega)
  obtain ⟨q1, q2⟩ := fi_5 700 (0 : Int32) l l' e (by omega) (by omega) (by omega)
  refine ⟨q1, fun k hk => ?_⟩
  rw [q2 k hk, if_pos (by omega)]
def it_w (r c : Int32) : Int32 := (r * (8 : Int32)) + c
theorem ms_10 {rows cols : Int32} {R C : List Int32} {m : Nat} (hm : (rows * cols).toInt = m) (m32 : m ≤ 32) : ∀ (n : Nat) (x1 : Int32) (T T' : List Int32), fX5_measurePiles_10 700 n x1 rows cols R C T = some T' → 0 ≤ x1.toInt → x1.toInt ≤ m → T'.length = T.length ∧ ∀ j : Nat, j < T.length → T'.getD j 0 = T.getD j 0 + kc_w (fun k => decide ((it_w (R.getD k 0) (C.getD k 0)).toInt.toNat = j)) x1.toInt.toNat (m - x1.toInt.toNat) := by
  have n1 : (1 : Int32).toInt = 1 := by decide
  intro n
  induction n with
  | zero =>
    intro x1 T T' e
    exact absurd e (by intro h; cases h)
  | succ n ih =>
    intro x1 T T' e p0 p1
    rw [uf_X5_measurePiles_10] at e
    obtain ⟨fl, ef, e⟩ := mm_bd1s e
    have hf : rows * cols = fl := sm_i ef
    subst hf
    by_cases c : rows * cols ≤ x1
    · rw [if_pos c] at e
      have d := i_le c
      have e := sm_i e
      subst e
      have q : m - x1.toInt.toNat = 0 := by omega
      refine ⟨rfl, fun j hj => ?_⟩
      rw [q]
      exact (Int32.add_zero _).symm
    · rw [if_neg c] at e
      have d := i_nle c
      have e := ck_x (ck_x (ck_x e))
      rw [nm_eq] at e
      have e := ck_x e
      rw [nm_eq, nm_eq] at e
      have hi' : it_w (R.getD x1.toInt.toNat 0) (C.getD x1.toInt.toNat 0) = ((mm_ig R x1) * (8 : Int32)) + (mm_ig C x1) := rfl
      rw [← hi'] at e
      generalize hi2 : it_w (R.getD x1.toInt.toNat 0) (C.getD x1.toInt.toNat 0) = i at e
      generalize hy : x1 + (1 : Int32) = y at e
      have ey := i_addE hy (by omega) (by omega)
      obtain ⟨q1, q2⟩ := ih y _ T' e (by omega) (by omega)
      rw [is_len] at q1 q2
      refine ⟨q1, fun j hj => ?_⟩
      rw [q2 j hj, ge_is _ _ _ _ hj]
      obtain ⟨u, hu⟩ : ∃ u : Nat, m - x1.toInt.toNat = u + 1 := ⟨m - x1.toInt.toNat - 1, by omega⟩
      have hu2 : m - y.toInt.toNat = u := by omega
      have hy2 : y.toInt.toNat = x1.toInt.toNat + 1 := by omega
      rw [hu, hu2, hy2]
      show _ = T.getD j 0 + ((if decide ((it_w (R.getD x1.toInt.toNat 0) (C.getD x1.toInt.toNat 0)).toInt.toNat = j) = true then (1 : Int32) else (0 : Int32)) + kc_w _ (x1.toInt.toNat + 1) u)
      rw [hi2]
      by_cases g : i.toInt.toNat = j
      · rw [if_pos g, decide_eq_true g, if_pos rfl, ge_ig, g, Int32.add_assoc]
      · rw [if_neg g, decide_eq_false g, if_neg (by decide), Int32.zero_add]
def s8_w (x1 x2 high wide : Int32) : Int32 := if csw x2 = false then mm_min (0 : Int32) (((2 : Int32) * x1) - (if (4 : Int32) ≤ x2 then high else wide)) else x1
theorem tn_e {x1 x2 rows cols high wide h' w' : Int32} {R C B F T R' C' B' F' T' : List Int32} {m : Nat} (hm : (rows * cols).toInt = m) (m32 : m ≤ 32) (l1 : R.length = 32) (l2 : C.length = 32) (l3 : B.length = 32) (l4 : F.length = 32) (l5 : T.length = 32) (e : fX5_turn 700 x1 x2 rows cols high wide R C B F T = some (h', w', R', C', B', F', T')) : ∃ T1 : List Int32, T1.length = 32 ∧ (∀ j : Nat, j < 32 → T1.getD j 0 = kc_w (fun k => decide ((it_w (R.getD k 0) (C.getD k 0)).toInt.toNat = j)) 0 m) ∧ (h' = (if (4 : Int32) ≤ x2 then mm_max x1 (high - x1) else high) ∧ w' = (if (4 : Int32) ≤ x2 then wide else mm_max x1 (wide - x1))) ∧ (∀ k : Nat, k < m → mv_w T1 high wide x2 x1 (s8_w x1 x2 high wide) (R.getD k 0) (C.getD k 0) (B.getD k 0) (F.getD k 0) (R'.getD k 0) (C'.getD k 0) (B'.getD k 0) (F'.getD k 0)) := by
  have n0 : (0 : Int32).toInt = 0 := by decide
  have z0 : (0 : Int32).toInt.toNat = 0 := by decide
  rw [uf_X5_turn] at e
  obtain ⟨T1, et, e⟩ := mm_bd1s e
  rw [uf_X5_measurePiles] at et
  obtain ⟨T0, e0, et⟩ := mm_bd1s et
  obtain ⟨a1, a2⟩ := fi_e e0 (by omega)
  obtain ⟨b1, b2⟩ := ms_10 hm m32 700 (0 : Int32) T0 T1 et (by omega) (by omega)
  obtain ⟨s, es, e⟩ := mm_bd1s e
  have hs := sp_e es
  obtain ⟨q, eq, e⟩ := mm_bd1s e
  have hq := cs_e eq
  subst hq
  have e2 : fX5_turn_35 700 700 x1 x2 (s8_w x1 x2 high wide) (0 : Int32) rows cols high wide R C B F T1 = some (h', w', R', C', B', F', T') := by
    unfold s8_w
    rw [← hs]
    by_cases g : csw x2 = false
    · rw [if_pos g] at e ⊢
      exact e
    · rw [if_neg g] at e ⊢
      exact e
  obtain ⟨j1, -, j3⟩ := tu_35 hm m32 700 (0 : Int32) R C B F h' w' R' C' B' F' T' e2 (by omega) (by omega) l1 l2 l3 l4
  rw [z0] at b2
  refine ⟨T1, by omega, fun j hj => ?_, j1, fun k hk => j3 k (by omega) hk⟩
  rw [b2 j (by omega), a2 j (by omega), Int32.zero_add]
  rfl
theorem it_i {r c : Int32} (r0 : 0 ≤ r.toInt) (r1 : r.toInt < 8) (c0 : 0 ≤ c.toInt) (c1 : c.toInt < 8) : (it_w r c).toInt = 8 * r.toInt + c.toInt := by
  unfold it_w
  generalize hz : r * (8 : Int32) = z
  have ez := i_mulRE (c := 8) (by decide) hz (by omega) (by omega)
  generalize hy : z + c = y
  have ey := i_addE hy (by omega) (by omega)
  omega
theorem i8_i {x a : Int32} (r0 : 0 ≤ x.toInt) (r1 : x.toInt < 8) (c0 : 0 ≤ a.toInt) (c1 : a.toInt < 8) : (((8 : Int32) * x) + a).toInt = 8 * x.toInt + a.toInt := by
  generalize hz : (8 : Int32) * x = z
  have ez := i_mulLE (c := 8) (by decide) hz (by omega) (by omega)
  generalize hy : z + a = y
  have ey := i_addE hy (by omega) (by omega)
  omega
theorem wy_8 : ∀ k : Fin 8, l9_w (Int32.ofNat k.val) = mm_b (csw (Int32.ofNat k.val)) ∧ o9_w (v9_w (Int32.ofNat k.val)) = ovw (Int32.ofNat k.val) := by decide +kernel
theorem on_x {u : Int32} (h0 : 0 ≤ u.toInt) (h1 : u.toInt < 128) : Int32.ofNat u.toInt.toNat = u := by
  apply Int32.toInt_inj.mp
  rw [Int32.toInt_ofNat_of_lt (by omega)]
  omega
theorem wy_e {w : Int32} (h0 : 0 ≤ w.toInt) (h1 : w.toInt ≤ 7) : l9_w w = mm_b (csw w) ∧ o9_w (v9_w w) = ovw w := by
  have q := wy_8 ⟨w.toInt.toNat, by omega⟩
  rw [on_x h0 (by omega)] at q
  exact q
theorem b9_p {w : Int32} (h : (4 : Int32) ≤ w) : b9_w w = 0 := by
  unfold b9_w
  rw [if_pos h]
theorem b9_n {w : Int32} (h : ¬ (4 : Int32) ≤ w) : b9_w w = 1 := by
  unfold b9_w
  rw [if_neg h]
theorem al_p (w r c : Int32) : pl_w (b9_w w) r c = al_w w r c := by
  unfold pl_w al_w
  by_cases h : (4 : Int32) ≤ w
  · rw [b9_p h, if_pos rfl, if_pos h]
  · rw [b9_n h, if_neg (by decide), if_neg h]
theorem ac_p (w r c : Int32) : pc_w (b9_w w) r c = ac_w w r c := by
  unfold pc_w ac_w
  by_cases h : (4 : Int32) ≤ w
  · rw [b9_p h, if_pos rfl, if_pos h]
  · rw [b9_n h, if_neg (by decide), if_neg h]
/-- the piles' heights, told both ways -/
theorem hq_e {w a x : Int32} {R C T1 PS1 : List Int32} {m : Nat} (rr : ∀ k : Nat, k < m → 0 ≤ (R.getD k 0).toInt ∧ (R.getD k 0).toInt < 4) (rc : ∀ k : Nat, k < m → 0 ≤ (C.getD k 0).toInt ∧ (C.getD k 0).toInt < 8) (t1 : ∀ j : Nat, j < 32 → T1.getD j 0 = kc_w (fun k => decide ((it_w (R.getD k 0) (C.getD k 0)).toInt.toNat = j)) 0 m) (t2 : ∀ j : Nat, j < 64 → PS1.getD j 0 = kc_w (fun k => decide ((iw_w (b9_w w) (R.getD k 0) (C.getD k 0)).toInt.toNat = j)) 0 m) (a0 : 0 ≤ a.toInt) (a1 : a.toInt < (if (4 : Int32) ≤ w then (4 : Int) else (8 : Int))) (x0 : 0 ≤ x.toInt) (x1 : x.toInt < (if (4 : Int32) ≤ w then (8 : Int) else (4 : Int))) : (if (4 : Int32) ≤ w then mm_ig T1 ((a * (8 : Int32)) + x) else mm_ig T1 ((x * (8 : Int32)) + a)) = PS1.getD (((8 : Int32) * x) + a).toInt.toNat 0 := by
  by_cases h : (4 : Int32) ≤ w
  · rw [if_pos h] at a1 x1 ⊢
    have e1 := it_i a0 (by omega) x0 x1
    have e2 := i8_i x0 x1 a0 (by omega)
    show T1.getD (it_w a x).toInt.toNat 0 = _
    rw [t1 _ (by omega), t2 _ (by omega)]
    refine kc_c m 0 (fun k k0 k1 => ?_)
    obtain ⟨u0, u1⟩ := rr k (by omega)
    obtain ⟨v0, v1⟩ := rc k (by omega)
    have e3 := it_i u0 (by omega) v0 v1
    have e4 := i8_i v0 v1 u0 (by omega)
    have e5 : iw_w (b9_w w) (R.getD k 0) (C.getD k 0) = ((8 : Int32) * C.getD k 0) + R.getD k 0 := by
      unfold iw_w
      rw [b9_p h]
      rfl
    rw [e5]
    exact decide_eq_decide.mpr (by omega)
  · rw [if_neg h] at a1 x1 ⊢
    have e1 := it_i x0 (by omega) a0 a1
    have e2 := i8_i x0 (by omega) a0 a1
    show T1.getD (it_w x a).toInt.toNat 0 = _
    rw [t1 _ (by omega), t2 _ (by omega)]
    refine kc_c m 0 (fun k k0 k1 => ?_)
    obtain ⟨u0, u1⟩ := rr k (by omega)
    obtain ⟨v0, v1⟩ := rc k (by omega)
    have e3 := it_i u0 (by omega) v0 v1
    have e4 := i8_i u0 (by omega) v0 v1
    have e5 : iw_w (b9_w w) (R.getD k 0) (C.getD k 0) = ((8 : Int32) * R.getD k 0) + C.getD k 0 := by
      unfold iw_w
      rw [b9_n h]
      rfl
    rw [e5]
    exact decide_eq_decide.mpr (by omega)
end
section
/-! Geometry: turn and moves alike -/
theorem th_e {w y x high wide : Int32} {R C T1 PS1 : List Int32} {m : Nat} (hh : 1 ≤ high.toInt ∧ high.toInt ≤ 4) (hw : 1 ≤ wide.toInt ∧ wide.toInt ≤ 8) (rr : ∀ k : Nat, k < m → 0 ≤ (R.getD k 0).toInt ∧ (R.getD k 0).toInt < 4) (rc : ∀ k : Nat, k < m → 0 ≤ (C.getD k 0).toInt ∧ (C.getD k 0).toInt < 8) (t1 : ∀ j : Nat, j < 32 → T1.getD j 0 = kc_w (fun k => decide ((it_w (R.getD k 0) (C.getD k 0)).toInt.toNat = j)) 0 m) (t2 : ∀ j : Nat, j < 64 → PS1.getD j 0 = kc_w (fun k => decide ((iw_w (b9_w w) (R.getD k 0) (C.getD k 0)).toInt.toNat = j)) 0 m) (x0 : 0 ≤ x.toInt) (x1 : x.toInt < (if (4 : Int32) ≤ w then (8 : Int) else (4 : Int))) : th_w PS1 (if (4 : Int32) ≤ w then high else wide) y x = ta_w T1 high wide w y x := by
  have n0 : (0 : Int32).toInt = 0 := by decide
  have n1 : (1 : Int32).toInt = 1 := by decide
  obtain ⟨sp, hsp, s0, s1⟩ : ∃ sp : Int32, (if (4 : Int32) ≤ w then high else wide) = sp ∧ 1 ≤ sp.toInt ∧ sp.toInt ≤ (if (4 : Int32) ≤ w then (4 : Int) else (8 : Int)) := by
    by_cases h : (4 : Int32) ≤ w
    · rw [if_pos h, if_pos h]
      exact ⟨high, rfl, hh.1, hh.2⟩
    · rw [if_neg h, if_neg h]
      exact ⟨wide, rfl, hw.1, hw.2⟩
  have s2 : sp.toInt ≤ 8 := by
    by_cases h : (4 : Int32) ≤ w
    · rw [if_pos h] at s1
      omega
    · rw [if_neg h] at s1
      omega
  unfold th_w ta_w
  rw [hsp]
  generalize hz : sp - (1 : Int32) = z
  have ez := i_subE hz (by omega) (by omega)
  by_cases c1 : y < 0
  · have d1 := i_lt c1
    rw [if_pos c1, if_neg (by omega)]
  · have d1 := i_nlt c1
    rw [if_neg c1]
    by_cases c2 : y < sp
    · have d2 := i_lt c2
      rw [if_pos c2, if_pos (by omega)]
      exact (hq_e rr rc t1 t2 (by omega) (by omega) x0 x1).symm
    · have d2 := i_nlt c2
      rw [if_neg c2, if_neg (by omega)]
theorem st_e {x1 w high wide x7 : Int32} (hx : x7 = (if (4 : Int32) ≤ w then high else wide)) (hl : l9_w w = mm_b (csw w)) : s9_w x1 (l9_w w) x7 = s8_w x1 w high wide := by
  unfold s9_w s8_w
  rw [hl, ← hx]
  cases csw w with
  | false =>
    rw [if_pos (show mm_b false = 0 by decide), if_pos (rfl : false = false)]
    unfold mm_min
    by_cases c : ((2 : Int32) * x1) - x7 < (0 : Int32)
    · have d := i_lt c
      rw [if_pos c, if_neg (fun h => absurd (i_le h) (by omega))]
    · rw [if_neg c, if_pos (Int32.not_lt.mp c)]
  | true =>
    rw [if_neg (show ¬ mm_b true = 0 by decide), if_neg (show ¬ true = false by decide)]
theorem lf_e (x1 x7 : Int32) : lf_w x1 x7 = mm_max x1 (x7 - x1) := by
  unfold lf_w mm_max
  by_cases c : x1 < x7 - x1
  · rw [if_pos c, if_pos (Int32.le_of_lt c)]
  · rw [if_neg c]
    by_cases d : x1 ≤ x7 - x1
    · rw [if_pos d]
      exact Int32.le_antisymm (Int32.not_lt.mp c) d
    · rw [if_neg d]
theorem ig_p (l : List Int32) (i v : Int32) (h0 : 0 ≤ i.toInt) (h1 : i.toInt < l.length) : mm_ig (mm_is l i v) i = v := by
  rw [ge_ig, ge_is _ _ _ _ (by omega), if_pos rfl]
/-- the geometry of a level alike -/
def gx_w (m o : Nat) (R C B F row col bel fac : List Int32) : Prop := ∀ k : Nat, k < m → row.getD (o + k) 0 = R.getD k 0 ∧ col.getD (o + k) 0 = C.getD k 0 ∧ bel.getD (o + k) 0 = B.getD k 0 ∧ fac.getD (o + k) 0 = F.getD k 0
/-- rows of a level kept elsewhere -/
def fq_w (o n : Nat) (row col bel fac row' col' bel' fac' : List Int32) : Prop := ∀ j : Nat, j < 192 → (j < o ∨ o + n ≤ j) → row'.getD j 0 = row.getD j 0 ∧ col'.getD j 0 = col.getD j 0 ∧ bel'.getD j 0 = bel.getD j 0 ∧ fac'.getD j 0 = fac.getD j 0
theorem tr_e {lv ln w rows cols high wide h' w' : Int32} {R C B F T R' C' B' F' T' sR sC row col bel fac hi to PS sR' sC' row' col' bel' fac' hi' to' PS' : List Int32} {m : Nat} (hm : (rows * cols).toInt = m) (m32 : m ≤ 32) (L0 : 0 ≤ lv.toInt) (L5 : lv.toInt ≤ 5) (w0 : 0 ≤ w.toInt) (w7 : w.toInt ≤ 7) (l1 : R.length = 32) (l2 : C.length = 32) (l3 : B.length = 32) (l4 : F.length = 32) (l5 : T.length = 32) (k1 : row.length = 192) (k2 : col.length = 192) (k3 : bel.length = 192) (k4 : fac.length = 192) (k5 : hi.length = 32) (k6 : to.length = 32) (k7 : PS.length = 64) (k8 : sR.length = 6) (k9 : sC.length = 6) (hh : 1 ≤ high.toInt ∧ high.toInt ≤ 4) (hw : 1 ≤ wide.toInt ∧ wide.toInt ≤ 8) (rr : ∀ k : Nat, k < m → 0 ≤ (R.getD k 0).toInt ∧ (R.getD k 0).toInt < high.toInt) (rc : ∀ k : Nat, k < m → 0 ≤ (C.getD k 0).toInt ∧ (C.getD k 0).toInt < wide.toInt) (g1 : mm_ig sR lv = high) (g2 : mm_ig sC lv = wide) (g3 : gx_w m (32 * lv.toInt.toNat) R C B F row col bel fac) (e8 : fX5_turn 700 ln w rows cols high wide R C B F T = some (h', w', R', C', B', F', T')) (e9 : fX9_movesAll 700 lv ln w rows cols sR sC row col bel fac hi to PS = some (sR', sC', row', col', bel', fac', hi', to', PS')) : mm_ig sR' lv = h' ∧ mm_ig sC' lv = w' ∧ gx_w m (32 * lv.toInt.toNat) R' C' B' F' row' col' bel' fac' ∧ fq_w (32 * lv.toInt.toNat) m row col bel fac row' col' bel' fac' ∧ (∀ j : Nat, j < 6 → j ≠ lv.toInt.toNat → sR'.getD j 0 = sR.getD j 0 ∧ sC'.getD j 0 = sC.getD j 0) ∧ (row'.length = 192 ∧ col'.length = 192 ∧ bel'.length = 192 ∧ fac'.length = 192 ∧ hi'.length = 32 ∧ to'.length = 32 ∧ PS'.length = 64 ∧ sR'.length = 6 ∧ sC'.length = 6) := by
  obtain ⟨T1, c1, c2, ⟨c3, c4⟩, c5⟩ := tn_e hm m32 l1 l2 l3 l4 l5 e8
  obtain ⟨x7, PS1, hi1, to1, d1, d2, d3, ⟨d4, d5⟩, d6, d7, d8⟩ := mo_e hm m32 L0 L5 k1 k2 k3 k4 k5 k6 k7 e9
  obtain ⟨wy1, wy2⟩ := wy_e w0 w7
  have hx7 : x7 = (if (4 : Int32) ≤ w then high else wide) := by
    rw [d1]
    by_cases h : (4 : Int32) ≤ w
    · rw [b9_p h, if_pos rfl, if_pos h, g1]
    · rw [b9_n h, if_neg (by decide), if_neg h, g2]
  have t2 : ∀ j : Nat, j < 64 → PS1.getD j 0 = kc_w (fun k => decide ((iw_w (b9_w w) (R.getD k 0) (C.getD k 0)).toInt.toNat = j)) 0 m := by
    intro j hj
    rw [d3 j hj]
    refine kc_c m 0 (fun k k0 k1 => ?_)
    show decide ((iw_w (b9_w w) (row.getD (32 * lv.toInt.toNat + k) 0) (col.getD (32 * lv.toInt.toNat + k) 0)).toInt.toNat = j) = decide ((iw_w (b9_w w) (R.getD k 0) (C.getD k 0)).toInt.toNat = j)
    rw [(g3 k (by omega)).1, (g3 k (by omega)).2.1]
  have rr4 : ∀ k : Nat, k < m → 0 ≤ (R.getD k 0).toInt ∧ (R.getD k 0).toInt < 4 := fun k hk => ⟨(rr k hk).1, by have := (rr k hk).2; omega⟩
  have rc8 : ∀ k : Nat, k < m → 0 ≤ (C.getD k 0).toInt ∧ (C.getD k 0).toInt < 8 := fun k hk => ⟨(rc k hk).1, by have := (rc k hk).2; omega⟩
  have hs := st_e (x1 := ln) hx7 wy1
  have hsr : mm_ig sR' lv = h' := by
    rw [c3, d4]
    by_cases h : (4 : Int32) ≤ w
    · rw [b9_p h, if_pos rfl, if_pos h, ig_p _ _ _ L0 (by omega), lf_e, hx7, if_pos h]
    · rw [b9_n h, if_neg (by decide), if_neg h, g1]
  have hsc : mm_ig sC' lv = w' := by
    rw [c4, d5]
    by_cases h : (4 : Int32) ≤ w
    · rw [b9_p h, if_pos rfl, if_pos h, g2]
    · rw [b9_n h, if_neg (by decide), if_neg h, ig_p _ _ _ L0 (by omega), lf_e, hx7, if_neg h]
  have hle : sR'.length = 6 ∧ sC'.length = 6 := by
    rw [d4, d5]
    by_cases h : b9_w w = 0
    · rw [if_pos h, if_pos h, is_len]
      exact ⟨k8, k9⟩
    · rw [if_neg h, if_neg h, is_len]
      exact ⟨k8, k9⟩
  obtain ⟨v1, v2, v3, v4, v5, v6, v7⟩ := d8
  refine ⟨hsr, hsc, fun k hk => ?_, fun j hj hk => d6 j hj hk, fun j hj hn => ?_, ⟨v1, v2, v3, v4, v5, v6, v7, hle.1, hle.2⟩⟩
  clear v1 v2 v3 v4 v5 v6 v7
  · obtain ⟨q1, q2, q3, q4⟩ := g3 k hk
    obtain ⟨v1, v2, v3, v4⟩ := c5 k hk
    obtain ⟨⟨u1, u2, u3⟩, u4, u5⟩ := d7 k hk
    rw [q1, q2] at u1 u2 u3
    rw [q3] at u1
    rw [q4] at u2
    rw [q1] at u4
    rw [q2] at u5
    have a0 := rr k hk
    have b0 := rc k hk
    generalize R.getD k 0 = r at *
    generalize C.getD k 0 = c at *
    generalize B.getD k 0 = b at *
    generalize F.getD k 0 = f at *
    have hco : c9_w ln (pl_w (b9_w w) r c) (l9_w w) = cm_w ln (al_w w r c) (csw w) := by
      unfold c9_w cm_w
      rw [wy1, al_p]
    have xr : 0 ≤ (ac_w w r c).toInt ∧ (ac_w w r c).toInt < (if (4 : Int32) ≤ w then (8 : Int) else (4 : Int)) := by
      unfold ac_w
      by_cases h : (4 : Int32) ≤ w
      · rw [if_pos h, if_pos h]
        omega
      · rw [if_neg h, if_neg h]
        omega
    have hme : ∀ y : Int32, th_w PS1 x7 y (ac_w w r c) = ta_w T1 high wide w y (ac_w w r c) := by
      intro y
      rw [hx7]
      exact th_e hh hw rr4 rc8 c2 t2 xr.1 xr.2
    have how : PS1.getD (iw_w (b9_w w) r c).toInt.toNat 0 = ta_w T1 high wide w (al_w w r c) (ac_w w r c) := by
      rw [← hme]
      unfold th_w
      have n1 : (1 : Int32).toInt = 1 := by decide
      have ar : 0 ≤ (al_w w r c).toInt ∧ (al_w w r c).toInt ≤ (x7 - (1 : Int32)).toInt := by
        generalize hz : x7 - (1 : Int32) = z
        by_cases h : (4 : Int32) ≤ w
        · rw [if_pos h] at hx7
          have ez := i_subE hz (by rw [hx7]; omega) (by rw [hx7]; omega)
          unfold al_w
          rw [if_pos h]
          rw [hx7] at ez
          omega
        · rw [if_neg h] at hx7
          have ez := i_subE hz (by rw [hx7]; omega) (by rw [hx7]; omega)
          unfold al_w
          rw [if_neg h]
          rw [hx7] at ez
          omega
      rw [if_pos ar]
      unfold iw_w
      rw [al_p, ac_p]
    rw [hco, how, wy2, al_p, ac_p, hme] at u1
    rw [hco] at u2
    rw [hco, al_p, hs] at u3
    refine ⟨?_, ?_, ?_, ?_⟩
    · rw [u4, v3]
      by_cases h : (4 : Int32) ≤ w
      · rw [b9_p h, if_pos rfl, if_pos h, u3]
      · rw [b9_n h, if_neg (by decide), if_neg h]
    · rw [u5, v4]
      by_cases h : (4 : Int32) ≤ w
      · rw [b9_p h, if_pos rfl, if_pos h]
      · rw [b9_n h, if_neg (by decide), if_neg h, u3]
    · rw [u1, v1]
    · rw [u2, v2]
  · rw [d4, d5]
    by_cases h : b9_w w = 0
    · rw [if_pos h, if_pos h, ge_is _ _ _ _ (by omega), if_neg (by omega)]
      exact ⟨rfl, rfl⟩
    · rw [if_neg h, if_neg h, ge_is _ _ _ _ (by omega), if_neg (by omega)]
      exact ⟨rfl, rfl⟩
end
section
/-! Geometry: laid flat -/
theorem lo_30 {k : Int32 → Int32 → Int32 → Int32 → Int32 → Int32 → List Int32 → List Int32 → List Int32 → List Int32 → Option (Int32 × Int32 × List Int32 × List Int32 × List Int32 × List Int32)} {x2 rows cols hg wd : Int32} {z : Int32 × Int32 × List Int32 × List Int32 × List Int32 × List Int32} {b : Nat} (c0 : 1 ≤ cols.toInt) (c8 : cols.toInt ≤ 8) (hb : (b : Int) + cols.toInt ≤ 32) : ∀ (n : Nat) (x1 x3 : Int32) (R C B F : List Int32), fX5_layOut_30 700 k n x1 x2 x3 rows cols hg wd R C B F = some z → 0 ≤ x3.toInt → x3.toInt ≤ cols.toInt → x1.toInt = b + x3.toInt → R.length = 32 → C.length = 32 → B.length = 32 → F.length = 32 → ∃ (y : Int32) (R1 C1 B1 F1 : List Int32), y.toInt = b + cols.toInt ∧ k y (x2 + (1 : Int32)) rows cols hg wd R1 C1 B1 F1 = some z ∧ (R1.length = 32 ∧ C1.length = 32 ∧ B1.length = 32 ∧ F1.length = 32) ∧ (∀ j : Nat, j < x1.toInt.toNat → R1.getD j 0 = R.getD j 0 ∧ C1.getD j 0 = C.getD j 0 ∧ B1.getD j 0 = B.getD j 0 ∧ F1.getD j 0 = F.getD j 0) ∧ (∀ j : Nat, x1.toInt.toNat ≤ j → (j : Int) < b + cols.toInt → R1.getD j 0 = x2 ∧ (C1.getD j 0).toInt = j - b ∧ B1.getD j 0 = 0 ∧ F1.getD j 0 = 0) := by
  have n1 : (1 : Int32).toInt = 1 := by decide
  intro n
  induction n with
  | zero =>
    intro x1 x3 R C B F e
    exact absurd e (by intro h; cases h)
  | succ n ih =>
    intro x1 x3 R C B F e p0 p1 hx l1 l2 l3 l4
    rw [uf_X5_layOut_30] at e
    by_cases c : cols ≤ x3
    · rw [if_pos c, nm_eq] at e
      have d := i_le c
      exact ⟨x1, R, C, B, F, by omega, e, ⟨l1, l2, l3, l4⟩, fun j _ => ⟨rfl, rfl, rfl, rfl⟩, fun j j0 j1 => absurd j1 (by omega)⟩
    · rw [if_neg c] at e
      have d := i_nle c
      have e := ck_x e
      rw [nm_eq] at e
      have e := ck_x e
      rw [nm_eq] at e
      have e := ck_x e
      rw [nm_eq] at e
      have e := ck_x e
      rw [nm_eq, nm_eq, nm_eq] at e
      have s1 := ps_is R x1 x2
      have s2 := ps_is C x1 x3
      have s3 := ps_is B x1 (0 : Int32)
      have s4 := ps_is F x1 (0 : Int32)
      generalize hy : x1 + (1 : Int32) = y at e
      have ey := i_addE hy (by omega) (by omega)
      generalize hv : x3 + (1 : Int32) = v at e
      have ev := i_addE hv (by omega) (by omega)
      obtain ⟨y2, R1, C1, B1, F1, q0, q1, q2, q3, q4⟩ := ih y v _ _ _ _ e (by omega) (by omega) (by omega) (by rw [is_len]; exact l1) (by rw [is_len]; exact l2) (by rw [is_len]; exact l3) (by rw [is_len]; exact l4)
      refine ⟨y2, R1, C1, B1, F1, q0, q1, q2, fun j hj => ?_, fun j j0 j1 => ?_⟩
      · obtain ⟨u1, u2, u3, u4⟩ := q3 j (by omega)
        rw [u1, u2, u3, u4, ps_ne s1 (by omega) (by omega), ps_ne s2 (by omega) (by omega), ps_ne s3 (by omega) (by omega), ps_ne s4 (by omega) (by omega)]
        exact ⟨rfl, rfl, rfl, rfl⟩
      · by_cases g : x1.toInt.toNat = j
        · obtain ⟨u1, u2, u3, u4⟩ := q3 j (by omega)
          rw [← g] at u1 u2 u3 u4 ⊢
          rw [u1, u2, u3, u4, ps_at s1 (by omega), ps_at s2 (by omega), ps_at s3 (by omega), ps_at s4 (by omega)]
          exact ⟨rfl, by omega, rfl, rfl⟩
        · exact q4 j (by omega) j1
theorem dv_u {a q r c : Int} (h : 0 < c) (e : a = q * c + r) (r0 : 0 ≤ r) (r1 : r < c) : a / c = q ∧ a % c = r := by
  refine (Int.ediv_emod_unique h).mpr ⟨?_, r0, r1⟩
  rw [e, Int.mul_comm q c, Int.add_comm]
/-- what a sheet laid flat is -/
def fl_w (m : Nat) (c : Int) (o : Nat) (R C B F : List Int32) : Prop := ∀ j : Nat, j < m → (R.getD (o + j) 0).toInt = (j : Int) / c ∧ (C.getD (o + j) 0).toInt = (j : Int) % c ∧ B.getD (o + j) 0 = 0 ∧ F.getD (o + j) 0 = 0
theorem lo_20 {rows cols hg wd : Int32} {m : Nat} (hm : rows.toInt * cols.toInt = m) (m32 : m ≤ 32) (r0 : 1 ≤ rows.toInt) (r4 : rows.toInt ≤ 4) (c0 : 1 ≤ cols.toInt) (c8 : cols.toInt ≤ 8) : ∀ (n : Nat) (x1 x2 : Int32) (R C B F : List Int32) (h' w' : Int32) (R' C' B' F' : List Int32), fX5_layOut_20 700 n x1 x2 rows cols hg wd R C B F = some (h', w', R', C', B', F') → 0 ≤ x2.toInt → x2.toInt ≤ rows.toInt → x1.toInt = x2.toInt * cols.toInt → R.length = 32 → C.length = 32 → B.length = 32 → F.length = 32 → (h' = hg ∧ w' = wd) ∧ (∀ j : Nat, j < x1.toInt.toNat → R'.getD j 0 = R.getD j 0 ∧ C'.getD j 0 = C.getD j 0 ∧ B'.getD j 0 = B.getD j 0 ∧ F'.getD j 0 = F.getD j 0) ∧ (∀ j : Nat, x1.toInt.toNat ≤ j → j < m → (R'.getD j 0).toInt = (j : Int) / cols.toInt ∧ (C'.getD j 0).toInt = (j : Int) % cols.toInt ∧ B'.getD j 0 = 0 ∧ F'.getD j 0 = 0) := by
  have n0 : (0 : Int32).toInt = 0 := by decide
  have n1 : (1 : Int32).toInt = 1 := by decide
  intro n
  induction n with
  | zero =>
    intro x1 x2 R C B F h' w' R' C' B' F' e
    exact absurd e (by intro h; cases h)
  | succ n ih =>
    intro x1 x2 R C B F h' w' R' C' B' F' e p0 p1 hx l1 l2 l3 l4
    rw [uf_X5_layOut_20] at e
    by_cases c : rows ≤ x2
    · rw [if_pos c] at e
      have d := i_le c
      have e := sm_i e
      injection e with e1 e
      injection e with e2 e
      injection e with e3 e
      injection e with e4 e
      injection e with e5 e6
      subst e1 e2 e3 e4 e5 e6
      have hr : x2.toInt = rows.toInt := by omega
      rw [hr, hm] at hx
      exact ⟨⟨rfl, rfl⟩, fun j _ => ⟨rfl, rfl, rfl, rfl⟩, fun j j0 j1 => absurd j1 (by omega)⟩
    · rw [if_neg c] at e
      have d := i_nle c
      have hb0 : 0 ≤ x2.toInt * cols.toInt := Int.mul_nonneg p0 (by omega)
      have hb1 : (x2.toInt + 1) * cols.toInt ≤ rows.toInt * cols.toInt := Int.mul_le_mul_of_nonneg_right (by omega) (by omega)
      rw [Int.add_mul, Int.one_mul, hm] at hb1
      obtain ⟨b, hb⟩ : ∃ b : Nat, (b : Int) = x2.toInt * cols.toInt := ⟨(x2.toInt * cols.toInt).toNat, by omega⟩
      rw [← hb] at hb0 hb1 hx
      obtain ⟨y, R1, C1, B1, F1, q0, q1, ⟨g1, g2, g3, g4⟩, q3, q4⟩ := lo_30 (b := b) c0 c8 (by omega) 700 x1 (0 : Int32) R C B F e (by omega) (by omega) (by omega) l1 l2 l3 l4
      generalize hv : x2 + (1 : Int32) = v at q1
      have ev := i_addE hv (by omega) (by omega)
      have hv2 : y.toInt = v.toInt * cols.toInt := by rw [ev, n1, Int.add_mul, Int.one_mul, ← hb]; exact q0
      obtain ⟨j1, j2, j3⟩ := ih y v R1 C1 B1 F1 h' w' R' C' B' F' q1 (by omega) (by omega) hv2 g1 g2 g3 g4
      refine ⟨j1, fun j hj => ?_, fun j h0 h1 => ?_⟩
      · obtain ⟨u1, u2, u3, u4⟩ := j2 j (by omega)
        obtain ⟨v1, v2, v3, v4⟩ := q3 j hj
        rw [u1, u2, u3, u4, v1, v2, v3, v4]
        exact ⟨rfl, rfl, rfl, rfl⟩
      · by_cases g : (j : Int) < b + cols.toInt
        · obtain ⟨u1, u2, u3, u4⟩ := j2 j (by omega)
          obtain ⟨v1, v2, v3, v4⟩ := q4 j h0 g
          rw [u1, u2, u3, u4, v1, v2, v3, v4]
          obtain ⟨w1, w2⟩ := dv_u (a := (j : Int)) (q := x2.toInt) (r := (j : Int) - b) (c := cols.toInt) (by omega) (by rw [← hb]; omega) (by omega) (by omega)
          rw [w1, w2]
          exact ⟨rfl, rfl, rfl, rfl⟩
        · exact j3 j (by omega) h1
theorem lo_e {rows cols high wide h' w' : Int32} {R C B F R' C' B' F' : List Int32} {m : Nat} (hm : rows.toInt * cols.toInt = m) (m32 : m ≤ 32) (r0 : 1 ≤ rows.toInt) (r4 : rows.toInt ≤ 4) (c0 : 1 ≤ cols.toInt) (c8 : cols.toInt ≤ 8) (l1 : R.length = 32) (l2 : C.length = 32) (l3 : B.length = 32) (l4 : F.length = 32) (e : fX5_layOut 700 rows cols high wide R C B F = some (h', w', R', C', B', F')) : h' = rows ∧ w' = cols ∧ fl_w m cols.toInt 0 R' C' B' F' := by
  have n0 : (0 : Int32).toInt = 0 := by decide
  have z0 : (0 : Int32).toInt.toNat = 0 := by decide
  unfold fX5_layOut at e
  obtain ⟨⟨j1, j2⟩, -, j3⟩ := lo_20 hm m32 r0 r4 c0 c8 700 (0 : Int32) (0 : Int32) R C B F h' w' R' C' B' F' e (by omega) (by omega) (by rw [n0, Int.zero_mul]) l1 l2 l3 l4
  refine ⟨j1, j2, fun j hj => ?_⟩
  rw [Nat.zero_add]
  exact j3 j (by omega) hj
theorem li_22 {x1 ro co : Int32} {sR sC : List Int32} {m : Nat} (hm : (ro * co).toInt = m) (m32 : m ≤ 32) (c0 : 1 ≤ co.toInt) (c8 : co.toInt ≤ 8) (L0 : 0 ≤ x1.toInt) (L5 : x1.toInt ≤ 5) : ∀ (n : Nat) (x2 : Int32) (row col bel fac sR' sC' row' col' bel' fac' : List Int32), fX9_liesFlat_22 700 n x1 x2 ro co sR sC row col bel fac = some (sR', sC', row', col', bel', fac') → 0 ≤ x2.toInt → x2.toInt ≤ m → row.length = 192 → col.length = 192 → bel.length = 192 → fac.length = 192 → (sR' = sR ∧ sC' = sC ∧ row'.length = 192 ∧ col'.length = 192 ∧ bel'.length = 192 ∧ fac'.length = 192) ∧ (∀ j : Nat, j < 192 → (j < 32 * x1.toInt.toNat + x2.toInt.toNat ∨ 32 * x1.toInt.toNat + m ≤ j) → row'.getD j 0 = row.getD j 0 ∧ col'.getD j 0 = col.getD j 0 ∧ bel'.getD j 0 = bel.getD j 0 ∧ fac'.getD j 0 = fac.getD j 0) ∧ (∀ k : Nat, x2.toInt.toNat ≤ k → k < m → (row'.getD (32 * x1.toInt.toNat + k) 0).toInt = (k : Int) / co.toInt ∧ (col'.getD (32 * x1.toInt.toNat + k) 0).toInt = (k : Int) % co.toInt ∧ bel'.getD (32 * x1.toInt.toNat + k) 0 = 0 ∧ fac'.getD (32 * x1.toInt.toNat + k) 0 = 0) := by
  have n1 : (1 : Int32).toInt = 1 := by decide
  intro n
  induction n with
  | zero =>
    intro x2 row col bel fac sR' sC' row' col' bel' fac' e
    exact absurd e (by intro h; cases h)
  | succ n ih =>
    intro x2 row col bel fac sR' sC' row' col' bel' fac' e p0 p1 l1 l2 l3 l4
    rw [uf_X9_liesFlat_22] at e
    obtain ⟨f, ef, e⟩ := mm_bd1s e
    have hf : ro * co = f := sm_i ef
    subst hf
    by_cases c : ro * co ≤ x2
    · rw [if_pos c] at e
      have d := i_le c
      have e := sm_i e
      injection e with e1 e
      injection e with e2 e
      injection e with e3 e
      injection e with e4 e
      injection e with e5 e6
      subst e1 e2 e3 e4 e5 e6
      exact ⟨⟨rfl, rfl, l1, l2, l3, l4⟩, fun j _ _ => ⟨rfl, rfl, rfl, rfl⟩, fun k k0 k1 => absurd k1 (by omega)⟩
    · rw [if_neg c] at e
      have d := i_nle c
      have e := ck_x e
      rw [nm_eq] at e
      have e := ck_x e
      rw [nm_eq] at e
      have e := ck_x e
      rw [nm_eq] at e
      have e := ck_x e
      rw [nm_eq] at e
      have e := ck_x e
      rw [nm_eq] at e
      have e := ck_x e
      rw [nm_eq, nm_eq] at e
      have io := ix_e L0 L5 p0 (show x2.toInt ≤ 64 by omega)
      have s1 := ps_is row (((32 : Int32) * x1) + x2) (x2 / co)
      have s2 := ps_is col (((32 : Int32) * x1) + x2) (mm_rem x2 co)
      have s3 := ps_is bel (((32 : Int32) * x1) + x2) (0 : Int32)
      have s4 := ps_is fac (((32 : Int32) * x1) + x2) (0 : Int32)
      rw [io] at s1 s2 s3 s4
      have hdv : (x2 / co).toInt = x2.toInt / co.toInt := (i_div x2 co (by omega)).resolve_left (by omega)
      have hrm : (mm_rem x2 co).toInt = x2.toInt % co.toInt := ((i_rem x2 co (by omega)).resolve_left (by omega)).1
      generalize hy : x2 + (1 : Int32) = y at e
      have ey := i_addE hy (by omega) (by omega)
      obtain ⟨q1, q2, q3⟩ := ih y _ _ _ _ sR' sC' row' col' bel' fac' e (by omega) (by omega) (by rw [is_len]; exact l1) (by rw [is_len]; exact l2) (by rw [is_len]; exact l3) (by rw [is_len]; exact l4)
      refine ⟨q1, fun j hj hk => ?_, fun k k0 k1 => ?_⟩
      · obtain ⟨u1, u2, u3, u4⟩ := q2 j hj (by omega)
        rw [u1, u2, u3, u4, ps_ne s1 (by omega) (by omega), ps_ne s2 (by omega) (by omega), ps_ne s3 (by omega) (by omega), ps_ne s4 (by omega) (by omega)]
        exact ⟨rfl, rfl, rfl, rfl⟩
      · by_cases g : x2.toInt.toNat = k
        · obtain ⟨u1, u2, u3, u4⟩ := q2 (32 * x1.toInt.toNat + k) (by omega) (by omega)
          rw [← g] at u1 u2 u3 u4 ⊢
          rw [u1, u2, u3, u4, ps_at s1 (by omega), ps_at s2 (by omega), ps_at s3 (by omega), ps_at s4 (by omega), hdv, hrm]
          have hk : ((x2.toInt.toNat : Nat) : Int) = x2.toInt := by omega
          rw [hk]
          exact ⟨rfl, rfl, rfl, rfl⟩
        · exact q3 k (by omega) k1
theorem li_e {x1 ro co : Int32} {sR sC row col bel fac sR' sC' row' col' bel' fac' : List Int32} {m : Nat} (hm : (ro * co).toInt = m) (m32 : m ≤ 32) (c0 : 1 ≤ co.toInt) (c8 : co.toInt ≤ 8) (L0 : 0 ≤ x1.toInt) (L5 : x1.toInt ≤ 5) (l1 : row.length = 192) (l2 : col.length = 192) (l3 : bel.length = 192) (l4 : fac.length = 192) (e : fX9_liesFlat 700 x1 ro co sR sC row col bel fac = some (sR', sC', row', col', bel', fac')) : sR' = mm_is sR x1 ro ∧ sC' = mm_is sC x1 co ∧ (row'.length = 192 ∧ col'.length = 192 ∧ bel'.length = 192 ∧ fac'.length = 192) ∧ fq_w (32 * x1.toInt.toNat) m row col bel fac row' col' bel' fac' ∧ fl_w m co.toInt (32 * x1.toInt.toNat) row' col' bel' fac' := by
  have n0 : (0 : Int32).toInt = 0 := by decide
  have z0 : (0 : Int32).toInt.toNat = 0 := by decide
  unfold fX9_liesFlat at e
  have e := ck_x e
  rw [nm_eq] at e
  have e := ck_x e
  rw [nm_eq] at e
  obtain ⟨⟨q1, q2, q3⟩, q4, q5⟩ := li_22 hm m32 c0 c8 L0 L5 700 (0 : Int32) row col bel fac sR' sC' row' col' bel' fac' e (by omega) (by omega) l1 l2 l3 l4
  exact ⟨q1, q2, q3, fun j hj hk => q4 j hj (by omega), fun k hk => q5 k (by omega) hk⟩
theorem fl_x {m o : Nat} {c : Int} {R C B F row col bel fac : List Int32} (h8 : fl_w m c 0 R C B F) (h9 : fl_w m c o row col bel fac) : gx_w m o R C B F row col bel fac := fun k hk => by
  obtain ⟨a1, a2, a3, a4⟩ := h8 k hk
  obtain ⟨b1, b2, b3, b4⟩ := h9 k hk
  rw [Nat.zero_add] at a1 a2 a3 a4
  exact ⟨Int32.toInt_inj.mp (by rw [b1, a1]), Int32.toInt_inj.mp (by rw [b2, a2]), by rw [b3, a3], by rw [b4, a4]⟩
end
section
/-! Geometry: copies -/
theorem ps_to {l : List Int32} {i v u : Int32} {a : Nat} (h1 : i.toInt.toNat = a) (h2 : v = u) : ps_w l (mm_is l i v) a u := by
  rw [← h1, ← h2]
  exact ps_is l i v
theorem iy_e {x1 x9 : Int32} (h0 : 0 ≤ x1.toInt) (h1 : x1.toInt ≤ 5) (k0 : 0 ≤ x9.toInt) (k1 : x9.toInt ≤ 64) : (((64 : Int32) * x1) + x9).toInt.toNat = 64 * x1.toInt.toNat + x9.toInt.toNat := by
  generalize hz : (64 : Int32) * x1 = z
  have ez := i_mulLE (c := 64) (by decide) hz (by omega) (by omega)
  generalize hy : z + x9 = y
  have ey := i_addE hy (by omega) (by omega)
  omega
/-- creases of a level kept elsewhere -/
def fc_w (o : Nat) (wo la wo' la' : List Int32) : Prop := ∀ j : Nat, j < 384 → (j < o ∨ o + 64 ≤ j) → wo'.getD j 0 = wo.getD j 0 ∧ la'.getD j 0 = la.getD j 0
theorem co_128 {x1 x2 : Int32} {sR sC row col bel fac : List Int32} (a0 : 0 ≤ x1.toInt) (a5 : x1.toInt ≤ 5) (b0 : 0 ≤ x2.toInt) (b5 : x2.toInt ≤ 5) (ab : x1.toInt ≠ x2.toInt) : ∀ (n : Nat) (x3 : Int32) (wo la sR' sC' row' col' bel' fac' wo' la' : List Int32), fX9_copies_128 700 n x1 x2 x3 sR sC row col bel fac wo la = some (sR', sC', row', col', bel', fac', wo', la') → 0 ≤ x3.toInt → x3.toInt ≤ 64 → wo.length = 384 → la.length = 384 → (sR' = sR ∧ sC' = sC ∧ row' = row ∧ col' = col ∧ bel' = bel ∧ fac' = fac ∧ wo'.length = 384 ∧ la'.length = 384) ∧ (∀ j : Nat, j < 384 → (j < 64 * x2.toInt.toNat + x3.toInt.toNat ∨ 64 * x2.toInt.toNat + 64 ≤ j) → wo'.getD j 0 = wo.getD j 0 ∧ la'.getD j 0 = la.getD j 0) ∧ (∀ k : Nat, x3.toInt.toNat ≤ k → k < 64 → wo'.getD (64 * x2.toInt.toNat + k) 0 = wo.getD (64 * x1.toInt.toNat + k) 0 ∧ la'.getD (64 * x2.toInt.toNat + k) 0 = la.getD (64 * x1.toInt.toNat + k) 0) := by
  have n1 : (1 : Int32).toInt = 1 := by decide
  have n64 : (64 : Int32).toInt = 64 := by decide
  intro n
  induction n with
  | zero =>
    intro x3 wo la sR' sC' row' col' bel' fac' wo' la' e
    exact absurd e (by intro h; cases h)
  | succ n ih =>
    intro x3 wo la sR' sC' row' col' bel' fac' wo' la' e p0 p1 l1 l2
    rw [uf_X9_copies_128] at e
    by_cases c : (64 : Int32) ≤ x3
    · rw [if_pos c] at e
      have d := i_le c
      have e := sm_i e
      injection e with e1 e
      injection e with e2 e
      injection e with e3 e
      injection e with e4 e
      injection e with e5 e
      injection e with e6 e
      injection e with e7 e8
      subst e1 e2 e3 e4 e5 e6 e7 e8
      exact ⟨⟨rfl, rfl, rfl, rfl, rfl, rfl, l1, l2⟩, fun j _ _ => ⟨rfl, rfl⟩, fun k k0 k1 => absurd k1 (by omega)⟩
    · rw [if_neg c] at e
      have d := i_nle c
      have e := ck_x e
      rw [nm_eq] at e
      have e := ck_x e
      rw [nm_eq] at e
      have e := ck_x e
      rw [nm_eq] at e
      have e := ck_x e
      rw [nm_eq] at e
      rw [nm_eq] at e
      have i1 := iy_e a0 a5 p0 p1
      have i2 := iy_e b0 b5 p0 p1
      have s1 := ps_to (l := wo) (i := (((64 : Int32) * x2) + x3)) i2 (show mm_ig wo (((64 : Int32) * x1) + x3) = wo.getD (64 * x1.toInt.toNat + x3.toInt.toNat) 0 by rw [ge_ig, i1])
      have s2 := ps_to (l := la) (i := (((64 : Int32) * x2) + x3)) i2 (show mm_ig la (((64 : Int32) * x1) + x3) = la.getD (64 * x1.toInt.toNat + x3.toInt.toNat) 0 by rw [ge_ig, i1])
      generalize hy : x3 + (1 : Int32) = y at e
      have ey := i_addE hy (by omega) (by omega)
      obtain ⟨q1, q2, q3⟩ := ih y _ _ sR' sC' row' col' bel' fac' wo' la' e (by omega) (by omega) (by rw [is_len]; exact l1) (by rw [is_len]; exact l2)
      refine ⟨q1, fun j hj hk => ?_, fun k k0 k1 => ?_⟩
      · obtain ⟨u1, u2⟩ := q2 j hj (by omega)
        rw [u1, u2, ps_ne s1 (by omega) (by omega), ps_ne s2 (by omega) (by omega)]
        exact ⟨rfl, rfl⟩
      · by_cases g : x3.toInt.toNat = k
        · obtain ⟨u1, u2⟩ := q2 (64 * x2.toInt.toNat + k) (by omega) (by omega)
          rw [← g] at u1 u2 ⊢
          rw [u1, u2, ps_at s1 (by omega), ps_at s2 (by omega)]
          exact ⟨rfl, rfl⟩
        · obtain ⟨u1, u2⟩ := q3 k (by omega) k1
          rw [u1, u2, ps_ne s1 (by omega) (by omega), ps_ne s2 (by omega) (by omega)]
          exact ⟨rfl, rfl⟩
theorem co_26 {x1 x2 : Int32} {sR sC wo la : List Int32} {z : List Int32 × List Int32 × List Int32 × List Int32 × List Int32 × List Int32 × List Int32 × List Int32} (a0 : 0 ≤ x1.toInt) (a5 : x1.toInt ≤ 5) (b0 : 0 ≤ x2.toInt) (b5 : x2.toInt ≤ 5) (ab : x1.toInt ≠ x2.toInt) : ∀ (n : Nat) (x3 : Int32) (row col bel fac : List Int32), fX9_copies_26 700 n x1 x2 x3 sR sC row col bel fac wo la = some z → 0 ≤ x3.toInt → x3.toInt ≤ 32 → row.length = 192 → col.length = 192 → bel.length = 192 → fac.length = 192 → ∃ row' col' bel' fac' : List Int32, fX9_copies_128 700 700 x1 x2 (0 : Int32) sR sC row' col' bel' fac' wo la = some z ∧ (row'.length = 192 ∧ col'.length = 192 ∧ bel'.length = 192 ∧ fac'.length = 192) ∧ (∀ j : Nat, j < 192 → (j < 32 * x2.toInt.toNat + x3.toInt.toNat ∨ 32 * x2.toInt.toNat + 32 ≤ j) → row'.getD j 0 = row.getD j 0 ∧ col'.getD j 0 = col.getD j 0 ∧ bel'.getD j 0 = bel.getD j 0 ∧ fac'.getD j 0 = fac.getD j 0) ∧ (∀ k : Nat, x3.toInt.toNat ≤ k → k < 32 → row'.getD (32 * x2.toInt.toNat + k) 0 = row.getD (32 * x1.toInt.toNat + k) 0 ∧ col'.getD (32 * x2.toInt.toNat + k) 0 = col.getD (32 * x1.toInt.toNat + k) 0 ∧ bel'.getD (32 * x2.toInt.toNat + k) 0 = bel.getD (32 * x1.toInt.toNat + k) 0 ∧ fac'.getD (32 * x2.toInt.toNat + k) 0 = fac.getD (32 * x1.toInt.toNat + k) 0) := by
  have n1 : (1 : Int32).toInt = 1 := by decide
  have n32 : (32 : Int32).toInt = 32 := by decide
  intro n
  induction n with
  | zero =>
    intro x3 row col bel fac e
    exact absurd e (by intro h; cases h)
  | succ n ih =>
    intro x3 row col bel fac e p0 p1 l1 l2 l3 l4
    rw [uf_X9_copies_26] at e
    by_cases c : (32 : Int32) ≤ x3
    · rw [if_pos c] at e
      have d := i_le c
      exact ⟨row, col, bel, fac, e, ⟨l1, l2, l3, l4⟩, fun j _ _ => ⟨rfl, rfl, rfl, rfl⟩, fun k k0 k1 => absurd k1 (by omega)⟩
    · rw [if_neg c] at e
      have d := i_nle c
      have e := ck_x e
      rw [nm_eq] at e
      have e := ck_x e
      rw [nm_eq] at e
      have e := ck_x e
      rw [nm_eq] at e
      have e := ck_x e
      rw [nm_eq] at e
      have e := ck_x e
      rw [nm_eq] at e
      have e := ck_x e
      rw [nm_eq] at e
      have e := ck_x e
      rw [nm_eq] at e
      have e := ck_x e
      rw [nm_eq] at e
      rw [nm_eq] at e
      have i1 := ix_e a0 a5 p0 (show x3.toInt ≤ 64 by omega)
      have i2 := ix_e b0 b5 p0 (show x3.toInt ≤ 64 by omega)
      have s1 := ps_to (l := row) (i := (((32 : Int32) * x2) + x3)) i2 (show mm_ig row (((32 : Int32) * x1) + x3) = row.getD (32 * x1.toInt.toNat + x3.toInt.toNat) 0 by rw [ge_ig, i1])
      have s2 := ps_to (l := col) (i := (((32 : Int32) * x2) + x3)) i2 (show mm_ig col (((32 : Int32) * x1) + x3) = col.getD (32 * x1.toInt.toNat + x3.toInt.toNat) 0 by rw [ge_ig, i1])
      have s3 := ps_to (l := bel) (i := (((32 : Int32) * x2) + x3)) i2 (show mm_ig bel (((32 : Int32) * x1) + x3) = bel.getD (32 * x1.toInt.toNat + x3.toInt.toNat) 0 by rw [ge_ig, i1])
      have s4 := ps_to (l := fac) (i := (((32 : Int32) * x2) + x3)) i2 (show mm_ig fac (((32 : Int32) * x1) + x3) = fac.getD (32 * x1.toInt.toNat + x3.toInt.toNat) 0 by rw [ge_ig, i1])
      generalize hy : x3 + (1 : Int32) = y at e
      have ey := i_addE hy (by omega) (by omega)
      obtain ⟨row', col', bel', fac', q0, q1, q2, q3⟩ := ih y _ _ _ _ e (by omega) (by omega) (by rw [is_len]; exact l1) (by rw [is_len]; exact l2) (by rw [is_len]; exact l3) (by rw [is_len]; exact l4)
      refine ⟨row', col', bel', fac', q0, q1, fun j hj hk => ?_, fun k k0 k1 => ?_⟩
      · obtain ⟨u1, u2, u3, u4⟩ := q2 j hj (by omega)
        rw [u1, u2, u3, u4, ps_ne s1 (by omega) (by omega), ps_ne s2 (by omega) (by omega), ps_ne s3 (by omega) (by omega), ps_ne s4 (by omega) (by omega)]
        exact ⟨rfl, rfl, rfl, rfl⟩
      · by_cases g : x3.toInt.toNat = k
        · obtain ⟨u1, u2, u3, u4⟩ := q2 (32 * x2.toInt.toNat + k) (by omega) (by omega)
          rw [← g] at u1 u2 u3 u4 ⊢
          rw [u1, u2, u3, u4, ps_at s1 (by omega), ps_at s2 (by omega), ps_at s3 (by omega), ps_at s4 (by omega)]
          exact ⟨rfl, rfl, rfl, rfl⟩
        · obtain ⟨u1, u2, u3, u4⟩ := q3 k (by omega) k1
          rw [u1, u2, u3, u4, ps_ne s1 (by omega) (by omega), ps_ne s2 (by omega) (by omega), ps_ne s3 (by omega) (by omega), ps_ne s4 (by omega) (by omega)]
          exact ⟨rfl, rfl, rfl, rfl⟩
theorem co_e {x1 x2 : Int32} {sR sC row col bel fac wo la sR' sC' row' col' bel' fac' wo' la' : List Int32} (a0 : 0 ≤ x1.toInt) (a5 : x1.toInt ≤ 5) (b0 : 0 ≤ x2.toInt) (b5 : x2.toInt ≤ 5) (ab : x1.toInt ≠ x2.toInt) (l1 : row.length = 192) (l2 : col.length = 192) (l3 : bel.length = 192) (l4 : fac.length = 192) (l5 : wo.length = 384) (l6 : la.length = 384) (e : fX9_copies 700 x1 x2 sR sC row col bel fac wo la = some (sR', sC', row', col', bel', fac', wo', la')) : (sR' = mm_is sR x2 (mm_ig sR x1) ∧ sC' = mm_is sC x2 (mm_ig sC x1)) ∧ fq_w (32 * x2.toInt.toNat) 32 row col bel fac row' col' bel' fac' ∧ fc_w (64 * x2.toInt.toNat) wo la wo' la' ∧ (∀ k : Nat, k < 32 → row'.getD (32 * x2.toInt.toNat + k) 0 = row.getD (32 * x1.toInt.toNat + k) 0 ∧ col'.getD (32 * x2.toInt.toNat + k) 0 = col.getD (32 * x1.toInt.toNat + k) 0 ∧ bel'.getD (32 * x2.toInt.toNat + k) 0 = bel.getD (32 * x1.toInt.toNat + k) 0 ∧ fac'.getD (32 * x2.toInt.toNat + k) 0 = fac.getD (32 * x1.toInt.toNat + k) 0) ∧ (∀ k : Nat, k < 64 → wo'.getD (64 * x2.toInt.toNat + k) 0 = wo.getD (64 * x1.toInt.toNat + k) 0 ∧ la'.getD (64 * x2.toInt.toNat + k) 0 = la.getD (64 * x1.toInt.toNat + k) 0) := by
  have n0 : (0 : Int32).toInt = 0 := by decide
  unfold fX9_copies at e
  have e := ck_x e
  rw [nm_eq] at e
  have e := ck_x e
  rw [nm_eq] at e
  have e := ck_x e
  rw [nm_eq] at e
  have e := ck_x e
  rw [nm_eq] at e
  obtain ⟨row1, col1, bel1, fac1, e, q1, q2, q3⟩ := co_26 a0 a5 b0 b5 ab 700 (0 : Int32) row col bel fac e (by omega) (by omega) l1 l2 l3 l4
  obtain ⟨⟨u1, u2, u3, u4, u5, u6, u7, u8⟩, v2, v3⟩ := co_128 a0 a5 b0 b5 ab 700 (0 : Int32) wo la sR' sC' row' col' bel' fac' wo' la' e (by omega) (by omega) l5 l6
  subst u3 u4 u5 u6
  exact ⟨⟨u1, u2⟩, fun j hj hk => q2 j hj (by omega), fun j hj hk => v2 j hj (by omega), fun k hk => q3 k (by omega) hk, fun k hk => v3 k (by omega) hk⟩
theorem sa_7 {x1 ro co : Int32} {sR sC row col bel fac : List Int32} (b0 : 1 ≤ x1.toInt) (b5 : x1.toInt ≤ 5) : ∀ (n : Nat) (x2 : Int32) (wo la sR' sC' row' col' bel' fac' wo' la' : List Int32), fX9_startsAt_7 700 n x1 x2 ro co sR sC row col bel fac wo la = some (sR', sC', row', col', bel', fac', wo', la') → 0 ≤ x2.toInt → x2.toInt ≤ 64 → wo.length = 384 → la.length = 384 → (sR' = sR ∧ sC' = sC ∧ row' = row ∧ col' = col ∧ bel' = bel ∧ fac' = fac ∧ wo'.length = 384 ∧ la'.length = 384) ∧ (∀ j : Nat, j < 384 → (j < 64 * x1.toInt.toNat + x2.toInt.toNat ∨ 64 * x1.toInt.toNat + 64 ≤ j) → wo'.getD j 0 = wo.getD j 0 ∧ la'.getD j 0 = la.getD j 0) ∧ (∀ k : Nat, x2.toInt.toNat ≤ k → k < 64 → wo'.getD (64 * x1.toInt.toNat + k) 0 = wo.getD k 0 ∧ la'.getD (64 * x1.toInt.toNat + k) 0 = la.getD k 0) := by
  have n1 : (1 : Int32).toInt = 1 := by decide
  have n64 : (64 : Int32).toInt = 64 := by decide
  intro n
  induction n with
  | zero =>
    intro x2 wo la sR' sC' row' col' bel' fac' wo' la' e
    exact absurd e (by intro h; cases h)
  | succ n ih =>
    intro x2 wo la sR' sC' row' col' bel' fac' wo' la' e p0 p1 l1 l2
    rw [uf_X9_startsAt_7] at e
    by_cases c : (64 : Int32) ≤ x2
    · rw [if_pos c] at e
      have d := i_le c
      have e := sm_i e
      injection e with e1 e
      injection e with e2 e
      injection e with e3 e
      injection e with e4 e
      injection e with e5 e
      injection e with e6 e
      injection e with e7 e8
      subst e1 e2 e3 e4 e5 e6 e7 e8
      exact ⟨⟨rfl, rfl, rfl, rfl, rfl, rfl, l1, l2⟩, fun j _ _ => ⟨rfl, rfl⟩, fun k k0 k1 => absurd k1 (by omega)⟩
    · rw [if_neg c] at e
      have d := i_nle c
      have e := ck_x e
      rw [nm_eq] at e
      have e := ck_x e
      rw [nm_eq] at e
      have e := ck_x e
      rw [nm_eq] at e
      have e := ck_x e
      rw [nm_eq] at e
      rw [nm_eq] at e
      have i2 := iy_e (show 0 ≤ x1.toInt by omega) b5 p0 p1
      have s1 := ps_to (l := wo) (i := (((64 : Int32) * x1) + x2)) i2 (show mm_ig wo x2 = wo.getD x2.toInt.toNat 0 from rfl)
      have s2 := ps_to (l := la) (i := (((64 : Int32) * x1) + x2)) i2 (show mm_ig la x2 = la.getD x2.toInt.toNat 0 from rfl)
      generalize hy : x2 + (1 : Int32) = y at e
      have ey := i_addE hy (by omega) (by omega)
      obtain ⟨q1, q2, q3⟩ := ih y _ _ sR' sC' row' col' bel' fac' wo' la' e (by omega) (by omega) (by rw [is_len]; exact l1) (by rw [is_len]; exact l2)
      refine ⟨q1, fun j hj hk => ?_, fun k k0 k1 => ?_⟩
      · obtain ⟨u1, u2⟩ := q2 j hj (by omega)
        rw [u1, u2, ps_ne s1 (by omega) (by omega), ps_ne s2 (by omega) (by omega)]
        exact ⟨rfl, rfl⟩
      · by_cases g : x2.toInt.toNat = k
        · obtain ⟨u1, u2⟩ := q2 (64 * x1.toInt.toNat + k) (by omega) (by omega)
          rw [← g] at u1 u2 ⊢
          rw [u1, u2, ps_at s1 (by omega), ps_at s2 (by omega)]
          exact ⟨rfl, rfl⟩
        · obtain ⟨u1, u2⟩ := q3 k (by omega) k1
          rw [u1, u2, ps_ne s1 (by omega) (by omega), ps_ne s2 (by omega) (by omega)]
          exact ⟨rfl, rfl⟩
theorem sa_r {x1 ro co : Int32} {sR sC row col bel fac wo la sR' sC' row' col' bel' fac' wo' la' : List Int32} {m : Nat} (hm : (ro * co).toInt = m) (m32 : m ≤ 32) (c0 : 1 ≤ co.toInt) (c8 : co.toInt ≤ 8) (b0 : 1 ≤ x1.toInt) (b5 : x1.toInt ≤ 5) (l1 : row.length = 192) (l2 : col.length = 192) (l3 : bel.length = 192) (l4 : fac.length = 192) (l5 : wo.length = 384) (l6 : la.length = 384) (e : fX9_startsAt 700 x1 ro co sR sC row col bel fac wo la = some (sR', sC', row', col', bel', fac', wo', la')) : (sR' = mm_is sR x1 ro ∧ sC' = mm_is sC x1 co ∧ row'.length = 192 ∧ col'.length = 192 ∧ bel'.length = 192 ∧ fac'.length = 192 ∧ wo'.length = 384 ∧ la'.length = 384) ∧ fq_w (32 * x1.toInt.toNat) m row col bel fac row' col' bel' fac' ∧ fl_w m co.toInt (32 * x1.toInt.toNat) row' col' bel' fac' ∧ fc_w (64 * x1.toInt.toNat) wo la wo' la' ∧ (∀ k : Nat, k < 64 → wo'.getD (64 * x1.toInt.toNat + k) 0 = wo.getD k 0 ∧ la'.getD (64 * x1.toInt.toNat + k) 0 = la.getD k 0) := by
  have n0 : (0 : Int32).toInt = 0 := by decide
  unfold fX9_startsAt at e
  obtain ⟨w1, w2, w3, w4, w5, w6, e1, e⟩ := mm_bd6s e
  obtain ⟨q1, q2, ⟨q3, q4, q5, q6⟩, q7, q8⟩ := li_e hm m32 c0 c8 (by omega) b5 l1 l2 l3 l4 e1
  obtain ⟨⟨u1, u2, u3, u4, u5, u6, u7, u8⟩, v2, v3⟩ := sa_7 b0 b5 700 (0 : Int32) wo la sR' sC' row' col' bel' fac' wo' la' e (by omega) (by omega) l5 l6
  subst u1 u2 u3 u4 u5 u6
  exact ⟨⟨q1, q2, q3, q4, q5, q6, u7, u8⟩, q7, q8, fun j hj hk => v2 j hj (by omega), fun k hk => v3 k (by omega) hk⟩
theorem cp_e {v_rows v_cols v_high v_wide v_folds v_wrong v_more p_rows p_cols p_high p_wide p_folds p_wrong p_more : Int32} {R C B F W A R' C' B' F' W' A' : List Int32} (l1 : R.length = 32) (l2 : C.length = 32) (l3 : B.length = 32) (l4 : F.length = 32) (l5 : W.length = 64) (l6 : A.length = 64) (k1 : R'.length = 32) (k2 : C'.length = 32) (k3 : B'.length = 32) (k4 : F'.length = 32) (k5 : W'.length = 64) (k6 : A'.length = 64) : fX5_copy 700 v_rows v_cols v_high v_wide v_folds v_wrong v_more R C B F W A p_rows p_cols p_high p_wide p_folds p_wrong p_more R' C' B' F' W' A' = some (p_rows, p_cols, p_high, p_wide, p_folds, p_wrong, p_more, R', C', B', F', W', A') := by
  have n0 : (0 : Int32).toInt = 0 := by decide
  have n32 : (32 : Int32).toInt = 32 := by decide
  have n64 : (64 : Int32).toInt = 64 := by decide
  unfold fX5_copy
  rw [ck_t (i_cok (by omega) (by omega) (by omega) (by omega) (by omega)), nm_eq, ck_t (i_cok (by omega) (by omega) (by omega) (by omega) (by omega)), nm_eq, ck_t (i_cok (by omega) (by omega) (by omega) (by omega) (by omega)), nm_eq, ck_t (i_cok (by omega) (by omega) (by omega) (by omega) (by omega)), nm_eq, ck_t (i_cok (by omega) (by omega) (by omega) (by omega) (by omega)), nm_eq, ck_t (i_cok (by omega) (by omega) (by omega) (by omega) (by omega)), nm_eq, cp_all k1 l1 n32, cp_all k2 l2 n32, cp_all k3 l3 n32, cp_all k4 l4 n32, cp_all k5 l5 n64, cp_all k6 l6 n64]
end
section
/-! Geometry: fold -/
theorem ba_12 {x1 x2 x5 rows cols hg wd folds : Int32} {R C B F bend T : List Int32} {sc : Int32} {stp : List Int32} {r h' w' fo' wr' mo' : Int32} {R' C' B' F' wo' la' be' T' : List Int32} {sk' : Int32} {st' : List Int32} : ∀ (n : Nat) (x6 wrong more : Int32) (worn last : List Int32) (sk : Int32) (st : List Int32), fX5_bendAndTurn_12 700 n x1 x2 x5 x6 rows cols hg wd folds wrong more R C B F worn last bend T sc sk stp st = some (r, h', w', fo', wr', mo', R', C', B', F', wo', la', be', T', sk', st') → r = x5 ∧ fo' = folds + (1 : Int32) ∧ fX5_turn 700 x1 x2 rows cols hg wd R C B F T = some (h', w', R', C', B', F', T') := by
  intro n
  induction n with
  | zero =>
    intro x6 wrong more worn last sk st e
    exact absurd e (by intro h; cases h)
  | succ n ih =>
    intro x6 wrong more worn last sk st e
    rw [uf_X5_bendAndTurn_12] at e
    obtain ⟨fl, ef, e⟩ := mm_bd1s e
    by_cases c : ((2 : Int32) * fl) ≤ x6
    · rw [if_pos c] at e
      obtain ⟨w7, w8, w9, w10, w11, w12, w13, et, e⟩ := mm_bd7s e
      rw [nm_eq] at e
      apply mm_sub16 e
      exact ⟨rfl, rfl, et⟩
    · rw [if_neg c] at e
      have e := ck_x e
      by_cases g : mm_ig bend x6 = 0
      · rw [if_pos g, uf_X5_bendAndTurn_43, nm_eq] at e
        exact ih _ _ _ _ _ _ _ e
      · rw [if_neg g] at e
        obtain ⟨w18, w19, w20, w21, w22, w23, ew, e⟩ := mm_bd6s e
        rw [uf_X5_bendAndTurn_43, nm_eq] at e
        exact ih _ _ _ _ _ _ _ e
def ok_w (x1 x2 high wide : Int32) : Prop := (0 ≤ x2.toInt ∧ x2.toInt ≤ 7) ∧ 1 ≤ x1.toInt ∧ x1.toInt < (if (4 : Int32) ≤ x2 then high else wide).toInt
theorem wa_e (x : Int32) : fX8_isWay 700 x = some (decide (0 ≤ x.toInt ∧ x.toInt ≤ 7)) := by
  have n0 : (0 : Int32).toInt = 0 := by decide
  have n8 : (8 : Int32).toInt = 8 := by decide
  unfold fX8_isWay
  by_cases c : x < 0
  · have d := i_lt c
    rw [if_pos c, decide_eq_false (by omega)]
  · have d := i_nlt c
    rw [if_neg c]
    by_cases c2 : (8 : Int32) ≤ x
    · have d2 := i_le c2
      rw [if_pos c2, decide_eq_false (by omega)]
    · have d2 := i_nle c2
      rw [if_neg c2, decide_eq_true (by omega)]
theorem hl_e (x1 x2 high wide : Int32) : fX5_hasLine 700 x1 x2 high wide = some (decide (1 ≤ x1.toInt ∧ x1.toInt < (if (4 : Int32) ≤ x2 then high else wide).toInt)) := by
  have n1 : (1 : Int32).toInt = 1 := by decide
  have hs : fX5_span 700 x2 high wide = some (if (4 : Int32) ≤ x2 then high else wide) := by
    unfold fX5_span
    by_cases c : (4 : Int32) ≤ x2
    · rw [if_pos c, if_pos c]
    · rw [if_neg c, if_neg c]
  unfold fX5_hasLine
  rw [hs]
  generalize (if (4 : Int32) ≤ x2 then high else wide) = s
  by_cases c : x1 < (1 : Int32)
  · have d := i_lt c
    rw [if_pos c, decide_eq_false (by omega)]
  · have d := i_nlt c
    rw [if_neg c, bs_1]
    by_cases c2 : s ≤ x1
    · have d2 := i_le c2
      rw [if_pos c2, decide_eq_false (by omega)]
    · have d2 := i_nle c2
      rw [if_neg c2, decide_eq_true (by omega)]
theorem il_e {lv x1 x2 high wide : Int32} {sR sC : List Int32} (k8 : sR.length = 6) (k9 : sC.length = 6) (L0 : 0 ≤ lv.toInt) (L5 : lv.toInt ≤ 5) (g1 : mm_ig sR lv = high) (g2 : mm_ig sC lv = wide) (hh : 1 ≤ high.toInt ∧ high.toInt ≤ 4) (hw : 1 ≤ wide.toInt ∧ wide.toInt ≤ 8) : fX9_isLine 700 lv x1 x2 sR sC = some (decide (1 ≤ x1.toInt ∧ x1.toInt < (if (4 : Int32) ≤ x2 then high else wide).toInt)) := by
  have n1 : (1 : Int32).toInt = 1 := by decide
  have m1 : (1 : Int64).toInt = 1 := by decide
  unfold fX9_isLine
  by_cases c : (4 : Int32) ≤ x2
  · rw [if_pos c, if_pos c, ck_t (i_inb L0 (by omega)), g1]
    unfold fX9_isLine_23
    generalize hz : high - (1 : Int32) = z
    have ez := i_subE hz (by omega) (by omega)
    rw [wn_x, bs_1, i_64, i_64, m1]
    exact congrArg some (decide_eq_decide.mpr (by omega))
  · rw [if_neg c, if_neg c, ck_t (i_inb L0 (by omega)), g2]
    unfold fX9_isLine_23
    generalize hz : wide - (1 : Int32) = z
    have ez := i_subE hz (by omega) (by omega)
    rw [wn_x, bs_1, i_64, i_64, m1]
    exact congrArg some (decide_eq_decide.mpr (by omega))
theorem fo_8 {x1 x2 rows cols hg wd folds wrong more : Int32} {R C B F worn last bend T : List Int32} {sc sk : Int32} {stp st : List Int32} {lim : Int32} {r h' w' fo' wr' mo' : Int32} {R' C' B' F' wo' la' be' T' : List Int32} {sk' : Int32} {st' : List Int32} (e : fX8_fold 700 x1 x2 rows cols hg wd folds wrong more R C B F worn last bend T sc sk stp st lim = some (r, h', w', fo', wr', mo', R', C', B', F', wo', la', be', T', sk', st')) : (¬ ok_w x1 x2 hg wd ∧ h' = hg ∧ w' = wd ∧ fo' = folds ∧ R' = R ∧ C' = C ∧ B' = B ∧ F' = F) ∨ (ok_w x1 x2 hg wd ∧ fo' = folds + (1 : Int32) ∧ fX5_turn 700 x1 x2 rows cols hg wd R C B F T = some (h', w', R', C', B', F', T')) := by
  unfold fX8_fold at e
  rw [wa_e, bs_1] at e
  by_cases c : 0 ≤ x2.toInt ∧ x2.toInt ≤ 7
  · rw [decide_eq_true c, if_neg (by decide), hl_e, bs_1] at e
    by_cases d : 1 ≤ x1.toInt ∧ x1.toInt < (if (4 : Int32) ≤ x2 then hg else wd).toInt
    · rw [decide_eq_true d, if_neg (by decide)] at e
      obtain ⟨a0, a1, a2, a3, a4, a5, a6, a7, a8, a9, a10, a11, a12, a13, a14, a15, eb, e⟩ := mm_bd16s e
      apply mm_sub16 e
      unfold fX5_bendAndTurn at eb
      obtain ⟨b0, b1, em, eb⟩ := mm_bd2s eb
      obtain ⟨q1, q2, q3⟩ := ba_12 700 _ _ _ _ _ _ _ eb
      exact Or.inr ⟨⟨c, d⟩, q2, q3⟩
    · rw [decide_eq_false d, if_pos rfl] at e
      apply mm_sub16 e
      exact Or.inl ⟨fun h => d h.2, rfl, rfl, rfl, rfl, rfl, rfl, rfl⟩
  · rw [decide_eq_false c, if_pos rfl] at e
    apply mm_sub16 e
    exact Or.inl ⟨fun h => c h.1, rfl, rfl, rfl, rfl, rfl, rfl, rfl⟩
theorem fs_9 {lv x1 x2 ro co tm ba at_ en fa op bm bw mw : Int32} {lim sR sC row col bel fac wo la tape text nam ben hi to PS : List Int32} {ba' at' en' fa' op' bm' bw' mw' : Int32} {sR' sC' row' col' bel' fac' wo' la' nam' ben' hi' to' PS' : List Int32} (e : fX9_foldsOn 700 lv x1 x2 ro co tm ba at_ en fa op bm bw mw lim sR sC row col bel fac wo la tape text nam ben hi to PS = some (ba', at', en', fa', op', bm', bw', mw', sR', sC', row', col', bel', fac', wo', la', nam', ben', hi', to', PS')) : fX9_movesAll 700 lv x1 x2 ro co sR sC row col bel fac hi to PS = some (sR', sC', row', col', bel', fac', hi', to', PS') ∧ fX9_bendsAll 700 lv x1 x2 ro co tm ba at_ en fa op bm bw mw lim row col fac wo la tape text nam ben = some (ba', at', en', fa', op', bm', bw', mw', wo', la', nam', ben') := by
  unfold fX9_foldsOn at e
  obtain ⟨a0, a1, a2, a3, a4, a5, a6, a7, a8, a9, a10, a11, eb, e⟩ := mm_bd12s e
  obtain ⟨b0, b1, b2, b3, b4, b5, b6, b7, b8, em, e⟩ := mm_bd9s e
  apply mm_sub21 e
  exact ⟨em, eb⟩
theorem fo_9 {x1 x2 ro co fd wr tm ba at_ en fa op bm bw mw hg wd : Int32} {lim sR sC row col bel fac wo la tape text nam ben hi to PS : List Int32} {r fd' wr' ba' at' en' fa' op' bm' bw' mw' : Int32} {sR' sC' row' col' bel' fac' wo' la' nam' ben' hi' to' PS' : List Int32} (k8 : sR.length = 6) (k9 : sC.length = 6) (g1 : mm_ig sR (0 : Int32) = hg) (g2 : mm_ig sC (0 : Int32) = wd) (hh : 1 ≤ hg.toInt ∧ hg.toInt ≤ 4) (hw : 1 ≤ wd.toInt ∧ wd.toInt ≤ 8) (e : fX9_fold 700 x1 x2 ro co fd wr tm ba at_ en fa op bm bw mw lim sR sC row col bel fac wo la tape text nam ben hi to PS = some (r, fd', wr', ba', at', en', fa', op', bm', bw', mw', sR', sC', row', col', bel', fac', wo', la', nam', ben', hi', to', PS')) : (¬ ok_w x1 x2 hg wd ∧ fd' = fd ∧ sR' = sR ∧ sC' = sC ∧ row' = row ∧ col' = col ∧ bel' = bel ∧ fac' = fac) ∨ (ok_w x1 x2 hg wd ∧ fd' = fd + (1 : Int32) ∧ fX9_movesAll 700 (0 : Int32) x1 x2 ro co sR sC row col bel fac hi to PS = some (sR', sC', row', col', bel', fac', hi', to', PS')) := by
  have m0 : (0 : Int64).toInt = 0 := by decide
  have m7 : (7 : Int64).toInt = 7 := by decide
  unfold fX9_fold at e
  rw [wn_x, bs_1, i_64, m0, m7] at e
  by_cases c : 0 ≤ x2.toInt ∧ x2.toInt ≤ 7
  · rw [decide_eq_true c, if_neg (by decide), il_e k8 k9 (by decide) (by decide) g1 g2 hh hw, bs_1] at e
    by_cases d : 1 ≤ x1.toInt ∧ x1.toInt < (if (4 : Int32) ≤ x2 then hg else wd).toInt
    · rw [decide_eq_true d, if_neg (by decide)] at e
      obtain ⟨a0, a1, a2, a3, a4, a5, a6, a7, a8, a9, a10, a11, a12, a13, a14, a15, a16, a17, a18, a19, a20, eb, e⟩ := mm_bd21s e
      rw [nm_eq, nm_eq] at e
      apply mm_sub24 e
      exact Or.inr ⟨⟨c, d⟩, rfl, (fs_9 eb).1⟩
    · rw [decide_eq_false d, if_pos rfl] at e
      apply mm_sub24 e
      exact Or.inl ⟨fun h => d h.2, rfl, rfl, rfl, rfl, rfl, rfl, rfl⟩
  · rw [decide_eq_false c, if_pos rfl] at e
    apply mm_sub24 e
    exact Or.inl ⟨fun h => c h.1, rfl, rfl, rfl, rfl, rfl, rfl, rfl⟩
end
section
/-! Geometry: sheet -/
theorem dn_x {x : Int32} (hx : x.toInt < 0) : (x / (10 : Int32)).toInt ≤ 0 := by
  rw [Int32.toInt_div_of_ne_right x (10 : Int32) (by decide), show (10 : Int32).toInt = 10 by decide]
  have e : x.toInt = -(-x.toInt) := by omega
  rw [e, Int.neg_tdiv]
  have k : 0 ≤ (-x.toInt).tdiv 10 := Int.tdiv_nonneg (by omega) (by omega)
  omega
def os_w (a b : Int32) : Prop := (1 ≤ a.toInt ∧ a.toInt ≤ 4) ∧ (1 ≤ b.toInt ∧ b.toInt ≤ 8)
/-- creases all new -/
def zc_w (o : Nat) (W A : List Int32) : Prop := ∀ k : Nat, k < 64 → W.getD (o + k) 0 = 0 ∧ A.getD (o + k) 0 = 0
theorem rw_8 {x1 x2 rows cols hg wd folds wrong more rows' cols' h' w' fo' wr' mo' : Int32} {R C B F W A R' C' B' F' W' A' : List Int32} {m : Nat} (hm : x1.toInt * x2.toInt = m) (m32 : m ≤ 32) (o : os_w x1 x2) (l1 : R.length = 32) (l2 : C.length = 32) (l3 : B.length = 32) (l4 : F.length = 32) (l5 : W.length = 64) (l6 : A.length = 64) (e : fX5_renew 700 x1 x2 rows cols hg wd folds wrong more R C B F W A = some (rows', cols', h', w', fo', wr', mo', R', C', B', F', W', A')) : rows' = x1 ∧ cols' = x2 ∧ h' = x1 ∧ w' = x2 ∧ fo' = 0 ∧ wr' = 0 ∧ mo' = 0 ∧ fl_w m x2.toInt 0 R' C' B' F' ∧ zc_w 0 W' A' := by
  unfold fX5_renew at e
  obtain ⟨w1, e1, e⟩ := mm_bd1s e
  obtain ⟨w3, e3, e⟩ := mm_bd1s e
  obtain ⟨w5, w6, w7, e5, e⟩ := mm_bd3s e
  obtain ⟨w9, w10, w11, w12, w13, w14, e9, e⟩ := mm_bd6s e
  obtain ⟨a1, a2⟩ := fi_e e1 (by omega)
  obtain ⟨b1, b2⟩ := fi_e e3 (by omega)
  unfold fX5_forgetLed at e5
  obtain ⟨c1, c2, c3⟩ := lo_e hm m32 o.1.1 o.1.2 o.2.1 o.2.2 l1 l2 l3 l4 e9
  apply mm_sub13 e
  apply mm_sub3 e5
  refine ⟨rfl, rfl, c1, c2, rfl, rfl, rfl, c3, fun k hk => ?_⟩
  rw [Nat.zero_add]
  exact ⟨a2 k (by omega), b2 k (by omega)⟩
theorem st_8 {x1 rows cols hg wd folds wrong more r rows' cols' h' w' fo' wr' mo' : Int32} {R C B F W A R' C' B' F' W' A' : List Int32} (l1 : R.length = 32) (l2 : C.length = 32) (l3 : B.length = 32) (l4 : F.length = 32) (l5 : W.length = 64) (l6 : A.length = 64) (e : fX8_sheet 700 x1 rows cols hg wd folds wrong more R C B F W A = some (r, rows', cols', h', w', fo', wr', mo', R', C', B', F', W', A')) : (¬ os_w (x1 / (10 : Int32)) (mm_rem x1 (10 : Int32)) ∧ r = -1 ∧ rows' = rows ∧ cols' = cols ∧ h' = hg ∧ w' = wd ∧ fo' = folds ∧ wr' = wrong ∧ mo' = more ∧ R' = R ∧ C' = C ∧ B' = B ∧ F' = F ∧ W' = W ∧ A' = A) ∨ (os_w (x1 / (10 : Int32)) (mm_rem x1 (10 : Int32)) ∧ r = ((10 : Int32) * rows) + cols ∧ rows' = x1 / (10 : Int32) ∧ cols' = mm_rem x1 (10 : Int32) ∧ h' = x1 / (10 : Int32) ∧ w' = mm_rem x1 (10 : Int32) ∧ fo' = 0 ∧ wr' = 0 ∧ mo' = 0 ∧ fl_w ((x1 / (10 : Int32)).toInt * (mm_rem x1 (10 : Int32)).toInt).toNat (mm_rem x1 (10 : Int32)).toInt 0 R' C' B' F' ∧ zc_w 0 W' A') := by
  have n1 : (1 : Int32).toInt = 1 := by decide
  have n4 : (4 : Int32).toInt = 4 := by decide
  have n8 : (8 : Int32).toInt = 8 := by decide
  unfold fX8_sheet at e
  have e := ck_x e
  rw [nm_eq] at e
  have e := ck_x e
  rw [nm_eq] at e
  generalize x1 / (10 : Int32) = a at e ⊢
  generalize mm_rem x1 (10 : Int32) = b at e ⊢
  by_cases c1 : a < (1 : Int32)
  · have d1 := i_lt c1
    rw [if_pos c1] at e
    apply mm_sub14 e
    exact Or.inl ⟨fun h => absurd h.1.1 (by omega), rfl, rfl, rfl, rfl, rfl, rfl, rfl, rfl, rfl, rfl, rfl, rfl, rfl, rfl⟩
  · have d1 := i_nlt c1
    rw [if_neg c1] at e
    by_cases c2 : (4 : Int32) < a
    · have d2 := i_lt c2
      rw [if_pos c2] at e
      apply mm_sub14 e
      exact Or.inl ⟨fun h => absurd h.1.2 (by omega), rfl, rfl, rfl, rfl, rfl, rfl, rfl, rfl, rfl, rfl, rfl, rfl, rfl, rfl⟩
    · have d2 := i_nlt c2
      rw [if_neg c2] at e
      by_cases c3 : b < (1 : Int32)
      · have d3 := i_lt c3
        rw [if_pos c3] at e
        apply mm_sub14 e
        exact Or.inl ⟨fun h => absurd h.2.1 (by omega), rfl, rfl, rfl, rfl, rfl, rfl, rfl, rfl, rfl, rfl, rfl, rfl, rfl, rfl⟩
      · have d3 := i_nlt c3
        rw [if_neg c3] at e
        by_cases c4 : b ≤ (8 : Int32)
        · have d4 := i_le c4
          rw [if_pos c4, nm_eq] at e
          obtain ⟨w10, w11, w12, w13, w14, w15, w16, w17, w18, w19, w20, w21, w22, er, e⟩ := mm_bd13s e
          have o : os_w a b := ⟨⟨by omega, by omega⟩, by omega, by omega⟩
          have hf := i_fl o.1.1 o.1.2 o.2.1 o.2.2
          obtain ⟨q1, q2, q3, q4, q5, q6, q7, q8, q9⟩ := rw_8 (m := (a.toInt * b.toInt).toNat) (by omega) (by omega) o l1 l2 l3 l4 l5 l6 er
          apply mm_sub14 e
          exact Or.inr ⟨o, rfl, q1, q2, q3, q4, q5, q6, q7, q8, q9⟩
        · have d4 := i_nle c4
          rw [if_neg c4] at e
          apply mm_sub14 e
          exact Or.inl ⟨fun h => absurd h.2.2 (by omega), rfl, rfl, rfl, rfl, rfl, rfl, rfl, rfl, rfl, rfl, rfl, rfl, rfl, rfl⟩
theorem in_17 {ro co fd wr : Int32} {sR sC row col bel fac : List Int32} : ∀ (n : Nat) (x3 : Int32) (wo la : List Int32) (ro' co' fd' wr' : Int32) (sR' sC' row' col' bel' fac' wo' la' : List Int32), fX9_isNew_17 700 n x3 ro co fd wr sR sC row col bel fac wo la = some (ro', co', fd', wr', sR', sC', row', col', bel', fac', wo', la') → 0 ≤ x3.toInt → x3.toInt ≤ 64 → wo.length = 384 → la.length = 384 → (∀ k : Nat, k < x3.toInt.toNat → wo.getD k 0 = 0 ∧ la.getD k 0 = 0) → (ro' = ro ∧ co' = co ∧ fd' = 0 ∧ wr' = 0 ∧ sR' = sR ∧ sC' = sC ∧ row' = row ∧ col' = col ∧ bel' = bel ∧ fac' = fac) ∧ zc_w 0 wo' la' ∧ (∀ j : Nat, j < 384 → 64 ≤ j → wo'.getD j 0 = wo.getD j 0 ∧ la'.getD j 0 = la.getD j 0) := by
  have n1 : (1 : Int32).toInt = 1 := by decide
  have n64 : (64 : Int32).toInt = 64 := by decide
  intro n
  induction n with
  | zero =>
    intro x3 wo la ro' co' fd' wr' sR' sC' row' col' bel' fac' wo' la' e
    exact absurd e (by intro h; cases h)
  | succ n ih =>
    intro x3 wo la ro' co' fd' wr' sR' sC' row' col' bel' fac' wo' la' e p0 p1 l1 l2 H
    rw [uf_X9_isNew_17] at e
    by_cases c : (64 : Int32) ≤ x3
    · rw [if_pos c] at e
      have d := i_le c
      apply mm_sub12 e
      refine ⟨⟨rfl, rfl, rfl, rfl, rfl, rfl, rfl, rfl, rfl, rfl⟩, fun k hk => ?_, fun j _ _ => ⟨rfl, rfl⟩⟩
      rw [Nat.zero_add]
      exact H k (by omega)
    · rw [if_neg c] at e
      have d := i_nle c
      have e := ck_x e
      rw [nm_eq] at e
      have e := ck_x e
      rw [nm_eq, nm_eq] at e
      have s1 := ps_is wo x3 (0 : Int32)
      have s2 := ps_is la x3 (0 : Int32)
      generalize hy : x3 + (1 : Int32) = y at e
      have ey := i_addE hy (by omega) (by omega)
      obtain ⟨q1, q2, q3⟩ := ih y _ _ ro' co' fd' wr' sR' sC' row' col' bel' fac' wo' la' e (by omega) (by omega) (by rw [is_len]; exact l1) (by rw [is_len]; exact l2) (fun k hk => by
        by_cases g : x3.toInt.toNat = k
        · rw [← g, ps_at s1 (by omega), ps_at s2 (by omega)]
          exact ⟨rfl, rfl⟩
        · rw [ps_ne s1 (by omega) g, ps_ne s2 (by omega) g]
          exact H k (by omega))
      refine ⟨q1, q2, fun j hj hk => ?_⟩
      obtain ⟨u1, u2⟩ := q3 j hj hk
      rw [u1, u2, ps_ne s1 (by omega) (by omega), ps_ne s2 (by omega) (by omega)]
      exact ⟨rfl, rfl⟩
theorem st_9 {x1 ro co fd wr r ro' co' fd' wr' : Int32} {sR sC row col bel fac wo la sR' sC' row' col' bel' fac' wo' la' : List Int32} (l1 : row.length = 192) (l2 : col.length = 192) (l3 : bel.length = 192) (l4 : fac.length = 192) (l5 : wo.length = 384) (l6 : la.length = 384) (e : fX9_sheet 700 x1 ro co fd wr sR sC row col bel fac wo la = some (r, ro', co', fd', wr', sR', sC', row', col', bel', fac', wo', la')) : (¬ os_w (x1 / (10 : Int32)) (mm_rem x1 (10 : Int32)) ∧ r = -1 ∧ ro' = ro ∧ co' = co ∧ fd' = fd ∧ wr' = wr ∧ sR' = sR ∧ sC' = sC ∧ row' = row ∧ col' = col ∧ bel' = bel ∧ fac' = fac ∧ wo' = wo ∧ la' = la) ∨ (os_w (x1 / (10 : Int32)) (mm_rem x1 (10 : Int32)) ∧ r = ((10 : Int32) * ro) + co ∧ ro' = x1 / (10 : Int32) ∧ co' = mm_rem x1 (10 : Int32) ∧ fd' = 0 ∧ wr' = 0 ∧ sR' = mm_is sR (0 : Int32) (x1 / (10 : Int32)) ∧ sC' = mm_is sC (0 : Int32) (mm_rem x1 (10 : Int32)) ∧ fq_w 0 32 row col bel fac row' col' bel' fac' ∧ fl_w ((x1 / (10 : Int32)).toInt * (mm_rem x1 (10 : Int32)).toInt).toNat (mm_rem x1 (10 : Int32)).toInt 0 row' col' bel' fac' ∧ zc_w 0 wo' la' ∧ (∀ j : Nat, j < 384 → 64 ≤ j → wo'.getD j 0 = wo.getD j 0 ∧ la'.getD j 0 = la.getD j 0)) := by
  have n0 : (0 : Int32).toInt = 0 := by decide
  have z0 : (0 : Int32).toInt.toNat = 0 := by decide
  have m1 : (1 : Int64).toInt = 1 := by decide
  have m4 : (4 : Int64).toInt = 4 := by decide
  have m8 : (8 : Int64).toInt = 8 := by decide
  unfold fX9_sheet at e
  by_cases c : x1 < 0
  · have d := i_lt c
    have dn := dn_x (show x1.toInt < 0 by omega)
    rw [if_pos c] at e
    apply mm_sub13 e
    exact Or.inl ⟨fun h => absurd h.1.1 (by omega), rfl, rfl, rfl, rfl, rfl, rfl, rfl, rfl, rfl, rfl, rfl, rfl, rfl⟩
  · rw [if_neg c] at e
    have e := ck_x e
    rw [wn_x, bs_1, i_64, m1, m4] at e
    generalize x1 / (10 : Int32) = a at e ⊢
    generalize mm_rem x1 (10 : Int32) = b at e ⊢
    by_cases c1 : 1 ≤ a.toInt ∧ a.toInt ≤ 4
    · rw [decide_eq_true c1, if_neg (by decide)] at e
      have e := ck_x e
      rw [wn_x, bs_1, i_64, m1, m8] at e
      by_cases c2 : 1 ≤ b.toInt ∧ b.toInt ≤ 8
      · rw [decide_eq_true c2, if_neg (by decide), nm_eq] at e
        have e := ck_x (ck_x e)
        obtain ⟨w13, w14, w15, w16, w17, w18, w19, w20, w21, w22, w23, w24, en, e⟩ := mm_bd12s e
        apply mm_sub13 e
        unfold fX9_isNew at en
        obtain ⟨u1, u2, u3, u4, u5, u6, el, en⟩ := mm_bd6s en
        have hf := i_fl c1.1 c1.2 c2.1 c2.2
        obtain ⟨q1, q2, ⟨q3, q4, q5, q6⟩, q7, q8⟩ := li_e (m := (a.toInt * b.toInt).toNat) (by omega) (by omega) c2.1 c2.2 (by omega) (by omega) l1 l2 l3 l4 el
        obtain ⟨⟨v1, v2, v3, v4, v5, v6, v7, v8, v9, v10⟩, v11, v12⟩ := in_17 700 (0 : Int32) wo la _ _ _ _ _ _ _ _ _ _ _ _ en (by omega) (by omega) l5 l6 (fun k hk => absurd hk (by omega))
        rw [z0, Nat.mul_zero] at q7 q8
        subst v5 v6 v7 v8 v9 v10
        exact Or.inr ⟨⟨c1, c2⟩, rfl, v1, v2, v3, v4, q1, q2, fun j hj hk => q7 j hj (by omega), q8, v11, v12⟩
      · rw [decide_eq_false c2, if_pos rfl] at e
        apply mm_sub13 e
        exact Or.inl ⟨fun h => c2 h.2, rfl, rfl, rfl, rfl, rfl, rfl, rfl, rfl, rfl, rfl, rfl, rfl, rfl⟩
    · rw [decide_eq_false c1, if_pos rfl] at e
      apply mm_sub13 e
      exact Or.inl ⟨fun h => c1 h.1, rfl, rfl, rfl, rfl, rfl, rfl, rfl, rfl, rfl, rfl, rfl, rfl, rfl⟩
end
section
/-! Geometry: the relation of class and reference -/
theorem fr_n {l l' : List Int32} {a b : Int} (h : fr l l' a b) (hl : l.length ≤ 1000) {k : Nat} (hk : k < l.length) (ho : (k : Int) < a ∨ b ≤ (k : Int)) : l'.getD k 0 = l.getD k 0 := by
  have e : (Int32.ofNat k).toInt = (k : Int) := Int32.toInt_ofNat_of_lt (by omega)
  have q := h.2 (Int32.ofNat k) (by omega) (by omega) (by omega)
  rw [ge_ig, ge_ig, e, Int.toNat_natCast] at q
  exact q
theorem zn_n {l : List Int32} {b lo hi : Int} (h : zn l 0 b lo hi) (hl : l.length ≤ 1000) {k : Nat} (hk : k < l.length) (hb : (k : Int) < b) : lo ≤ (l.getD k 0).toInt ∧ (l.getD k 0).toInt < hi := by
  have e : (Int32.ofNat k).toInt = (k : Int) := Int32.toInt_ofNat_of_lt (by omega)
  have q := h (Int32.ofNat k) (by omega) (by omega) (by omega) (by omega)
  rw [ge_ig, e, Int.toNat_natCast] at q
  exact q
/-- a sheet of the class and a level of the reference alike, by where the fields lie -/
def lg_w (lv : Nat) (rows cols high wide : Int32) (R C B F sR sC row col bel fac : List Int32) : Prop := sR.getD lv 0 = high ∧ sC.getD lv 0 = wide ∧ gx_w (rows.toInt * cols.toInt).toNat (32 * lv) R C B F row col bel fac
theorem lg_t {lv : Nat} {rows cols high wide : Int32} {R C B F sR sC row col bel fac sR' sC' row' col' bel' fac' : List Int32} (h : lg_w lv rows cols high wide R C B F sR sC row col bel fac) (m32 : rows.toInt * cols.toInt ≤ 32) (h1 : sR'.getD lv 0 = sR.getD lv 0) (h2 : sC'.getD lv 0 = sC.getD lv 0) (h3 : ∀ j : Nat, 32 * lv ≤ j → j < 32 * lv + 32 → row'.getD j 0 = row.getD j 0 ∧ col'.getD j 0 = col.getD j 0 ∧ bel'.getD j 0 = bel.getD j 0 ∧ fac'.getD j 0 = fac.getD j 0) : lg_w lv rows cols high wide R C B F sR' sC' row' col' bel' fac' := by
  obtain ⟨a1, a2, a3⟩ := h
  refine ⟨by rw [h1, a1], by rw [h2, a2], fun k hk => ?_⟩
  obtain ⟨b1, b2, b3, b4⟩ := h3 (32 * lv + k) (by omega) (by omega)
  obtain ⟨c1, c2, c3, c4⟩ := a3 k hk
  exact ⟨by rw [b1, c1], by rw [b2, c2], by rw [b3, c3], by rw [b4, c4]⟩
/-- the six rows of the levels 1 to 4 written, the others as they were -/
def f6_w (sR sC row col bel fac sR' sC' row' col' bel' fac' : List Int32) : Prop := fr sR sR' 1 5 ∧ fr sC sC' 1 5 ∧ fr row row' 32 160 ∧ fr col col' 32 160 ∧ fr bel bel' 32 160 ∧ fr fac fac' 32 160
theorem lg_6 {lv : Nat} {rows cols high wide : Int32} {R C B F sR sC row col bel fac sR' sC' row' col' bel' fac' : List Int32} (hl : lv = 0 ∨ lv = 5) (k1 : sR.length = 6) (k2 : sC.length = 6) (k3 : row.length = 192) (k4 : col.length = 192) (k5 : bel.length = 192) (k6 : fac.length = 192) (m32 : rows.toInt * cols.toInt ≤ 32) (f : f6_w sR sC row col bel fac sR' sC' row' col' bel' fac') (h : lg_w lv rows cols high wide R C B F sR sC row col bel fac) : lg_w lv rows cols high wide R C B F sR' sC' row' col' bel' fac' := by
  obtain ⟨f1, f2, f3, f4, f5, f6⟩ := f
  refine lg_t h m32 (fr_n f1 (by omega) (by omega) (by omega)) (fr_n f2 (by omega) (by omega) (by omega)) (fun j j0 j1 => ?_)
  exact ⟨fr_n f3 (by omega) (by omega) (by omega), fr_n f4 (by omega) (by omega) (by omega), fr_n f5 (by omega) (by omega) (by omega), fr_n f6 (by omega) (by omega) (by omega)⟩
def rl_ge (v_now_rows : Int32) (v_now_cols : Int32) (v_now_high : Int32) (v_now_wide : Int32) (v_now_folds : Int32) (v_now_rowOf : List Int32) (v_now_colOf : List Int32) (v_now_below : List Int32) (v_now_face : List Int32) (v_hasImage : Bool) (v_kept_rows : Int32) (v_kept_cols : Int32) (v_kept_high : Int32) (v_kept_wide : Int32) (v_kept_folds : Int32) (v_kept_rowOf : List Int32) (v_kept_colOf : List Int32) (v_kept_below : List Int32) (v_kept_face : List Int32) (m_rowsOf : Int32) (m_columnsOf : Int32) (m_folded : Int32) (m_isKept : Bool) (m_imageRows : Int32) (m_imageColumns : Int32) (m_imageFolded : Int32) (m_shapeRows : List Int32) (m_shapeColumns : List Int32) (m_row : List Int32) (m_column : List Int32) (m_below : List Int32) (m_face : List Int32) : Prop := m_rowsOf = v_now_rows ∧ m_columnsOf = v_now_cols ∧ m_folded = v_now_folds ∧ m_isKept = v_hasImage ∧ lg_w 0 v_now_rows v_now_cols v_now_high v_now_wide v_now_rowOf v_now_colOf v_now_below v_now_face m_shapeRows m_shapeColumns m_row m_column m_below m_face ∧ (v_hasImage = true → m_imageRows = v_kept_rows ∧ m_imageColumns = v_kept_cols ∧ m_imageFolded = v_kept_folds ∧ lg_w 5 v_kept_rows v_kept_cols v_kept_high v_kept_wide v_kept_rowOf v_kept_colOf v_kept_below v_kept_face m_shapeRows m_shapeColumns m_row m_column m_below m_face)
def gx_b (m o : Nat) (R C B F row col bel fac : List Int32) : Bool := (List.range m).all (fun k => decide (row.getD (o + k) 0 = R.getD k 0 ∧ col.getD (o + k) 0 = C.getD k 0 ∧ bel.getD (o + k) 0 = B.getD k 0 ∧ fac.getD (o + k) 0 = F.getD k 0))
theorem gx_of {m o : Nat} {R C B F row col bel fac : List Int32} (h : gx_b m o R C B F row col bel fac = true) : gx_w m o R C B F row col bel fac := fun k hk => of_decide_eq_true (List.all_eq_true.mp h k (List.mem_range.mpr hk))
theorem nw_ge : rl_ge 2 4 2 4 0 z5_rowOf z5_colOf (mm_zs 32) (mm_zs 32) false 2 4 2 4 0 z5_rowOf z5_colOf (mm_zs 32) (mm_zs 32) 2 4 0 false 0 0 0 z9_shapeRows z9_shapeColumns z9_row z9_column (mm_zs 192) (mm_zs 192) := ⟨rfl, rfl, rfl, rfl, ⟨by decide +kernel, by decide +kernel, gx_of (by decide +kernel)⟩, fun h => absurd h (by decide)⟩
end
section
/-! Frames of the calls that work on levels 1 to 4 -/
set_option maxHeartbeats 4000000 in
set_option maxRecDepth 20000 in
theorem sg9_cost {x1 : Int32} {v_rowsOf : Int32} {v_columnsOf : Int32} {v_textMany : Int32} {v_base : Int32} {v_at : Int32} {v_ends : Int32} {v_fault : Int32} {v_opened : Int32} {v_bentMany : Int32} {v_bentWrong : Int32} {v_moreWorn : Int32} {v_planned : Int32} {v_allWrong : Int32} {v_allWorn : Int32} {v_z : Int32} {v_limit : List Int32} {v_shapeRows : List Int32} {v_shapeColumns : List Int32} {v_row : List Int32} {v_column : List Int32} {v_below : List Int32} {v_face : List Int32} {v_worn : List Int32} {v_lastBend : List Int32} {v_tape : List Int32} {v_text : List Int32} {v_names : List Int32} {v_bends : List Int32} {v_high : List Int32} {v_to : List Int32} {v_pileSize : List Int32} {v_planLine : List Int32} {v_planWay : List Int32} {v_keptMany : Int32} {v_done : Int32} {v_changeWas : List Int32} {v_changeIs : List Int32} {v_isKept : Bool} {v_imageRows : Int32} {v_imageColumns : Int32} {v_tapeMany : Int32} (g_0 : gm_ch v_keptMany v_done v_limit v_changeWas v_changeIs) (g_1 : gm_sh v_rowsOf v_columnsOf v_isKept v_imageRows v_imageColumns v_shapeRows v_shapeColumns v_row v_column v_below v_face v_worn v_lastBend) (g_2 : gm_tx v_tapeMany v_textMany v_tape v_text v_names v_bends v_high v_to v_pileSize) (g_3 : gm_pl v_planned v_planLine v_planWay) : wp (fX9_cost 700 x1 v_rowsOf v_columnsOf v_textMany v_base v_at v_ends v_fault v_opened v_bentMany v_bentWrong v_moreWorn v_planned v_allWrong v_allWorn v_z v_limit v_shapeRows v_shapeColumns v_row v_column v_below v_face v_worn v_lastBend v_tape v_text v_names v_bends v_high v_to v_pileSize v_planLine v_planWay) (cu25 (fun (r : Int32) (wv_base : Int32) (wv_at : Int32) (wv_ends : Int32) (wv_fault : Int32) (wv_opened : Int32) (wv_bentMany : Int32) (wv_bentWrong : Int32) (wv_moreWorn : Int32) (wv_allWrong : Int32) (wv_allWorn : Int32) (wv_z : Int32) (wv_shapeRows : List Int32) (wv_shapeColumns : List Int32) (wv_row : List Int32) (wv_column : List Int32) (wv_below : List Int32) (wv_face : List Int32) (wv_worn : List Int32) (wv_lastBend : List Int32) (wv_names : List Int32) (wv_bends : List Int32) (wv_high : List Int32) (wv_to : List Int32) (wv_pileSize : List Int32) => f6_w v_shapeRows v_shapeColumns v_row v_column v_below v_face wv_shapeRows wv_shapeColumns wv_row wv_column wv_below wv_face ∧ fr v_worn wv_worn 64 320 ∧ fr v_lastBend wv_lastBend 64 320)) := by
  obtain ⟨a_0_0, a_0_1, a_0_2, a_0_3, a_0_4, a_0_5, a_0_6, a_0_7⟩ := id g_0
  obtain ⟨a_1_0, a_1_1, a_1_2, a_1_3, a_1_4, a_1_5, a_1_6, a_1_7, a_1_8, a_1_9, a_1_10, a_1_11, a_1_12, a_1_13⟩ := id g_1
  obtain ⟨a_2_0, a_2_1, a_2_2, a_2_3, a_2_4, a_2_5, a_2_6, a_2_7, a_2_8, a_2_9, a_2_10⟩ := id g_2
  obtain ⟨a_3_0, a_3_1, a_3_2, a_3_3⟩ := id g_3
  have n0 : (0 : Int32).toInt = 0 := by decide
  have n1 : (1 : Int32).toInt = 1 := by decide
  refine wp_cu25 (sf_X9_cost (u_row := v_row) (u_col := v_column) (u_sR := v_shapeRows) (u_sC := v_shapeColumns) (A := 32) (B9 := 160) (a9 := 1) (b9 := 5) (u_bel := v_below) (u_fac := v_face) (u_wo := v_worn) (u_la := v_lastBend) (Aw := 64) (Bw := 320) (Nat.le_refl 700) a_1_0 a_1_1 a_1_2 a_1_3 a_2_2 a_2_3 a_3_0 a_3_1 a_0_4 a_1_4 a_1_5 a_1_6 a_1_7 a_1_8 a_1_9 a_1_10 a_1_11 a_2_4 a_2_5 a_2_6 a_2_7 a_2_8 a_2_9 a_2_10 a_3_2 a_3_3 (fr_refl _ _ _) (fr_refl _ _ _) (fr_refl _ _ _) (fr_refl _ _ _) (by omega) (by omega) (by omega) (by omega) (fr_refl _ _ _) (fr_refl _ _ _) (fr_refl _ _ _) (fr_refl _ _ _) (by omega) (by omega)) (fun r wv_base wv_at wv_ends wv_fault wv_opened wv_bentMany wv_bentWrong wv_moreWorn wv_allWrong wv_allWorn wv_z wv_shapeRows wv_shapeColumns wv_row wv_column wv_below wv_face wv_worn wv_lastBend wv_names wv_bends wv_high wv_to wv_pileSize ⟨q_0, q_1, q_2, q_3, q_4, q_5, q_6, q_7, q_8, q_9, q_10, q_11, q_12, q_13, q_14, q_15, q_16, q_17, q_18, q_19, q_20⟩ => ?_)
  exact ⟨⟨q_15, q_16, q_13, q_14, q_17, q_18⟩, q_19, q_20⟩
set_option maxHeartbeats 4000000 in
set_option maxRecDepth 20000 in
theorem sg9_lies {x1 : Int32} {x2 : Int32} {v_rowsOf : Int32} {v_columnsOf : Int32} {v_textMany : Int32} {v_base : Int32} {v_at : Int32} {v_ends : Int32} {v_fault : Int32} {v_opened : Int32} {v_bentMany : Int32} {v_bentWrong : Int32} {v_moreWorn : Int32} {v_planned : Int32} {v_allWrong : Int32} {v_allWorn : Int32} {v_z : Int32} {v_limit : List Int32} {v_shapeRows : List Int32} {v_shapeColumns : List Int32} {v_row : List Int32} {v_column : List Int32} {v_below : List Int32} {v_face : List Int32} {v_worn : List Int32} {v_lastBend : List Int32} {v_tape : List Int32} {v_text : List Int32} {v_names : List Int32} {v_bends : List Int32} {v_high : List Int32} {v_to : List Int32} {v_pileSize : List Int32} {v_planLine : List Int32} {v_planWay : List Int32} {v_keptMany : Int32} {v_done : Int32} {v_changeWas : List Int32} {v_changeIs : List Int32} {v_isKept : Bool} {v_imageRows : Int32} {v_imageColumns : Int32} {v_tapeMany : Int32} (g_0 : gm_ch v_keptMany v_done v_limit v_changeWas v_changeIs) (g_1 : gm_sh v_rowsOf v_columnsOf v_isKept v_imageRows v_imageColumns v_shapeRows v_shapeColumns v_row v_column v_below v_face v_worn v_lastBend) (g_2 : gm_tx v_tapeMany v_textMany v_tape v_text v_names v_bends v_high v_to v_pileSize) (g_3 : gm_pl v_planned v_planLine v_planWay) : wp (fX9_lies 700 x1 x2 v_rowsOf v_columnsOf v_textMany v_base v_at v_ends v_fault v_opened v_bentMany v_bentWrong v_moreWorn v_planned v_allWrong v_allWorn v_z v_limit v_shapeRows v_shapeColumns v_row v_column v_below v_face v_worn v_lastBend v_tape v_text v_names v_bends v_high v_to v_pileSize v_planLine v_planWay) (cu25 (fun (r : Int32) (wv_base : Int32) (wv_at : Int32) (wv_ends : Int32) (wv_fault : Int32) (wv_opened : Int32) (wv_bentMany : Int32) (wv_bentWrong : Int32) (wv_moreWorn : Int32) (wv_allWrong : Int32) (wv_allWorn : Int32) (wv_z : Int32) (wv_shapeRows : List Int32) (wv_shapeColumns : List Int32) (wv_row : List Int32) (wv_column : List Int32) (wv_below : List Int32) (wv_face : List Int32) (wv_worn : List Int32) (wv_lastBend : List Int32) (wv_names : List Int32) (wv_bends : List Int32) (wv_high : List Int32) (wv_to : List Int32) (wv_pileSize : List Int32) => f6_w v_shapeRows v_shapeColumns v_row v_column v_below v_face wv_shapeRows wv_shapeColumns wv_row wv_column wv_below wv_face ∧ fr v_worn wv_worn 64 320 ∧ fr v_lastBend wv_lastBend 64 320)) := by
  obtain ⟨a_0_0, a_0_1, a_0_2, a_0_3, a_0_4, a_0_5, a_0_6, a_0_7⟩ := id g_0
  obtain ⟨a_1_0, a_1_1, a_1_2, a_1_3, a_1_4, a_1_5, a_1_6, a_1_7, a_1_8, a_1_9, a_1_10, a_1_11, a_1_12, a_1_13⟩ := id g_1
  obtain ⟨a_2_0, a_2_1, a_2_2, a_2_3, a_2_4, a_2_5, a_2_6, a_2_7, a_2_8, a_2_9, a_2_10⟩ := id g_2
  obtain ⟨a_3_0, a_3_1, a_3_2, a_3_3⟩ := id g_3
  have n0 : (0 : Int32).toInt = 0 := by decide
  have n1 : (1 : Int32).toInt = 1 := by decide
  refine wp_cu25 (sf_X9_lies (u_row := v_row) (u_col := v_column) (u_sR := v_shapeRows) (u_sC := v_shapeColumns) (A := 32) (B9 := 160) (a9 := 1) (b9 := 5) (u_bel := v_below) (u_fac := v_face) (u_wo := v_worn) (u_la := v_lastBend) (Aw := 64) (Bw := 320) (Nat.le_refl 700) a_1_0 a_1_1 a_1_2 a_1_3 a_2_2 a_2_3 a_3_0 a_3_1 a_0_4 a_1_4 a_1_5 a_1_6 a_1_7 a_1_8 a_1_9 a_1_10 a_1_11 a_2_4 a_2_5 a_2_6 a_2_7 a_2_8 a_2_9 a_2_10 a_3_2 a_3_3 (fr_refl _ _ _) (fr_refl _ _ _) (fr_refl _ _ _) (fr_refl _ _ _) (by omega) (by omega) (by omega) (by omega) (fr_refl _ _ _) (fr_refl _ _ _) (fr_refl _ _ _) (fr_refl _ _ _) (by omega) (by omega)) (fun r wv_base wv_at wv_ends wv_fault wv_opened wv_bentMany wv_bentWrong wv_moreWorn wv_allWrong wv_allWorn wv_z wv_shapeRows wv_shapeColumns wv_row wv_column wv_below wv_face wv_worn wv_lastBend wv_names wv_bends wv_high wv_to wv_pileSize ⟨q_0, q_1, q_2, q_3, q_4, q_5, q_6, q_7, q_8, q_9, q_10, q_11, q_12, q_13, q_14, q_15, q_16, q_17, q_18, q_19, q_20⟩ => ?_)
  exact ⟨⟨q_15, q_16, q_13, q_14, q_17, q_18⟩, q_19, q_20⟩
set_option maxHeartbeats 4000000 in
set_option maxRecDepth 20000 in
theorem sg9_top {x1 : Int32} {x2 : Int32} {v_rowsOf : Int32} {v_columnsOf : Int32} {v_textMany : Int32} {v_base : Int32} {v_at : Int32} {v_ends : Int32} {v_fault : Int32} {v_opened : Int32} {v_bentMany : Int32} {v_bentWrong : Int32} {v_moreWorn : Int32} {v_planned : Int32} {v_allWrong : Int32} {v_allWorn : Int32} {v_z : Int32} {v_limit : List Int32} {v_shapeRows : List Int32} {v_shapeColumns : List Int32} {v_row : List Int32} {v_column : List Int32} {v_below : List Int32} {v_face : List Int32} {v_worn : List Int32} {v_lastBend : List Int32} {v_tape : List Int32} {v_text : List Int32} {v_names : List Int32} {v_bends : List Int32} {v_high : List Int32} {v_to : List Int32} {v_pileSize : List Int32} {v_planLine : List Int32} {v_planWay : List Int32} {v_keptMany : Int32} {v_done : Int32} {v_changeWas : List Int32} {v_changeIs : List Int32} {v_isKept : Bool} {v_imageRows : Int32} {v_imageColumns : Int32} {v_tapeMany : Int32} (g_0 : gm_ch v_keptMany v_done v_limit v_changeWas v_changeIs) (g_1 : gm_sh v_rowsOf v_columnsOf v_isKept v_imageRows v_imageColumns v_shapeRows v_shapeColumns v_row v_column v_below v_face v_worn v_lastBend) (g_2 : gm_tx v_tapeMany v_textMany v_tape v_text v_names v_bends v_high v_to v_pileSize) (g_3 : gm_pl v_planned v_planLine v_planWay) : wp (fX9_top 700 x1 x2 v_rowsOf v_columnsOf v_textMany v_base v_at v_ends v_fault v_opened v_bentMany v_bentWrong v_moreWorn v_planned v_allWrong v_allWorn v_z v_limit v_shapeRows v_shapeColumns v_row v_column v_below v_face v_worn v_lastBend v_tape v_text v_names v_bends v_high v_to v_pileSize v_planLine v_planWay) (cu25 (fun (r : Int32) (wv_base : Int32) (wv_at : Int32) (wv_ends : Int32) (wv_fault : Int32) (wv_opened : Int32) (wv_bentMany : Int32) (wv_bentWrong : Int32) (wv_moreWorn : Int32) (wv_allWrong : Int32) (wv_allWorn : Int32) (wv_z : Int32) (wv_shapeRows : List Int32) (wv_shapeColumns : List Int32) (wv_row : List Int32) (wv_column : List Int32) (wv_below : List Int32) (wv_face : List Int32) (wv_worn : List Int32) (wv_lastBend : List Int32) (wv_names : List Int32) (wv_bends : List Int32) (wv_high : List Int32) (wv_to : List Int32) (wv_pileSize : List Int32) => f6_w v_shapeRows v_shapeColumns v_row v_column v_below v_face wv_shapeRows wv_shapeColumns wv_row wv_column wv_below wv_face ∧ fr v_worn wv_worn 64 320 ∧ fr v_lastBend wv_lastBend 64 320)) := by
  obtain ⟨a_0_0, a_0_1, a_0_2, a_0_3, a_0_4, a_0_5, a_0_6, a_0_7⟩ := id g_0
  obtain ⟨a_1_0, a_1_1, a_1_2, a_1_3, a_1_4, a_1_5, a_1_6, a_1_7, a_1_8, a_1_9, a_1_10, a_1_11, a_1_12, a_1_13⟩ := id g_1
  obtain ⟨a_2_0, a_2_1, a_2_2, a_2_3, a_2_4, a_2_5, a_2_6, a_2_7, a_2_8, a_2_9, a_2_10⟩ := id g_2
  obtain ⟨a_3_0, a_3_1, a_3_2, a_3_3⟩ := id g_3
  have n0 : (0 : Int32).toInt = 0 := by decide
  have n1 : (1 : Int32).toInt = 1 := by decide
  refine wp_cu25 (sf_X9_top (u_row := v_row) (u_col := v_column) (u_sR := v_shapeRows) (u_sC := v_shapeColumns) (A := 32) (B9 := 160) (a9 := 1) (b9 := 5) (u_bel := v_below) (u_fac := v_face) (u_wo := v_worn) (u_la := v_lastBend) (Aw := 64) (Bw := 320) (Nat.le_refl 700) a_1_0 a_1_1 a_1_2 a_1_3 a_2_2 a_2_3 a_3_0 a_3_1 a_0_4 a_1_4 a_1_5 a_1_6 a_1_7 a_1_8 a_1_9 a_1_10 a_1_11 a_2_4 a_2_5 a_2_6 a_2_7 a_2_8 a_2_9 a_2_10 a_3_2 a_3_3 (fr_refl _ _ _) (fr_refl _ _ _) (fr_refl _ _ _) (fr_refl _ _ _) (by omega) (by omega) (by omega) (by omega) (fr_refl _ _ _) (fr_refl _ _ _) (fr_refl _ _ _) (fr_refl _ _ _) (by omega) (by omega)) (fun r wv_base wv_at wv_ends wv_fault wv_opened wv_bentMany wv_bentWrong wv_moreWorn wv_allWrong wv_allWorn wv_z wv_shapeRows wv_shapeColumns wv_row wv_column wv_below wv_face wv_worn wv_lastBend wv_names wv_bends wv_high wv_to wv_pileSize ⟨q_0, q_1, q_2, q_3, q_4, q_5, q_6, q_7, q_8, q_9, q_10, q_11, q_12, q_13, q_14, q_15, q_16, q_17, q_18, q_19, q_20⟩ => ?_)
  exact ⟨⟨q_15, q_16, q_13, q_14, q_17, q_18⟩, q_19, q_20⟩
set_option maxHeartbeats 4000000 in
set_option maxRecDepth 20000 in
theorem sg9_beside {x1 : Int32} {x2 : Int32} {v_rowsOf : Int32} {v_columnsOf : Int32} {v_textMany : Int32} {v_base : Int32} {v_at : Int32} {v_ends : Int32} {v_fault : Int32} {v_opened : Int32} {v_bentMany : Int32} {v_bentWrong : Int32} {v_moreWorn : Int32} {v_planned : Int32} {v_allWrong : Int32} {v_allWorn : Int32} {v_z : Int32} {v_limit : List Int32} {v_shapeRows : List Int32} {v_shapeColumns : List Int32} {v_row : List Int32} {v_column : List Int32} {v_below : List Int32} {v_face : List Int32} {v_worn : List Int32} {v_lastBend : List Int32} {v_tape : List Int32} {v_text : List Int32} {v_names : List Int32} {v_bends : List Int32} {v_high : List Int32} {v_to : List Int32} {v_pileSize : List Int32} {v_planLine : List Int32} {v_planWay : List Int32} {v_keptMany : Int32} {v_done : Int32} {v_changeWas : List Int32} {v_changeIs : List Int32} {v_isKept : Bool} {v_imageRows : Int32} {v_imageColumns : Int32} {v_tapeMany : Int32} (g_0 : gm_ch v_keptMany v_done v_limit v_changeWas v_changeIs) (g_1 : gm_sh v_rowsOf v_columnsOf v_isKept v_imageRows v_imageColumns v_shapeRows v_shapeColumns v_row v_column v_below v_face v_worn v_lastBend) (g_2 : gm_tx v_tapeMany v_textMany v_tape v_text v_names v_bends v_high v_to v_pileSize) (g_3 : gm_pl v_planned v_planLine v_planWay) : wp (fX9_beside 700 x1 x2 v_rowsOf v_columnsOf v_textMany v_base v_at v_ends v_fault v_opened v_bentMany v_bentWrong v_moreWorn v_planned v_allWrong v_allWorn v_z v_limit v_shapeRows v_shapeColumns v_row v_column v_below v_face v_worn v_lastBend v_tape v_text v_names v_bends v_high v_to v_pileSize v_planLine v_planWay) (cu25 (fun (r : Int32) (wv_base : Int32) (wv_at : Int32) (wv_ends : Int32) (wv_fault : Int32) (wv_opened : Int32) (wv_bentMany : Int32) (wv_bentWrong : Int32) (wv_moreWorn : Int32) (wv_allWrong : Int32) (wv_allWorn : Int32) (wv_z : Int32) (wv_shapeRows : List Int32) (wv_shapeColumns : List Int32) (wv_row : List Int32) (wv_column : List Int32) (wv_below : List Int32) (wv_face : List Int32) (wv_worn : List Int32) (wv_lastBend : List Int32) (wv_names : List Int32) (wv_bends : List Int32) (wv_high : List Int32) (wv_to : List Int32) (wv_pileSize : List Int32) => f6_w v_shapeRows v_shapeColumns v_row v_column v_below v_face wv_shapeRows wv_shapeColumns wv_row wv_column wv_below wv_face ∧ fr v_worn wv_worn 64 320 ∧ fr v_lastBend wv_lastBend 64 320)) := by
  obtain ⟨a_0_0, a_0_1, a_0_2, a_0_3, a_0_4, a_0_5, a_0_6, a_0_7⟩ := id g_0
  obtain ⟨a_1_0, a_1_1, a_1_2, a_1_3, a_1_4, a_1_5, a_1_6, a_1_7, a_1_8, a_1_9, a_1_10, a_1_11, a_1_12, a_1_13⟩ := id g_1
  obtain ⟨a_2_0, a_2_1, a_2_2, a_2_3, a_2_4, a_2_5, a_2_6, a_2_7, a_2_8, a_2_9, a_2_10⟩ := id g_2
  obtain ⟨a_3_0, a_3_1, a_3_2, a_3_3⟩ := id g_3
  have n0 : (0 : Int32).toInt = 0 := by decide
  have n1 : (1 : Int32).toInt = 1 := by decide
  refine wp_cu25 (sf_X9_beside (u_row := v_row) (u_col := v_column) (u_sR := v_shapeRows) (u_sC := v_shapeColumns) (A := 32) (B9 := 160) (a9 := 1) (b9 := 5) (u_bel := v_below) (u_fac := v_face) (u_wo := v_worn) (u_la := v_lastBend) (Aw := 64) (Bw := 320) (Nat.le_refl 700) a_1_0 a_1_1 a_1_2 a_1_3 a_2_2 a_2_3 a_3_0 a_3_1 a_0_4 a_1_4 a_1_5 a_1_6 a_1_7 a_1_8 a_1_9 a_1_10 a_1_11 a_2_4 a_2_5 a_2_6 a_2_7 a_2_8 a_2_9 a_2_10 a_3_2 a_3_3 (fr_refl _ _ _) (fr_refl _ _ _) (fr_refl _ _ _) (fr_refl _ _ _) (by omega) (by omega) (by omega) (by omega) (fr_refl _ _ _) (fr_refl _ _ _) (fr_refl _ _ _) (fr_refl _ _ _) (by omega) (by omega)) (fun r wv_base wv_at wv_ends wv_fault wv_opened wv_bentMany wv_bentWrong wv_moreWorn wv_allWrong wv_allWorn wv_z wv_shapeRows wv_shapeColumns wv_row wv_column wv_below wv_face wv_worn wv_lastBend wv_names wv_bends wv_high wv_to wv_pileSize ⟨q_0, q_1, q_2, q_3, q_4, q_5, q_6, q_7, q_8, q_9, q_10, q_11, q_12, q_13, q_14, q_15, q_16, q_17, q_18, q_19, q_20⟩ => ?_)
  exact ⟨⟨q_15, q_16, q_13, q_14, q_17, q_18⟩, q_19, q_20⟩
set_option maxHeartbeats 4000000 in
set_option maxRecDepth 20000 in
theorem sg9_wished {x1 : Int32} {x2 : Int32} {v_rowsOf : Int32} {v_columnsOf : Int32} {v_textMany : Int32} {v_base : Int32} {v_at : Int32} {v_ends : Int32} {v_fault : Int32} {v_opened : Int32} {v_bentMany : Int32} {v_bentWrong : Int32} {v_moreWorn : Int32} {v_wishedField : Int32} {v_isFound : Bool} {v_bestWrong : Int32} {v_bestWorn : Int32} {v_bestMany : Int32} {v_limit : List Int32} {v_shapeRows : List Int32} {v_shapeColumns : List Int32} {v_row : List Int32} {v_column : List Int32} {v_below : List Int32} {v_face : List Int32} {v_worn : List Int32} {v_lastBend : List Int32} {v_tape : List Int32} {v_text : List Int32} {v_names : List Int32} {v_bends : List Int32} {v_high : List Int32} {v_to : List Int32} {v_pileSize : List Int32} {v_way1 : List Int32} {v_bestWay : List Int32} {v_keptMany : Int32} {v_done : Int32} {v_changeWas : List Int32} {v_changeIs : List Int32} {v_isKept : Bool} {v_imageRows : Int32} {v_imageColumns : Int32} {v_tapeMany : Int32} (g_0 : gm_ch v_keptMany v_done v_limit v_changeWas v_changeIs) (g_1 : gm_sh v_rowsOf v_columnsOf v_isKept v_imageRows v_imageColumns v_shapeRows v_shapeColumns v_row v_column v_below v_face v_worn v_lastBend) (g_2 : gm_tx v_tapeMany v_textMany v_tape v_text v_names v_bends v_high v_to v_pileSize) (g_3 : gm_se v_bestMany v_way1 v_bestWay) : wp (fX9_wished 700 x1 x2 v_rowsOf v_columnsOf v_textMany v_base v_at v_ends v_fault v_opened v_bentMany v_bentWrong v_moreWorn v_wishedField v_isFound v_bestWrong v_bestWorn v_bestMany v_limit v_shapeRows v_shapeColumns v_row v_column v_below v_face v_worn v_lastBend v_tape v_text v_names v_bends v_high v_to v_pileSize v_way1 v_bestWay) (cu29 (fun (r : Int32) (wv_base : Int32) (wv_at : Int32) (wv_ends : Int32) (wv_fault : Int32) (wv_opened : Int32) (wv_bentMany : Int32) (wv_bentWrong : Int32) (wv_moreWorn : Int32) (wv_wishedField : Int32) (wv_isFound : Bool) (wv_bestWrong : Int32) (wv_bestWorn : Int32) (wv_bestMany : Int32) (wv_shapeRows : List Int32) (wv_shapeColumns : List Int32) (wv_row : List Int32) (wv_column : List Int32) (wv_below : List Int32) (wv_face : List Int32) (wv_worn : List Int32) (wv_lastBend : List Int32) (wv_names : List Int32) (wv_bends : List Int32) (wv_high : List Int32) (wv_to : List Int32) (wv_pileSize : List Int32) (wv_way1 : List Int32) (wv_bestWay : List Int32) => f6_w v_shapeRows v_shapeColumns v_row v_column v_below v_face wv_shapeRows wv_shapeColumns wv_row wv_column wv_below wv_face ∧ fr v_worn wv_worn 64 320 ∧ fr v_lastBend wv_lastBend 64 320)) := by
  obtain ⟨a_0_0, a_0_1, a_0_2, a_0_3, a_0_4, a_0_5, a_0_6, a_0_7⟩ := id g_0
  obtain ⟨a_1_0, a_1_1, a_1_2, a_1_3, a_1_4, a_1_5, a_1_6, a_1_7, a_1_8, a_1_9, a_1_10, a_1_11, a_1_12, a_1_13⟩ := id g_1
  obtain ⟨a_2_0, a_2_1, a_2_2, a_2_3, a_2_4, a_2_5, a_2_6, a_2_7, a_2_8, a_2_9, a_2_10⟩ := id g_2
  obtain ⟨a_3_0, a_3_1, a_3_2, a_3_3⟩ := id g_3
  have n0 : (0 : Int32).toInt = 0 := by decide
  have n1 : (1 : Int32).toInt = 1 := by decide
  refine wp_cu29 (sf_X9_wished (u_row := v_row) (u_col := v_column) (u_sR := v_shapeRows) (u_sC := v_shapeColumns) (A := 32) (B9 := 160) (a9 := 1) (b9 := 5) (u_bel := v_below) (u_fac := v_face) (u_wo := v_worn) (u_la := v_lastBend) (Aw := 64) (Bw := 320) (Nat.le_refl 700) a_1_0 a_1_1 a_1_2 a_1_3 a_2_2 a_2_3 a_3_0 a_3_1 a_0_4 a_1_4 a_1_5 a_1_6 a_1_7 a_1_8 a_1_9 a_1_10 a_1_11 a_2_4 a_2_5 a_2_6 a_2_7 a_2_8 a_2_9 a_2_10 a_3_2 a_3_3 (fr_refl _ _ _) (fr_refl _ _ _) (fr_refl _ _ _) (fr_refl _ _ _) (by omega) (by omega) (by omega) (by omega) (fr_refl _ _ _) (fr_refl _ _ _) (fr_refl _ _ _) (fr_refl _ _ _) (by omega) (by omega)) (fun r wv_base wv_at wv_ends wv_fault wv_opened wv_bentMany wv_bentWrong wv_moreWorn wv_wishedField wv_isFound wv_bestWrong wv_bestWorn wv_bestMany wv_shapeRows wv_shapeColumns wv_row wv_column wv_below wv_face wv_worn wv_lastBend wv_names wv_bends wv_high wv_to wv_pileSize wv_way1 wv_bestWay ⟨q_0, q_1, q_2, q_3, q_4, q_5, q_6, q_7, q_8, q_9, q_10, q_11, q_12, q_13, q_14, q_15, q_16, q_17, q_18, q_19, q_20, q_21, q_22, q_23, q_24⟩ => ?_)
  exact ⟨⟨q_19, q_20, q_17, q_18, q_21, q_22⟩, q_23, q_24⟩
set_option maxHeartbeats 4000000 in
set_option maxRecDepth 20000 in
theorem sg9_right {x1 : Int32} {v_rowsOf : Int32} {v_columnsOf : Int32} {v_textMany : Int32} {v_base : Int32} {v_at : Int32} {v_ends : Int32} {v_fault : Int32} {v_opened : Int32} {v_bentMany : Int32} {v_bentWrong : Int32} {v_moreWorn : Int32} {v_wishedField : Int32} {v_isFound : Bool} {v_bestWrong : Int32} {v_bestWorn : Int32} {v_bestMany : Int32} {v_limit : List Int32} {v_shapeRows : List Int32} {v_shapeColumns : List Int32} {v_row : List Int32} {v_column : List Int32} {v_below : List Int32} {v_face : List Int32} {v_worn : List Int32} {v_lastBend : List Int32} {v_tape : List Int32} {v_text : List Int32} {v_names : List Int32} {v_bends : List Int32} {v_high : List Int32} {v_to : List Int32} {v_pileSize : List Int32} {v_way1 : List Int32} {v_bestWay : List Int32} {v_keptMany : Int32} {v_done : Int32} {v_changeWas : List Int32} {v_changeIs : List Int32} {v_isKept : Bool} {v_imageRows : Int32} {v_imageColumns : Int32} {v_tapeMany : Int32} (g_0 : gm_ch v_keptMany v_done v_limit v_changeWas v_changeIs) (g_1 : gm_sh v_rowsOf v_columnsOf v_isKept v_imageRows v_imageColumns v_shapeRows v_shapeColumns v_row v_column v_below v_face v_worn v_lastBend) (g_2 : gm_tx v_tapeMany v_textMany v_tape v_text v_names v_bends v_high v_to v_pileSize) (g_3 : gm_se v_bestMany v_way1 v_bestWay) : wp (fX9_right 700 x1 v_rowsOf v_columnsOf v_textMany v_base v_at v_ends v_fault v_opened v_bentMany v_bentWrong v_moreWorn v_wishedField v_isFound v_bestWrong v_bestWorn v_bestMany v_limit v_shapeRows v_shapeColumns v_row v_column v_below v_face v_worn v_lastBend v_tape v_text v_names v_bends v_high v_to v_pileSize v_way1 v_bestWay) (cu29 (fun (r : Int32) (wv_base : Int32) (wv_at : Int32) (wv_ends : Int32) (wv_fault : Int32) (wv_opened : Int32) (wv_bentMany : Int32) (wv_bentWrong : Int32) (wv_moreWorn : Int32) (wv_wishedField : Int32) (wv_isFound : Bool) (wv_bestWrong : Int32) (wv_bestWorn : Int32) (wv_bestMany : Int32) (wv_shapeRows : List Int32) (wv_shapeColumns : List Int32) (wv_row : List Int32) (wv_column : List Int32) (wv_below : List Int32) (wv_face : List Int32) (wv_worn : List Int32) (wv_lastBend : List Int32) (wv_names : List Int32) (wv_bends : List Int32) (wv_high : List Int32) (wv_to : List Int32) (wv_pileSize : List Int32) (wv_way1 : List Int32) (wv_bestWay : List Int32) => f6_w v_shapeRows v_shapeColumns v_row v_column v_below v_face wv_shapeRows wv_shapeColumns wv_row wv_column wv_below wv_face ∧ fr v_worn wv_worn 64 320 ∧ fr v_lastBend wv_lastBend 64 320)) := by
  obtain ⟨a_0_0, a_0_1, a_0_2, a_0_3, a_0_4, a_0_5, a_0_6, a_0_7⟩ := id g_0
  obtain ⟨a_1_0, a_1_1, a_1_2, a_1_3, a_1_4, a_1_5, a_1_6, a_1_7, a_1_8, a_1_9, a_1_10, a_1_11, a_1_12, a_1_13⟩ := id g_1
  obtain ⟨a_2_0, a_2_1, a_2_2, a_2_3, a_2_4, a_2_5, a_2_6, a_2_7, a_2_8, a_2_9, a_2_10⟩ := id g_2
  obtain ⟨a_3_0, a_3_1, a_3_2, a_3_3⟩ := id g_3
  have n0 : (0 : Int32).toInt = 0 := by decide
  have n1 : (1 : Int32).toInt = 1 := by decide
  refine wp_cu29 (sf_X9_right (u_row := v_row) (u_col := v_column) (u_sR := v_shapeRows) (u_sC := v_shapeColumns) (A := 32) (B9 := 160) (a9 := 1) (b9 := 5) (u_bel := v_below) (u_fac := v_face) (u_wo := v_worn) (u_la := v_lastBend) (Aw := 64) (Bw := 320) (Nat.le_refl 700) a_1_0 a_1_1 a_1_2 a_1_3 a_2_2 a_2_3 a_3_0 a_3_1 a_0_4 a_1_4 a_1_5 a_1_6 a_1_7 a_1_8 a_1_9 a_1_10 a_1_11 a_2_4 a_2_5 a_2_6 a_2_7 a_2_8 a_2_9 a_2_10 a_3_2 a_3_3 (fr_refl _ _ _) (fr_refl _ _ _) (fr_refl _ _ _) (fr_refl _ _ _) (by omega) (by omega) (by omega) (by omega) (fr_refl _ _ _) (fr_refl _ _ _) (fr_refl _ _ _) (fr_refl _ _ _) (by omega) (by omega)) (fun r wv_base wv_at wv_ends wv_fault wv_opened wv_bentMany wv_bentWrong wv_moreWorn wv_wishedField wv_isFound wv_bestWrong wv_bestWorn wv_bestMany wv_shapeRows wv_shapeColumns wv_row wv_column wv_below wv_face wv_worn wv_lastBend wv_names wv_bends wv_high wv_to wv_pileSize wv_way1 wv_bestWay ⟨q_0, q_1, q_2, q_3, q_4, q_5, q_6, q_7, q_8, q_9, q_10, q_11, q_12, q_13, q_14, q_15, q_16, q_17, q_18, q_19, q_20, q_21, q_22, q_23, q_24⟩ => ?_)
  exact ⟨⟨q_19, q_20, q_17, q_18, q_21, q_22⟩, q_23, q_24⟩
set_option maxHeartbeats 4000000 in
set_option maxRecDepth 20000 in
theorem sg9_wind {x1 : Int32} {x2 : Int32} {x3 : Int32} {v_rowsOf : Int32} {v_columnsOf : Int32} {v_textMany : Int32} {v_base : Int32} {v_at : Int32} {v_ends : Int32} {v_fault : Int32} {v_opened : Int32} {v_bentMany : Int32} {v_bentWrong : Int32} {v_moreWorn : Int32} {v_planned : Int32} {v_allWrong : Int32} {v_allWorn : Int32} {v_z : Int32} {v_limit : List Int32} {v_shapeRows : List Int32} {v_shapeColumns : List Int32} {v_row : List Int32} {v_column : List Int32} {v_below : List Int32} {v_face : List Int32} {v_worn : List Int32} {v_lastBend : List Int32} {v_tape : List Int32} {v_text : List Int32} {v_names : List Int32} {v_bends : List Int32} {v_high : List Int32} {v_to : List Int32} {v_pileSize : List Int32} {v_planLine : List Int32} {v_planWay : List Int32} {v_keptMany : Int32} {v_done : Int32} {v_changeWas : List Int32} {v_changeIs : List Int32} {v_isKept : Bool} {v_imageRows : Int32} {v_imageColumns : Int32} {v_tapeMany : Int32} (g_0 : gm_ch v_keptMany v_done v_limit v_changeWas v_changeIs) (g_1 : gm_sh v_rowsOf v_columnsOf v_isKept v_imageRows v_imageColumns v_shapeRows v_shapeColumns v_row v_column v_below v_face v_worn v_lastBend) (g_2 : gm_tx v_tapeMany v_textMany v_tape v_text v_names v_bends v_high v_to v_pileSize) (g_3 : gm_pl v_planned v_planLine v_planWay) : wp (fX9_wind 700 x1 x2 x3 v_rowsOf v_columnsOf v_textMany v_base v_at v_ends v_fault v_opened v_bentMany v_bentWrong v_moreWorn v_planned v_allWrong v_allWorn v_z v_limit v_shapeRows v_shapeColumns v_row v_column v_below v_face v_worn v_lastBend v_tape v_text v_names v_bends v_high v_to v_pileSize v_planLine v_planWay) (cu25 (fun (r : Int32) (wv_base : Int32) (wv_at : Int32) (wv_ends : Int32) (wv_fault : Int32) (wv_opened : Int32) (wv_bentMany : Int32) (wv_bentWrong : Int32) (wv_moreWorn : Int32) (wv_allWrong : Int32) (wv_allWorn : Int32) (wv_z : Int32) (wv_shapeRows : List Int32) (wv_shapeColumns : List Int32) (wv_row : List Int32) (wv_column : List Int32) (wv_below : List Int32) (wv_face : List Int32) (wv_worn : List Int32) (wv_lastBend : List Int32) (wv_names : List Int32) (wv_bends : List Int32) (wv_high : List Int32) (wv_to : List Int32) (wv_pileSize : List Int32) => f6_w v_shapeRows v_shapeColumns v_row v_column v_below v_face wv_shapeRows wv_shapeColumns wv_row wv_column wv_below wv_face ∧ fr v_worn wv_worn 64 320 ∧ fr v_lastBend wv_lastBend 64 320)) := by
  obtain ⟨a_0_0, a_0_1, a_0_2, a_0_3, a_0_4, a_0_5, a_0_6, a_0_7⟩ := id g_0
  obtain ⟨a_1_0, a_1_1, a_1_2, a_1_3, a_1_4, a_1_5, a_1_6, a_1_7, a_1_8, a_1_9, a_1_10, a_1_11, a_1_12, a_1_13⟩ := id g_1
  obtain ⟨a_2_0, a_2_1, a_2_2, a_2_3, a_2_4, a_2_5, a_2_6, a_2_7, a_2_8, a_2_9, a_2_10⟩ := id g_2
  obtain ⟨a_3_0, a_3_1, a_3_2, a_3_3⟩ := id g_3
  have n0 : (0 : Int32).toInt = 0 := by decide
  have n1 : (1 : Int32).toInt = 1 := by decide
  refine wp_cu25 (sf_X9_wind (u_row := v_row) (u_col := v_column) (u_sR := v_shapeRows) (u_sC := v_shapeColumns) (A := 32) (B9 := 160) (a9 := 1) (b9 := 5) (u_bel := v_below) (u_fac := v_face) (u_wo := v_worn) (u_la := v_lastBend) (Aw := 64) (Bw := 320) (Nat.le_refl 700) a_1_0 a_1_1 a_1_2 a_1_3 a_2_2 a_2_3 a_3_0 a_3_1 a_0_4 a_1_4 a_1_5 a_1_6 a_1_7 a_1_8 a_1_9 a_1_10 a_1_11 a_2_4 a_2_5 a_2_6 a_2_7 a_2_8 a_2_9 a_2_10 a_3_2 a_3_3 (fr_refl _ _ _) (fr_refl _ _ _) (fr_refl _ _ _) (fr_refl _ _ _) (by omega) (by omega) (by omega) (by omega) (fr_refl _ _ _) (fr_refl _ _ _) (fr_refl _ _ _) (fr_refl _ _ _) (by omega) (by omega)) (fun r wv_base wv_at wv_ends wv_fault wv_opened wv_bentMany wv_bentWrong wv_moreWorn wv_allWrong wv_allWorn wv_z wv_shapeRows wv_shapeColumns wv_row wv_column wv_below wv_face wv_worn wv_lastBend wv_names wv_bends wv_high wv_to wv_pileSize ⟨q_0, q_1, q_2, q_3, q_4, q_5, q_6, q_7, q_8, q_9, q_10, q_11, q_12, q_13, q_14, q_15, q_16, q_17, q_18, q_19, q_20⟩ => ?_)
  exact ⟨⟨q_15, q_16, q_13, q_14, q_17, q_18⟩, q_19, q_20⟩
end
section
/-! The geometry kept by them -/
theorem fk_cost_ge {x1 : Int32} {v_now_rows : Int32} {v_now_cols : Int32} {v_now_high : Int32} {v_now_wide : Int32} {v_now_folds : Int32} {v_now_rowOf : List Int32} {v_now_colOf : List Int32} {v_now_below : List Int32} {v_now_face : List Int32} {v_hasImage : Bool} {v_kept_rows : Int32} {v_kept_cols : Int32} {v_kept_high : Int32} {v_kept_wide : Int32} {v_kept_folds : Int32} {v_kept_rowOf : List Int32} {v_kept_colOf : List Int32} {v_kept_below : List Int32} {v_kept_face : List Int32} {m_rowsOf : Int32} {m_columnsOf : Int32} {m_textMany : Int32} {m_base : Int32} {m_at : Int32} {m_ends : Int32} {m_fault : Int32} {m_opened : Int32} {m_bentMany : Int32} {m_bentWrong : Int32} {m_moreWorn : Int32} {m_planned : Int32} {m_allWrong : Int32} {m_allWorn : Int32} {m_z : Int32} {m_limit : List Int32} {m_shapeRows : List Int32} {m_shapeColumns : List Int32} {m_row : List Int32} {m_column : List Int32} {m_below : List Int32} {m_face : List Int32} {m_worn : List Int32} {m_lastBend : List Int32} {m_tape : List Int32} {m_text : List Int32} {m_names : List Int32} {m_bends : List Int32} {m_high : List Int32} {m_to : List Int32} {m_pileSize : List Int32} {m_planLine : List Int32} {m_planWay : List Int32} {m_keptMany : Int32} {m_done : Int32} {m_changeWas : List Int32} {m_changeIs : List Int32} {m_isKept : Bool} {m_imageRows : Int32} {m_imageColumns : Int32} {m_tapeMany : Int32} {m_folded : Int32} {m_imageFolded : Int32} {r9 : Int32} {q_base : Int32} {q_at : Int32} {q_ends : Int32} {q_fault : Int32} {q_opened : Int32} {q_bentMany : Int32} {q_bentWrong : Int32} {q_moreWorn : Int32} {q_allWrong : Int32} {q_allWorn : Int32} {q_z : Int32} {q_shapeRows : List Int32} {q_shapeColumns : List Int32} {q_row : List Int32} {q_column : List Int32} {q_below : List Int32} {q_face : List Int32} {q_worn : List Int32} {q_lastBend : List Int32} {q_names : List Int32} {q_bends : List Int32} {q_high : List Int32} {q_to : List Int32} {q_pileSize : List Int32} (g9_0 : gm_ch m_keptMany m_done m_limit m_changeWas m_changeIs) (g9_1 : gm_sh m_rowsOf m_columnsOf m_isKept m_imageRows m_imageColumns m_shapeRows m_shapeColumns m_row m_column m_below m_face m_worn m_lastBend) (g9_2 : gm_tx m_tapeMany m_textMany m_tape m_text m_names m_bends m_high m_to m_pileSize) (g9_3 : gm_pl m_planned m_planLine m_planWay) (hr_0 : rl_ge v_now_rows v_now_cols v_now_high v_now_wide v_now_folds v_now_rowOf v_now_colOf v_now_below v_now_face v_hasImage v_kept_rows v_kept_cols v_kept_high v_kept_wide v_kept_folds v_kept_rowOf v_kept_colOf v_kept_below v_kept_face m_rowsOf m_columnsOf m_folded m_isKept m_imageRows m_imageColumns m_imageFolded m_shapeRows m_shapeColumns m_row m_column m_below m_face) (e9 : fX9_cost 700 x1 m_rowsOf m_columnsOf m_textMany m_base m_at m_ends m_fault m_opened m_bentMany m_bentWrong m_moreWorn m_planned m_allWrong m_allWorn m_z m_limit m_shapeRows m_shapeColumns m_row m_column m_below m_face m_worn m_lastBend m_tape m_text m_names m_bends m_high m_to m_pileSize m_planLine m_planWay = some (r9, q_base, q_at, q_ends, q_fault, q_opened, q_bentMany, q_bentWrong, q_moreWorn, q_allWrong, q_allWorn, q_z, q_shapeRows, q_shapeColumns, q_row, q_column, q_below, q_face, q_worn, q_lastBend, q_names, q_bends, q_high, q_to, q_pileSize)) : rl_ge v_now_rows v_now_cols v_now_high v_now_wide v_now_folds v_now_rowOf v_now_colOf v_now_below v_now_face v_hasImage v_kept_rows v_kept_cols v_kept_high v_kept_wide v_kept_folds v_kept_rowOf v_kept_colOf v_kept_below v_kept_face m_rowsOf m_columnsOf m_folded m_isKept m_imageRows m_imageColumns m_imageFolded q_shapeRows q_shapeColumns q_row q_column q_below q_face := by
  have f9 := (wp_get (sg9_cost g9_0 g9_1 g9_2 g9_3) e9).1
  obtain ⟨z0, z1, z2, z3, z4, z5, z6, z7, z8, z9, -, -, -, z13⟩ := id g9_1
  obtain ⟨a1, a2, a3, a4, a5, a6⟩ := hr_0
  subst a1 a2
  have m32 := (i_fl z0 z1 z2 z3).2.2
  exact ⟨rfl, rfl, a3, a4, lg_6 (Or.inl rfl) z4 z5 z6 z7 z8 z9 m32 f9 a5, fun hk => by
    obtain ⟨b1, b2, b3, b4⟩ := a6 hk
    subst b1 b2
    have hk2 : ¬ (m_isKept = false) := by rw [a4, hk]; decide
    obtain ⟨c0, c1, c2, c3, -⟩ := z13 hk2
    exact ⟨rfl, rfl, b3, lg_6 (Or.inr rfl) z4 z5 z6 z7 z8 z9 (i_fl c0 c1 c2 c3).2.2 f9 b4⟩⟩
theorem fk_lies_ge {x1 : Int32} {x2 : Int32} {v_now_rows : Int32} {v_now_cols : Int32} {v_now_high : Int32} {v_now_wide : Int32} {v_now_folds : Int32} {v_now_rowOf : List Int32} {v_now_colOf : List Int32} {v_now_below : List Int32} {v_now_face : List Int32} {v_hasImage : Bool} {v_kept_rows : Int32} {v_kept_cols : Int32} {v_kept_high : Int32} {v_kept_wide : Int32} {v_kept_folds : Int32} {v_kept_rowOf : List Int32} {v_kept_colOf : List Int32} {v_kept_below : List Int32} {v_kept_face : List Int32} {m_rowsOf : Int32} {m_columnsOf : Int32} {m_textMany : Int32} {m_base : Int32} {m_at : Int32} {m_ends : Int32} {m_fault : Int32} {m_opened : Int32} {m_bentMany : Int32} {m_bentWrong : Int32} {m_moreWorn : Int32} {m_planned : Int32} {m_allWrong : Int32} {m_allWorn : Int32} {m_z : Int32} {m_limit : List Int32} {m_shapeRows : List Int32} {m_shapeColumns : List Int32} {m_row : List Int32} {m_column : List Int32} {m_below : List Int32} {m_face : List Int32} {m_worn : List Int32} {m_lastBend : List Int32} {m_tape : List Int32} {m_text : List Int32} {m_names : List Int32} {m_bends : List Int32} {m_high : List Int32} {m_to : List Int32} {m_pileSize : List Int32} {m_planLine : List Int32} {m_planWay : List Int32} {m_keptMany : Int32} {m_done : Int32} {m_changeWas : List Int32} {m_changeIs : List Int32} {m_isKept : Bool} {m_imageRows : Int32} {m_imageColumns : Int32} {m_tapeMany : Int32} {m_folded : Int32} {m_imageFolded : Int32} {r9 : Int32} {q_base : Int32} {q_at : Int32} {q_ends : Int32} {q_fault : Int32} {q_opened : Int32} {q_bentMany : Int32} {q_bentWrong : Int32} {q_moreWorn : Int32} {q_allWrong : Int32} {q_allWorn : Int32} {q_z : Int32} {q_shapeRows : List Int32} {q_shapeColumns : List Int32} {q_row : List Int32} {q_column : List Int32} {q_below : List Int32} {q_face : List Int32} {q_worn : List Int32} {q_lastBend : List Int32} {q_names : List Int32} {q_bends : List Int32} {q_high : List Int32} {q_to : List Int32} {q_pileSize : List Int32} (g9_0 : gm_ch m_keptMany m_done m_limit m_changeWas m_changeIs) (g9_1 : gm_sh m_rowsOf m_columnsOf m_isKept m_imageRows m_imageColumns m_shapeRows m_shapeColumns m_row m_column m_below m_face m_worn m_lastBend) (g9_2 : gm_tx m_tapeMany m_textMany m_tape m_text m_names m_bends m_high m_to m_pileSize) (g9_3 : gm_pl m_planned m_planLine m_planWay) (hr_0 : rl_ge v_now_rows v_now_cols v_now_high v_now_wide v_now_folds v_now_rowOf v_now_colOf v_now_below v_now_face v_hasImage v_kept_rows v_kept_cols v_kept_high v_kept_wide v_kept_folds v_kept_rowOf v_kept_colOf v_kept_below v_kept_face m_rowsOf m_columnsOf m_folded m_isKept m_imageRows m_imageColumns m_imageFolded m_shapeRows m_shapeColumns m_row m_column m_below m_face) (e9 : fX9_lies 700 x1 x2 m_rowsOf m_columnsOf m_textMany m_base m_at m_ends m_fault m_opened m_bentMany m_bentWrong m_moreWorn m_planned m_allWrong m_allWorn m_z m_limit m_shapeRows m_shapeColumns m_row m_column m_below m_face m_worn m_lastBend m_tape m_text m_names m_bends m_high m_to m_pileSize m_planLine m_planWay = some (r9, q_base, q_at, q_ends, q_fault, q_opened, q_bentMany, q_bentWrong, q_moreWorn, q_allWrong, q_allWorn, q_z, q_shapeRows, q_shapeColumns, q_row, q_column, q_below, q_face, q_worn, q_lastBend, q_names, q_bends, q_high, q_to, q_pileSize)) : rl_ge v_now_rows v_now_cols v_now_high v_now_wide v_now_folds v_now_rowOf v_now_colOf v_now_below v_now_face v_hasImage v_kept_rows v_kept_cols v_kept_high v_kept_wide v_kept_folds v_kept_rowOf v_kept_colOf v_kept_below v_kept_face m_rowsOf m_columnsOf m_folded m_isKept m_imageRows m_imageColumns m_imageFolded q_shapeRows q_shapeColumns q_row q_column q_below q_face := by
  have f9 := (wp_get (sg9_lies g9_0 g9_1 g9_2 g9_3) e9).1
  obtain ⟨z0, z1, z2, z3, z4, z5, z6, z7, z8, z9, -, -, -, z13⟩ := id g9_1
  obtain ⟨a1, a2, a3, a4, a5, a6⟩ := hr_0
  subst a1 a2
  have m32 := (i_fl z0 z1 z2 z3).2.2
  exact ⟨rfl, rfl, a3, a4, lg_6 (Or.inl rfl) z4 z5 z6 z7 z8 z9 m32 f9 a5, fun hk => by
    obtain ⟨b1, b2, b3, b4⟩ := a6 hk
    subst b1 b2
    have hk2 : ¬ (m_isKept = false) := by rw [a4, hk]; decide
    obtain ⟨c0, c1, c2, c3, -⟩ := z13 hk2
    exact ⟨rfl, rfl, b3, lg_6 (Or.inr rfl) z4 z5 z6 z7 z8 z9 (i_fl c0 c1 c2 c3).2.2 f9 b4⟩⟩
theorem fk_top_ge {x1 : Int32} {x2 : Int32} {v_now_rows : Int32} {v_now_cols : Int32} {v_now_high : Int32} {v_now_wide : Int32} {v_now_folds : Int32} {v_now_rowOf : List Int32} {v_now_colOf : List Int32} {v_now_below : List Int32} {v_now_face : List Int32} {v_hasImage : Bool} {v_kept_rows : Int32} {v_kept_cols : Int32} {v_kept_high : Int32} {v_kept_wide : Int32} {v_kept_folds : Int32} {v_kept_rowOf : List Int32} {v_kept_colOf : List Int32} {v_kept_below : List Int32} {v_kept_face : List Int32} {m_rowsOf : Int32} {m_columnsOf : Int32} {m_textMany : Int32} {m_base : Int32} {m_at : Int32} {m_ends : Int32} {m_fault : Int32} {m_opened : Int32} {m_bentMany : Int32} {m_bentWrong : Int32} {m_moreWorn : Int32} {m_planned : Int32} {m_allWrong : Int32} {m_allWorn : Int32} {m_z : Int32} {m_limit : List Int32} {m_shapeRows : List Int32} {m_shapeColumns : List Int32} {m_row : List Int32} {m_column : List Int32} {m_below : List Int32} {m_face : List Int32} {m_worn : List Int32} {m_lastBend : List Int32} {m_tape : List Int32} {m_text : List Int32} {m_names : List Int32} {m_bends : List Int32} {m_high : List Int32} {m_to : List Int32} {m_pileSize : List Int32} {m_planLine : List Int32} {m_planWay : List Int32} {m_keptMany : Int32} {m_done : Int32} {m_changeWas : List Int32} {m_changeIs : List Int32} {m_isKept : Bool} {m_imageRows : Int32} {m_imageColumns : Int32} {m_tapeMany : Int32} {m_folded : Int32} {m_imageFolded : Int32} {r9 : Int32} {q_base : Int32} {q_at : Int32} {q_ends : Int32} {q_fault : Int32} {q_opened : Int32} {q_bentMany : Int32} {q_bentWrong : Int32} {q_moreWorn : Int32} {q_allWrong : Int32} {q_allWorn : Int32} {q_z : Int32} {q_shapeRows : List Int32} {q_shapeColumns : List Int32} {q_row : List Int32} {q_column : List Int32} {q_below : List Int32} {q_face : List Int32} {q_worn : List Int32} {q_lastBend : List Int32} {q_names : List Int32} {q_bends : List Int32} {q_high : List Int32} {q_to : List Int32} {q_pileSize : List Int32} (g9_0 : gm_ch m_keptMany m_done m_limit m_changeWas m_changeIs) (g9_1 : gm_sh m_rowsOf m_columnsOf m_isKept m_imageRows m_imageColumns m_shapeRows m_shapeColumns m_row m_column m_below m_face m_worn m_lastBend) (g9_2 : gm_tx m_tapeMany m_textMany m_tape m_text m_names m_bends m_high m_to m_pileSize) (g9_3 : gm_pl m_planned m_planLine m_planWay) (hr_0 : rl_ge v_now_rows v_now_cols v_now_high v_now_wide v_now_folds v_now_rowOf v_now_colOf v_now_below v_now_face v_hasImage v_kept_rows v_kept_cols v_kept_high v_kept_wide v_kept_folds v_kept_rowOf v_kept_colOf v_kept_below v_kept_face m_rowsOf m_columnsOf m_folded m_isKept m_imageRows m_imageColumns m_imageFolded m_shapeRows m_shapeColumns m_row m_column m_below m_face) (e9 : fX9_top 700 x1 x2 m_rowsOf m_columnsOf m_textMany m_base m_at m_ends m_fault m_opened m_bentMany m_bentWrong m_moreWorn m_planned m_allWrong m_allWorn m_z m_limit m_shapeRows m_shapeColumns m_row m_column m_below m_face m_worn m_lastBend m_tape m_text m_names m_bends m_high m_to m_pileSize m_planLine m_planWay = some (r9, q_base, q_at, q_ends, q_fault, q_opened, q_bentMany, q_bentWrong, q_moreWorn, q_allWrong, q_allWorn, q_z, q_shapeRows, q_shapeColumns, q_row, q_column, q_below, q_face, q_worn, q_lastBend, q_names, q_bends, q_high, q_to, q_pileSize)) : rl_ge v_now_rows v_now_cols v_now_high v_now_wide v_now_folds v_now_rowOf v_now_colOf v_now_below v_now_face v_hasImage v_kept_rows v_kept_cols v_kept_high v_kept_wide v_kept_folds v_kept_rowOf v_kept_colOf v_kept_below v_kept_face m_rowsOf m_columnsOf m_folded m_isKept m_imageRows m_imageColumns m_imageFolded q_shapeRows q_shapeColumns q_row q_column q_below q_face := by
  have f9 := (wp_get (sg9_top g9_0 g9_1 g9_2 g9_3) e9).1
  obtain ⟨z0, z1, z2, z3, z4, z5, z6, z7, z8, z9, -, -, -, z13⟩ := id g9_1
  obtain ⟨a1, a2, a3, a4, a5, a6⟩ := hr_0
  subst a1 a2
  have m32 := (i_fl z0 z1 z2 z3).2.2
  exact ⟨rfl, rfl, a3, a4, lg_6 (Or.inl rfl) z4 z5 z6 z7 z8 z9 m32 f9 a5, fun hk => by
    obtain ⟨b1, b2, b3, b4⟩ := a6 hk
    subst b1 b2
    have hk2 : ¬ (m_isKept = false) := by rw [a4, hk]; decide
    obtain ⟨c0, c1, c2, c3, -⟩ := z13 hk2
    exact ⟨rfl, rfl, b3, lg_6 (Or.inr rfl) z4 z5 z6 z7 z8 z9 (i_fl c0 c1 c2 c3).2.2 f9 b4⟩⟩
theorem fk_beside_ge {x1 : Int32} {x2 : Int32} {v_now_rows : Int32} {v_now_cols : Int32} {v_now_high : Int32} {v_now_wide : Int32} {v_now_folds : Int32} {v_now_rowOf : List Int32} {v_now_colOf : List Int32} {v_now_below : List Int32} {v_now_face : List Int32} {v_hasImage : Bool} {v_kept_rows : Int32} {v_kept_cols : Int32} {v_kept_high : Int32} {v_kept_wide : Int32} {v_kept_folds : Int32} {v_kept_rowOf : List Int32} {v_kept_colOf : List Int32} {v_kept_below : List Int32} {v_kept_face : List Int32} {m_rowsOf : Int32} {m_columnsOf : Int32} {m_textMany : Int32} {m_base : Int32} {m_at : Int32} {m_ends : Int32} {m_fault : Int32} {m_opened : Int32} {m_bentMany : Int32} {m_bentWrong : Int32} {m_moreWorn : Int32} {m_planned : Int32} {m_allWrong : Int32} {m_allWorn : Int32} {m_z : Int32} {m_limit : List Int32} {m_shapeRows : List Int32} {m_shapeColumns : List Int32} {m_row : List Int32} {m_column : List Int32} {m_below : List Int32} {m_face : List Int32} {m_worn : List Int32} {m_lastBend : List Int32} {m_tape : List Int32} {m_text : List Int32} {m_names : List Int32} {m_bends : List Int32} {m_high : List Int32} {m_to : List Int32} {m_pileSize : List Int32} {m_planLine : List Int32} {m_planWay : List Int32} {m_keptMany : Int32} {m_done : Int32} {m_changeWas : List Int32} {m_changeIs : List Int32} {m_isKept : Bool} {m_imageRows : Int32} {m_imageColumns : Int32} {m_tapeMany : Int32} {m_folded : Int32} {m_imageFolded : Int32} {r9 : Int32} {q_base : Int32} {q_at : Int32} {q_ends : Int32} {q_fault : Int32} {q_opened : Int32} {q_bentMany : Int32} {q_bentWrong : Int32} {q_moreWorn : Int32} {q_allWrong : Int32} {q_allWorn : Int32} {q_z : Int32} {q_shapeRows : List Int32} {q_shapeColumns : List Int32} {q_row : List Int32} {q_column : List Int32} {q_below : List Int32} {q_face : List Int32} {q_worn : List Int32} {q_lastBend : List Int32} {q_names : List Int32} {q_bends : List Int32} {q_high : List Int32} {q_to : List Int32} {q_pileSize : List Int32} (g9_0 : gm_ch m_keptMany m_done m_limit m_changeWas m_changeIs) (g9_1 : gm_sh m_rowsOf m_columnsOf m_isKept m_imageRows m_imageColumns m_shapeRows m_shapeColumns m_row m_column m_below m_face m_worn m_lastBend) (g9_2 : gm_tx m_tapeMany m_textMany m_tape m_text m_names m_bends m_high m_to m_pileSize) (g9_3 : gm_pl m_planned m_planLine m_planWay) (hr_0 : rl_ge v_now_rows v_now_cols v_now_high v_now_wide v_now_folds v_now_rowOf v_now_colOf v_now_below v_now_face v_hasImage v_kept_rows v_kept_cols v_kept_high v_kept_wide v_kept_folds v_kept_rowOf v_kept_colOf v_kept_below v_kept_face m_rowsOf m_columnsOf m_folded m_isKept m_imageRows m_imageColumns m_imageFolded m_shapeRows m_shapeColumns m_row m_column m_below m_face) (e9 : fX9_beside 700 x1 x2 m_rowsOf m_columnsOf m_textMany m_base m_at m_ends m_fault m_opened m_bentMany m_bentWrong m_moreWorn m_planned m_allWrong m_allWorn m_z m_limit m_shapeRows m_shapeColumns m_row m_column m_below m_face m_worn m_lastBend m_tape m_text m_names m_bends m_high m_to m_pileSize m_planLine m_planWay = some (r9, q_base, q_at, q_ends, q_fault, q_opened, q_bentMany, q_bentWrong, q_moreWorn, q_allWrong, q_allWorn, q_z, q_shapeRows, q_shapeColumns, q_row, q_column, q_below, q_face, q_worn, q_lastBend, q_names, q_bends, q_high, q_to, q_pileSize)) : rl_ge v_now_rows v_now_cols v_now_high v_now_wide v_now_folds v_now_rowOf v_now_colOf v_now_below v_now_face v_hasImage v_kept_rows v_kept_cols v_kept_high v_kept_wide v_kept_folds v_kept_rowOf v_kept_colOf v_kept_below v_kept_face m_rowsOf m_columnsOf m_folded m_isKept m_imageRows m_imageColumns m_imageFolded q_shapeRows q_shapeColumns q_row q_column q_below q_face := by
  have f9 := (wp_get (sg9_beside g9_0 g9_1 g9_2 g9_3) e9).1
  obtain ⟨z0, z1, z2, z3, z4, z5, z6, z7, z8, z9, -, -, -, z13⟩ := id g9_1
  obtain ⟨a1, a2, a3, a4, a5, a6⟩ := hr_0
  subst a1 a2
  have m32 := (i_fl z0 z1 z2 z3).2.2
  exact ⟨rfl, rfl, a3, a4, lg_6 (Or.inl rfl) z4 z5 z6 z7 z8 z9 m32 f9 a5, fun hk => by
    obtain ⟨b1, b2, b3, b4⟩ := a6 hk
    subst b1 b2
    have hk2 : ¬ (m_isKept = false) := by rw [a4, hk]; decide
    obtain ⟨c0, c1, c2, c3, -⟩ := z13 hk2
    exact ⟨rfl, rfl, b3, lg_6 (Or.inr rfl) z4 z5 z6 z7 z8 z9 (i_fl c0 c1 c2 c3).2.2 f9 b4⟩⟩
theorem fk_wished_ge {x1 : Int32} {x2 : Int32} {v_now_rows : Int32} {v_now_cols : Int32} {v_now_high : Int32} {v_now_wide : Int32} {v_now_folds : Int32} {v_now_rowOf : List Int32} {v_now_colOf : List Int32} {v_now_below : List Int32} {v_now_face : List Int32} {v_hasImage : Bool} {v_kept_rows : Int32} {v_kept_cols : Int32} {v_kept_high : Int32} {v_kept_wide : Int32} {v_kept_folds : Int32} {v_kept_rowOf : List Int32} {v_kept_colOf : List Int32} {v_kept_below : List Int32} {v_kept_face : List Int32} {m_rowsOf : Int32} {m_columnsOf : Int32} {m_textMany : Int32} {m_base : Int32} {m_at : Int32} {m_ends : Int32} {m_fault : Int32} {m_opened : Int32} {m_bentMany : Int32} {m_bentWrong : Int32} {m_moreWorn : Int32} {m_wishedField : Int32} {m_isFound : Bool} {m_bestWrong : Int32} {m_bestWorn : Int32} {m_bestMany : Int32} {m_limit : List Int32} {m_shapeRows : List Int32} {m_shapeColumns : List Int32} {m_row : List Int32} {m_column : List Int32} {m_below : List Int32} {m_face : List Int32} {m_worn : List Int32} {m_lastBend : List Int32} {m_tape : List Int32} {m_text : List Int32} {m_names : List Int32} {m_bends : List Int32} {m_high : List Int32} {m_to : List Int32} {m_pileSize : List Int32} {m_way1 : List Int32} {m_bestWay : List Int32} {m_keptMany : Int32} {m_done : Int32} {m_changeWas : List Int32} {m_changeIs : List Int32} {m_isKept : Bool} {m_imageRows : Int32} {m_imageColumns : Int32} {m_tapeMany : Int32} {m_folded : Int32} {m_imageFolded : Int32} {r9 : Int32} {q_base : Int32} {q_at : Int32} {q_ends : Int32} {q_fault : Int32} {q_opened : Int32} {q_bentMany : Int32} {q_bentWrong : Int32} {q_moreWorn : Int32} {q_wishedField : Int32} {q_isFound : Bool} {q_bestWrong : Int32} {q_bestWorn : Int32} {q_bestMany : Int32} {q_shapeRows : List Int32} {q_shapeColumns : List Int32} {q_row : List Int32} {q_column : List Int32} {q_below : List Int32} {q_face : List Int32} {q_worn : List Int32} {q_lastBend : List Int32} {q_names : List Int32} {q_bends : List Int32} {q_high : List Int32} {q_to : List Int32} {q_pileSize : List Int32} {q_way1 : List Int32} {q_bestWay : List Int32} (g9_0 : gm_ch m_keptMany m_done m_limit m_changeWas m_changeIs) (g9_1 : gm_sh m_rowsOf m_columnsOf m_isKept m_imageRows m_imageColumns m_shapeRows m_shapeColumns m_row m_column m_below m_face m_worn m_lastBend) (g9_2 : gm_tx m_tapeMany m_textMany m_tape m_text m_names m_bends m_high m_to m_pileSize) (g9_3 : gm_se m_bestMany m_way1 m_bestWay) (hr_0 : rl_ge v_now_rows v_now_cols v_now_high v_now_wide v_now_folds v_now_rowOf v_now_colOf v_now_below v_now_face v_hasImage v_kept_rows v_kept_cols v_kept_high v_kept_wide v_kept_folds v_kept_rowOf v_kept_colOf v_kept_below v_kept_face m_rowsOf m_columnsOf m_folded m_isKept m_imageRows m_imageColumns m_imageFolded m_shapeRows m_shapeColumns m_row m_column m_below m_face) (e9 : fX9_wished 700 x1 x2 m_rowsOf m_columnsOf m_textMany m_base m_at m_ends m_fault m_opened m_bentMany m_bentWrong m_moreWorn m_wishedField m_isFound m_bestWrong m_bestWorn m_bestMany m_limit m_shapeRows m_shapeColumns m_row m_column m_below m_face m_worn m_lastBend m_tape m_text m_names m_bends m_high m_to m_pileSize m_way1 m_bestWay = some (r9, q_base, q_at, q_ends, q_fault, q_opened, q_bentMany, q_bentWrong, q_moreWorn, q_wishedField, q_isFound, q_bestWrong, q_bestWorn, q_bestMany, q_shapeRows, q_shapeColumns, q_row, q_column, q_below, q_face, q_worn, q_lastBend, q_names, q_bends, q_high, q_to, q_pileSize, q_way1, q_bestWay)) : rl_ge v_now_rows v_now_cols v_now_high v_now_wide v_now_folds v_now_rowOf v_now_colOf v_now_below v_now_face v_hasImage v_kept_rows v_kept_cols v_kept_high v_kept_wide v_kept_folds v_kept_rowOf v_kept_colOf v_kept_below v_kept_face m_rowsOf m_columnsOf m_folded m_isKept m_imageRows m_imageColumns m_imageFolded q_shapeRows q_shapeColumns q_row q_column q_below q_face := by
  have f9 := (wp_get (sg9_wished g9_0 g9_1 g9_2 g9_3) e9).1
  obtain ⟨z0, z1, z2, z3, z4, z5, z6, z7, z8, z9, -, -, -, z13⟩ := id g9_1
  obtain ⟨a1, a2, a3, a4, a5, a6⟩ := hr_0
  subst a1 a2
  have m32 := (i_fl z0 z1 z2 z3).2.2
  exact ⟨rfl, rfl, a3, a4, lg_6 (Or.inl rfl) z4 z5 z6 z7 z8 z9 m32 f9 a5, fun hk => by
    obtain ⟨b1, b2, b3, b4⟩ := a6 hk
    subst b1 b2
    have hk2 : ¬ (m_isKept = false) := by rw [a4, hk]; decide
    obtain ⟨c0, c1, c2, c3, -⟩ := z13 hk2
    exact ⟨rfl, rfl, b3, lg_6 (Or.inr rfl) z4 z5 z6 z7 z8 z9 (i_fl c0 c1 c2 c3).2.2 f9 b4⟩⟩
theorem fk_right_ge {x1 : Int32} {v_now_rows : Int32} {v_now_cols : Int32} {v_now_high : Int32} {v_now_wide : Int32} {v_now_folds : Int32} {v_now_rowOf : List Int32} {v_now_colOf : List Int32} {v_now_below : List Int32} {v_now_face : List Int32} {v_hasImage : Bool} {v_kept_rows : Int32} {v_kept_cols : Int32} {v_kept_high : Int32} {v_kept_wide : Int32} {v_kept_folds : Int32} {v_kept_rowOf : List Int32} {v_kept_colOf : List Int32} {v_kept_below : List Int32} {v_kept_face : List Int32} {m_rowsOf : Int32} {m_columnsOf : Int32} {m_textMany : Int32} {m_base : Int32} {m_at : Int32} {m_ends : Int32} {m_fault : Int32} {m_opened : Int32} {m_bentMany : Int32} {m_bentWrong : Int32} {m_moreWorn : Int32} {m_wishedField : Int32} {m_isFound : Bool} {m_bestWrong : Int32} {m_bestWorn : Int32} {m_bestMany : Int32} {m_limit : List Int32} {m_shapeRows : List Int32} {m_shapeColumns : List Int32} {m_row : List Int32} {m_column : List Int32} {m_below : List Int32} {m_face : List Int32} {m_worn : List Int32} {m_lastBend : List Int32} {m_tape : List Int32} {m_text : List Int32} {m_names : List Int32} {m_bends : List Int32} {m_high : List Int32} {m_to : List Int32} {m_pileSize : List Int32} {m_way1 : List Int32} {m_bestWay : List Int32} {m_keptMany : Int32} {m_done : Int32} {m_changeWas : List Int32} {m_changeIs : List Int32} {m_isKept : Bool} {m_imageRows : Int32} {m_imageColumns : Int32} {m_tapeMany : Int32} {m_folded : Int32} {m_imageFolded : Int32} {r9 : Int32} {q_base : Int32} {q_at : Int32} {q_ends : Int32} {q_fault : Int32} {q_opened : Int32} {q_bentMany : Int32} {q_bentWrong : Int32} {q_moreWorn : Int32} {q_wishedField : Int32} {q_isFound : Bool} {q_bestWrong : Int32} {q_bestWorn : Int32} {q_bestMany : Int32} {q_shapeRows : List Int32} {q_shapeColumns : List Int32} {q_row : List Int32} {q_column : List Int32} {q_below : List Int32} {q_face : List Int32} {q_worn : List Int32} {q_lastBend : List Int32} {q_names : List Int32} {q_bends : List Int32} {q_high : List Int32} {q_to : List Int32} {q_pileSize : List Int32} {q_way1 : List Int32} {q_bestWay : List Int32} (g9_0 : gm_ch m_keptMany m_done m_limit m_changeWas m_changeIs) (g9_1 : gm_sh m_rowsOf m_columnsOf m_isKept m_imageRows m_imageColumns m_shapeRows m_shapeColumns m_row m_column m_below m_face m_worn m_lastBend) (g9_2 : gm_tx m_tapeMany m_textMany m_tape m_text m_names m_bends m_high m_to m_pileSize) (g9_3 : gm_se m_bestMany m_way1 m_bestWay) (hr_0 : rl_ge v_now_rows v_now_cols v_now_high v_now_wide v_now_folds v_now_rowOf v_now_colOf v_now_below v_now_face v_hasImage v_kept_rows v_kept_cols v_kept_high v_kept_wide v_kept_folds v_kept_rowOf v_kept_colOf v_kept_below v_kept_face m_rowsOf m_columnsOf m_folded m_isKept m_imageRows m_imageColumns m_imageFolded m_shapeRows m_shapeColumns m_row m_column m_below m_face) (e9 : fX9_right 700 x1 m_rowsOf m_columnsOf m_textMany m_base m_at m_ends m_fault m_opened m_bentMany m_bentWrong m_moreWorn m_wishedField m_isFound m_bestWrong m_bestWorn m_bestMany m_limit m_shapeRows m_shapeColumns m_row m_column m_below m_face m_worn m_lastBend m_tape m_text m_names m_bends m_high m_to m_pileSize m_way1 m_bestWay = some (r9, q_base, q_at, q_ends, q_fault, q_opened, q_bentMany, q_bentWrong, q_moreWorn, q_wishedField, q_isFound, q_bestWrong, q_bestWorn, q_bestMany, q_shapeRows, q_shapeColumns, q_row, q_column, q_below, q_face, q_worn, q_lastBend, q_names, q_bends, q_high, q_to, q_pileSize, q_way1, q_bestWay)) : rl_ge v_now_rows v_now_cols v_now_high v_now_wide v_now_folds v_now_rowOf v_now_colOf v_now_below v_now_face v_hasImage v_kept_rows v_kept_cols v_kept_high v_kept_wide v_kept_folds v_kept_rowOf v_kept_colOf v_kept_below v_kept_face m_rowsOf m_columnsOf m_folded m_isKept m_imageRows m_imageColumns m_imageFolded q_shapeRows q_shapeColumns q_row q_column q_below q_face := by
  have f9 := (wp_get (sg9_right g9_0 g9_1 g9_2 g9_3) e9).1
  obtain ⟨z0, z1, z2, z3, z4, z5, z6, z7, z8, z9, -, -, -, z13⟩ := id g9_1
  obtain ⟨a1, a2, a3, a4, a5, a6⟩ := hr_0
  subst a1 a2
  have m32 := (i_fl z0 z1 z2 z3).2.2
  exact ⟨rfl, rfl, a3, a4, lg_6 (Or.inl rfl) z4 z5 z6 z7 z8 z9 m32 f9 a5, fun hk => by
    obtain ⟨b1, b2, b3, b4⟩ := a6 hk
    subst b1 b2
    have hk2 : ¬ (m_isKept = false) := by rw [a4, hk]; decide
    obtain ⟨c0, c1, c2, c3, -⟩ := z13 hk2
    exact ⟨rfl, rfl, b3, lg_6 (Or.inr rfl) z4 z5 z6 z7 z8 z9 (i_fl c0 c1 c2 c3).2.2 f9 b4⟩⟩
theorem fk_wind_ge {x1 : Int32} {x2 : Int32} {x3 : Int32} {v_now_rows : Int32} {v_now_cols : Int32} {v_now_high : Int32} {v_now_wide : Int32} {v_now_folds : Int32} {v_now_rowOf : List Int32} {v_now_colOf : List Int32} {v_now_below : List Int32} {v_now_face : List Int32} {v_hasImage : Bool} {v_kept_rows : Int32} {v_kept_cols : Int32} {v_kept_high : Int32} {v_kept_wide : Int32} {v_kept_folds : Int32} {v_kept_rowOf : List Int32} {v_kept_colOf : List Int32} {v_kept_below : List Int32} {v_kept_face : List Int32} {m_rowsOf : Int32} {m_columnsOf : Int32} {m_textMany : Int32} {m_base : Int32} {m_at : Int32} {m_ends : Int32} {m_fault : Int32} {m_opened : Int32} {m_bentMany : Int32} {m_bentWrong : Int32} {m_moreWorn : Int32} {m_planned : Int32} {m_allWrong : Int32} {m_allWorn : Int32} {m_z : Int32} {m_limit : List Int32} {m_shapeRows : List Int32} {m_shapeColumns : List Int32} {m_row : List Int32} {m_column : List Int32} {m_below : List Int32} {m_face : List Int32} {m_worn : List Int32} {m_lastBend : List Int32} {m_tape : List Int32} {m_text : List Int32} {m_names : List Int32} {m_bends : List Int32} {m_high : List Int32} {m_to : List Int32} {m_pileSize : List Int32} {m_planLine : List Int32} {m_planWay : List Int32} {m_keptMany : Int32} {m_done : Int32} {m_changeWas : List Int32} {m_changeIs : List Int32} {m_isKept : Bool} {m_imageRows : Int32} {m_imageColumns : Int32} {m_tapeMany : Int32} {m_folded : Int32} {m_imageFolded : Int32} {r9 : Int32} {q_base : Int32} {q_at : Int32} {q_ends : Int32} {q_fault : Int32} {q_opened : Int32} {q_bentMany : Int32} {q_bentWrong : Int32} {q_moreWorn : Int32} {q_allWrong : Int32} {q_allWorn : Int32} {q_z : Int32} {q_shapeRows : List Int32} {q_shapeColumns : List Int32} {q_row : List Int32} {q_column : List Int32} {q_below : List Int32} {q_face : List Int32} {q_worn : List Int32} {q_lastBend : List Int32} {q_names : List Int32} {q_bends : List Int32} {q_high : List Int32} {q_to : List Int32} {q_pileSize : List Int32} (g9_0 : gm_ch m_keptMany m_done m_limit m_changeWas m_changeIs) (g9_1 : gm_sh m_rowsOf m_columnsOf m_isKept m_imageRows m_imageColumns m_shapeRows m_shapeColumns m_row m_column m_below m_face m_worn m_lastBend) (g9_2 : gm_tx m_tapeMany m_textMany m_tape m_text m_names m_bends m_high m_to m_pileSize) (g9_3 : gm_pl m_planned m_planLine m_planWay) (hr_0 : rl_ge v_now_rows v_now_cols v_now_high v_now_wide v_now_folds v_now_rowOf v_now_colOf v_now_below v_now_face v_hasImage v_kept_rows v_kept_cols v_kept_high v_kept_wide v_kept_folds v_kept_rowOf v_kept_colOf v_kept_below v_kept_face m_rowsOf m_columnsOf m_folded m_isKept m_imageRows m_imageColumns m_imageFolded m_shapeRows m_shapeColumns m_row m_column m_below m_face) (e9 : fX9_wind 700 x1 x2 x3 m_rowsOf m_columnsOf m_textMany m_base m_at m_ends m_fault m_opened m_bentMany m_bentWrong m_moreWorn m_planned m_allWrong m_allWorn m_z m_limit m_shapeRows m_shapeColumns m_row m_column m_below m_face m_worn m_lastBend m_tape m_text m_names m_bends m_high m_to m_pileSize m_planLine m_planWay = some (r9, q_base, q_at, q_ends, q_fault, q_opened, q_bentMany, q_bentWrong, q_moreWorn, q_allWrong, q_allWorn, q_z, q_shapeRows, q_shapeColumns, q_row, q_column, q_below, q_face, q_worn, q_lastBend, q_names, q_bends, q_high, q_to, q_pileSize)) : rl_ge v_now_rows v_now_cols v_now_high v_now_wide v_now_folds v_now_rowOf v_now_colOf v_now_below v_now_face v_hasImage v_kept_rows v_kept_cols v_kept_high v_kept_wide v_kept_folds v_kept_rowOf v_kept_colOf v_kept_below v_kept_face m_rowsOf m_columnsOf m_folded m_isKept m_imageRows m_imageColumns m_imageFolded q_shapeRows q_shapeColumns q_row q_column q_below q_face := by
  have f9 := (wp_get (sg9_wind g9_0 g9_1 g9_2 g9_3) e9).1
  obtain ⟨z0, z1, z2, z3, z4, z5, z6, z7, z8, z9, -, -, -, z13⟩ := id g9_1
  obtain ⟨a1, a2, a3, a4, a5, a6⟩ := hr_0
  subst a1 a2
  have m32 := (i_fl z0 z1 z2 z3).2.2
  exact ⟨rfl, rfl, a3, a4, lg_6 (Or.inl rfl) z4 z5 z6 z7 z8 z9 m32 f9 a5, fun hk => by
    obtain ⟨b1, b2, b3, b4⟩ := a6 hk
    subst b1 b2
    have hk2 : ¬ (m_isKept = false) := by rw [a4, hk]; decide
    obtain ⟨c0, c1, c2, c3, -⟩ := z13 hk2
    exact ⟨rfl, rfl, b3, lg_6 (Or.inr rfl) z4 z5 z6 z7 z8 z9 (i_fl c0 c1 c2 c3).2.2 f9 b4⟩⟩
end
