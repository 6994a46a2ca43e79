section
/-! The objects' invariants -/
def gi_sh (v_rows : Int32) (v_cols : Int32) (v_high : Int32) (v_wide : Int32) (v_rowOf : List Int32) (v_colOf : List Int32) (v_below : List Int32) (v_face : List Int32) (v_worn : List Int32) (v_last : List Int32) (v_bend : List Int32) (v_tall : List Int32) : Prop := 1 ≤ v_rows.toInt ∧ v_rows.toInt ≤ 4 ∧ 1 ≤ v_cols.toInt ∧ v_cols.toInt ≤ 8 ∧ 1 ≤ v_high.toInt ∧ v_high.toInt ≤ 4 ∧ 1 ≤ v_wide.toInt ∧ v_wide.toInt ≤ 8 ∧ v_rowOf.length = 32 ∧ v_colOf.length = 32 ∧ v_below.length = 32 ∧ v_face.length = 32 ∧ v_worn.length = 64 ∧ v_last.length = 64 ∧ v_bend.length = 64 ∧ v_tall.length = 32 ∧ zn v_rowOf 0 (v_rows.toInt * v_cols.toInt) 0 v_high.toInt ∧ zn v_colOf 0 (v_rows.toInt * v_cols.toInt) 0 v_wide.toInt
def gi_ch (v_done : Int32) (v_size : Int32) (v_before : List Int32) (v_after : List Int32) : Prop := 0 ≤ v_done.toInt ∧ v_done.toInt ≤ 40 ∧ 0 ≤ v_size.toInt ∧ v_size.toInt ≤ 40 ∧ v_before.length = 40 ∧ v_after.length = 40
def gi_la (v_size : Int32) (v_stepCount : Int32) (v_draftCount : Int32) (v_tape : List Int32) (v_steps : List Int32) (v_draft : List Int32) (v_stack : List Int32) : Prop := 0 ≤ v_size.toInt ∧ v_size.toInt ≤ 120 ∧ 0 ≤ v_stepCount.toInt ∧ v_stepCount.toInt ≤ 121 ∧ 0 ≤ v_draftCount.toInt ∧ v_draftCount.toInt ≤ 121 ∧ v_tape.length = 120 ∧ v_steps.length = 121 ∧ v_draft.length = 121 ∧ v_stack.length = 121
def gi_pl (v_size : Int32) (v_lines : List Int32) (v_ways : List Int32) : Prop := 0 ≤ v_size.toInt ∧ v_size.toInt ≤ 12 ∧ v_lines.length = 12 ∧ v_ways.length = 12
def gi_sf (v_size : Int32) (v_items : List Int64) : Prop := 0 ≤ v_size.toInt ∧ v_size.toInt ≤ 60 ∧ v_items.length = 60
def gi_se (v_folds : Int32) (v_path : List Int32) (v_best : List Int32) : Prop := 0 ≤ v_folds.toInt ∧ v_folds.toInt ≤ 3 ∧ v_path.length = 3 ∧ v_best.length = 3
def gi_st (v_at : List Int32) (v_list : List Int32) (v_found : List Int32) : Prop := v_at.length = 7 ∧ v_list.length = 680 ∧ v_found.length = 8 ∧ fnd v_found
def gi_fo (v_size : Int32) (v_kinds : List Int32) (v_trace : List Int32) : Prop := 0 ≤ v_size.toInt ∧ v_size.toInt ≤ 50 ∧ v_kinds.length = 50 ∧ v_trace.length = 24 ∧ zn v_kinds 0 v_size.toInt 0 8
def gm_ch (v_keptMany : Int32) (v_done : Int32) (v_limit : List Int32) (v_changeWas : List Int32) (v_changeIs : List Int32) : Prop := 0 ≤ v_keptMany.toInt ∧ v_keptMany.toInt ≤ 40 ∧ 0 ≤ v_done.toInt ∧ v_done.toInt ≤ 40 ∧ v_limit.length = 1 ∧ v_changeWas.length = 40 ∧ v_changeIs.length = 40 ∧ v_done.toInt ≤ v_keptMany.toInt
def gm_sh (v_rowsOf : Int32) (v_columnsOf : Int32) (v_isKept : Bool) (v_imageRows : Int32) (v_imageColumns : Int32) (v_shapeRows : List Int32) (v_shapeColumns : List Int32) (v_row : List Int32) (v_column : List Int32) (v_below : List Int32) (v_face : List Int32) (v_worn : List Int32) (v_lastBend : List Int32) : Prop := 1 ≤ v_rowsOf.toInt ∧ v_rowsOf.toInt ≤ 4 ∧ 1 ≤ v_columnsOf.toInt ∧ v_columnsOf.toInt ≤ 8 ∧ v_shapeRows.length = 6 ∧ v_shapeColumns.length = 6 ∧ v_row.length = 192 ∧ v_column.length = 192 ∧ v_below.length = 192 ∧ v_face.length = 192 ∧ v_worn.length = 384 ∧ v_lastBend.length = 384 ∧ lv9 v_rowsOf v_columnsOf v_shapeRows v_shapeColumns v_row v_column (0 : Int32) ∧ (¬ (v_isKept = false) → 1 ≤ v_imageRows.toInt ∧ v_imageRows.toInt ≤ 4 ∧ 1 ≤ v_imageColumns.toInt ∧ v_imageColumns.toInt ≤ 8 ∧ lv9 v_imageRows v_imageColumns v_shapeRows v_shapeColumns v_row v_column (5 : Int32))
def gm_tx (v_tapeMany : Int32) (v_textMany : Int32) (v_tape : List Int32) (v_text : List Int32) (v_names : List Int32) (v_bends : List Int32) (v_high : List Int32) (v_to : List Int32) (v_pileSize : List Int32) : Prop := 0 ≤ v_tapeMany.toInt ∧ v_tapeMany.toInt ≤ 120 ∧ -1 ≤ v_textMany.toInt ∧ v_textMany.toInt ≤ 120 ∧ v_tape.length = 120 ∧ v_text.length = 120 ∧ v_names.length = 6 ∧ v_bends.length = 64 ∧ v_high.length = 32 ∧ v_to.length = 32 ∧ v_pileSize.length = 64
def gm_pl (v_planned : Int32) (v_planLine : List Int32) (v_planWay : List Int32) : Prop := 0 ≤ v_planned.toInt ∧ v_planned.toInt ≤ 12 ∧ v_planLine.length = 12 ∧ v_planWay.length = 12
def gm_se (v_bestMany : Int32) (v_way1 : List Int32) (v_bestWay : List Int32) : Prop := 0 ≤ v_bestMany.toInt ∧ v_bestMany.toInt ≤ 3 ∧ v_way1.length = 3 ∧ v_bestWay.length = 3
def gm_or (v_order1 : List Int32) (v_placeIn : List Int32) : Prop := v_order1.length = 7 ∧ v_placeIn.length = 7
def gm_bo (v_bodies : Int32) (v_bodyKind : List Int32) (v_trace : List Int32) : Prop := 0 ≤ v_bodies.toInt ∧ v_bodies.toInt ≤ 50 ∧ v_bodyKind.length = 50 ∧ v_trace.length = 24 ∧ zn v_bodyKind 0 v_bodies.toInt 0 8
def gm_sf (v_shelf : List Int32) (v_many : List Int32) (v_items : List Int64) (v_carried : List Int64) : Prop := v_shelf.length = 6 ∧ v_many.length = 6 ∧ v_items.length = 360 ∧ v_carried.length = 60 ∧ zn v_many 0 6 0 61

theorem st8_act {x1 : Int32} {x2 : Int32} {x3 : Int32} {v_foldings_size : Int32} {v_foldings_ran : Int32} {v_foldings_number : Int32} {v_foldings_kinds : List Int32} {v_foldings_trace : List Int32} (g_0 : gi_fo v_foldings_size v_foldings_kinds v_foldings_trace) : wp (fX8_act 700 x1 x2 x3 v_foldings_size v_foldings_ran v_foldings_number v_foldings_kinds v_foldings_trace) (cu4 (fun (r : Int32) (wv_foldings_ran : Int32) (wv_foldings_number : Int32) (wv_foldings_trace : List Int32) => gi_fo v_foldings_size v_foldings_kinds wv_foldings_trace)) := by
  obtain ⟨a_0, a_1, a_2, a_3, a_4⟩ := id g_0
  unfold fX8_act fX1_perform
  refine wp_bd4 (R := fun _ _ _ t => gi_fo v_foldings_size v_foldings_kinds t) ?_ (fun r w2 w3 w4 q => wp_so4 q)
  refine wp_bd1 (sf_X1_has (Nat.le_refl 700) a_0 a_1) (fun r q => ?_)
  rcases q with ⟨rfl, q0, q1⟩ | ⟨rfl, -⟩
  · refine wp_ifn (by decide) ?_
    refine wp_if (fun _ => wp_so4 g_0) (fun c1 => ?_)
    refine wp_if (fun c2 => ?_) (fun _ => wp_so4 g_0)
    have n4 : (4 : Int32).toInt = 4 := by decide
    have n0 : (0 : Int32).toInt = 0 := by decide
    have d1 : 0 ≤ x2.toInt := by rw [Int32.lt_iff_toInt_lt] at c1; omega
    have d2 : x2.toInt < 4 := by rw [Int32.lt_iff_toInt_lt] at c2; omega
    refine wp_ck (i_inb (by omega) (by omega)) ?_
    refine wp_ck (i_inb (by omega) (by omega)) ?_
    have z := zn_get a_4 q0 q0 q1 (by omega)
    have K : ∃ r c t, fX1_call 700 (fX1_run 700 42) (mm_ig v_foldings_kinds x1) (mm_ig v_foldings_kinds x1) x2 x3 (0 : Int32) (0 : Int32) x1 v_foldings_trace = some (r, c, t) ∧ t.length = 24 := by
      rcases k4 d1 d2 with rfl | rfl | rfl | rfl
      · obtain ⟨r, c, t, e1, -, e3⟩ := ac_0 z.1 z.2 x3 x1 v_foldings_trace a_3
        exact ⟨r, c, t, e1, e3⟩
      · obtain ⟨r, c, t, e1, -, e3⟩ := ac_1 z.1 z.2 x3 x1 v_foldings_trace a_3
        exact ⟨r, c, t, e1, e3⟩
      · obtain ⟨r, c, t, e1, -, e3⟩ := ac_2 z.1 z.2 x3 x1 v_foldings_trace a_3
        exact ⟨r, c, t, e1, e3⟩
      · obtain ⟨r, c, t, e1, -, e3⟩ := ac_3 z.1 z.2 x3 x1 v_foldings_trace a_3
        exact ⟨r, c, t, e1, e3⟩
    obtain ⟨r, c, t, e1, e3⟩ := K
    exact wp_bd3 (R := fun (_ : Int32) (_ : Int32) (t : List Int32) => t.length = 24) ⟨(r, c, t), e1, e3⟩ (fun _ _ _ h => wp_so4 ⟨a_0, a_1, a_2, h, a_4⟩)
  · refine wp_ifp rfl ?_
    exact wp_so4 g_0
set_option maxHeartbeats 4000000 in
set_option maxRecDepth 20000 in
theorem st8_sheet {x1 : Int32} {v_now_rows : Int32} {v_now_cols : Int32} {v_now_high : Int32} {v_now_wide : Int32} {v_now_folds : Int32} {v_now_wrong : Int32} {v_now_more : Int32} {v_now_rowOf : List Int32} {v_now_colOf : List Int32} {v_now_below : List Int32} {v_now_face : List Int32} {v_now_worn : List Int32} {v_now_last : List Int32} {v_now_bend : List Int32} {v_now_tall : List Int32} (g_0 : gi_sh v_now_rows v_now_cols v_now_high v_now_wide v_now_rowOf v_now_colOf v_now_below v_now_face v_now_worn v_now_last v_now_bend v_now_tall) : wp (fX8_sheet 700 x1 v_now_rows v_now_cols v_now_high v_now_wide v_now_folds v_now_wrong v_now_more v_now_rowOf v_now_colOf v_now_below v_now_face v_now_worn v_now_last) (cu14 (fun (r : Int32) (wv_now_rows : Int32) (wv_now_cols : Int32) (wv_now_high : Int32) (wv_now_wide : Int32) (wv_now_folds : Int32) (wv_now_wrong : Int32) (wv_now_more : Int32) (wv_now_rowOf : List Int32) (wv_now_colOf : List Int32) (wv_now_below : List Int32) (wv_now_face : List Int32) (wv_now_worn : List Int32) (wv_now_last : List Int32) => gi_sh wv_now_rows wv_now_cols wv_now_high wv_now_wide wv_now_rowOf wv_now_colOf wv_now_below wv_now_face wv_now_worn wv_now_last v_now_bend v_now_tall)) := by
  obtain ⟨a_0_0, a_0_1, a_0_2, a_0_3, a_0_4, a_0_5, a_0_6, a_0_7, a_0_8, a_0_9, a_0_10, a_0_11, a_0_12, a_0_13, a_0_14, a_0_15, a_0_16, a_0_17⟩ := id g_0
  refine wp_cu14 (sf_X8_sheet (Nat.le_refl 700) a_0_0 a_0_1 a_0_2 a_0_3 a_0_4 a_0_5 a_0_6 a_0_7 a_0_8 a_0_9 a_0_10 a_0_11 a_0_12 a_0_13 a_0_16 a_0_17) (fun r wv_now_rows wv_now_cols wv_now_high wv_now_wide wv_now_folds wv_now_wrong wv_now_more wv_now_rowOf wv_now_colOf wv_now_below wv_now_face wv_now_worn wv_now_last ⟨q_0, q_1, q_2, q_3, q_4, q_5, q_6, q_7, q_8, q_9, q_10, q_11, q_12, q_13, q_14, q_15⟩ => ?_)
  exact ⟨q_0, q_1, q_2, q_3, q_4, q_5, q_6, q_7, q_8, q_9, q_10, q_11, q_12, q_13, a_0_14, a_0_15, q_14, q_15⟩
set_option maxHeartbeats 4000000 in
set_option maxRecDepth 20000 in
theorem st8_limit {x1 : Int32} {v_changes_value : Int32} {v_changes_done : Int32} {v_changes_size : Int32} {v_changes_before : List Int32} {v_changes_after : List Int32} (g_0 : gi_ch v_changes_done v_changes_size v_changes_before v_changes_after) : wp (fX8_limit 700 x1 v_changes_value v_changes_done v_changes_size v_changes_before v_changes_after) (cu6 (fun (r : Int32) (wv_changes_value : Int32) (wv_changes_done : Int32) (wv_changes_size : Int32) (wv_changes_before : List Int32) (wv_changes_after : List Int32) => gi_ch wv_changes_done wv_changes_size wv_changes_before wv_changes_after)) := by
  obtain ⟨a_0_0, a_0_1, a_0_2, a_0_3, a_0_4, a_0_5⟩ := id g_0
  refine wp_cu6 (sf_X8_limit (Nat.le_refl 700) a_0_0 a_0_1 a_0_2 a_0_3 a_0_4 a_0_5) (fun r wv_changes_value wv_changes_done wv_changes_size wv_changes_before wv_changes_after ⟨q_0, q_1, q_2, q_3, q_4, q_5⟩ => ?_)
  exact ⟨q_0, q_1, q_2, q_3, q_4, q_5⟩
set_option maxHeartbeats 4000000 in
set_option maxRecDepth 20000 in
theorem st8_feed {x1 : Int32} {v_wearing_size : Int32} {v_wearing_tape : List Int32} {v_wearing_stepCount : Int32} {v_wearing_draftCount : Int32} {v_wearing_steps : List Int32} {v_wearing_draft : List Int32} {v_wearing_stack : List Int32} (g_0 : gi_la v_wearing_size v_wearing_stepCount v_wearing_draftCount v_wearing_tape v_wearing_steps v_wearing_draft v_wearing_stack) : wp (fX8_feed 700 x1 v_wearing_size v_wearing_tape) (cu3 (fun (r : Int32) (wv_wearing_size : Int32) (wv_wearing_tape : List Int32) => gi_la wv_wearing_size v_wearing_stepCount v_wearing_draftCount wv_wearing_tape v_wearing_steps v_wearing_draft v_wearing_stack)) := by
  obtain ⟨a_0_0, a_0_1, a_0_2, a_0_3, a_0_4, a_0_5, a_0_6, a_0_7, a_0_8, a_0_9⟩ := id g_0
  refine wp_cu3 (sf_X8_feed (Nat.le_refl 700) a_0_0 a_0_1 a_0_6) (fun r wv_wearing_size wv_wearing_tape ⟨q_0, q_1, q_2⟩ => ?_)
  exact ⟨q_0, q_1, a_0_2, a_0_3, a_0_4, a_0_5, q_2, a_0_7, a_0_8, a_0_9⟩
set_option maxHeartbeats 4000000 in
set_option maxRecDepth 20000 in
theorem st8_law {v_wearing_size : Int32} {v_wearing_stepCount : Int32} {v_wearing_draftCount : Int32} {v_wearing_place : Int32} {v_wearing_fault : Int32} {v_wearing_tape : List Int32} {v_wearing_steps : List Int32} {v_wearing_draft : List Int32} {v_wearing_stack : List Int32} (g_0 : gi_la v_wearing_size v_wearing_stepCount v_wearing_draftCount v_wearing_tape v_wearing_steps v_wearing_draft v_wearing_stack) : wp (fX8_law 700 v_wearing_size v_wearing_stepCount v_wearing_draftCount v_wearing_place v_wearing_fault v_wearing_tape v_wearing_steps v_wearing_draft) (cu8 (fun (r : Int32) (wv_wearing_size : Int32) (wv_wearing_stepCount : Int32) (wv_wearing_draftCount : Int32) (wv_wearing_place : Int32) (wv_wearing_fault : Int32) (wv_wearing_steps : List Int32) (wv_wearing_draft : List Int32) => gi_la wv_wearing_size wv_wearing_stepCount wv_wearing_draftCount v_wearing_tape wv_wearing_steps wv_wearing_draft v_wearing_stack)) := by
  obtain ⟨a_0_0, a_0_1, a_0_2, a_0_3, a_0_4, a_0_5, a_0_6, a_0_7, a_0_8, a_0_9⟩ := id g_0
  refine wp_cu8 (sf_X8_law (Nat.le_refl 700) a_0_0 a_0_1 a_0_2 a_0_3 a_0_4 a_0_5 a_0_6 a_0_7 a_0_8) (fun r wv_wearing_size wv_wearing_stepCount wv_wearing_draftCount wv_wearing_place wv_wearing_fault wv_wearing_steps wv_wearing_draft ⟨q_0, q_1, q_2, q_3, q_4, q_5, q_6, q_7⟩ => ?_)
  exact ⟨q_0, q_1, q_2, q_3, q_4, q_5, a_0_6, q_6, q_7, a_0_9⟩
set_option maxHeartbeats 4000000 in
set_option maxRecDepth 20000 in
theorem st8_fold {x1 : Int32} {x2 : Int32} {v_now_rows : Int32} {v_now_cols : Int32} {v_now_high : Int32} {v_now_wide : Int32} {v_now_folds : Int32} {v_now_wrong : Int32} {v_now_more : Int32} {v_now_rowOf : List Int32} {v_now_colOf : List Int32} {v_now_below : List Int32} {v_now_face : List Int32} {v_now_worn : List Int32} {v_now_last : List Int32} {v_now_bend : List Int32} {v_now_tall : List Int32} {v_wearing_stepCount : Int32} {v_wearing_stacked : Int32} {v_wearing_steps : List Int32} {v_wearing_stack : List Int32} {v_changes_value : Int32} {v_wearing_size : Int32} {v_wearing_draftCount : Int32} {v_wearing_tape : List Int32} {v_wearing_draft : List Int32} (g_0 : gi_sh v_now_rows v_now_cols v_now_high v_now_wide v_now_rowOf v_now_colOf v_now_below v_now_face v_now_worn v_now_last v_now_bend v_now_tall) (g_1 : gi_la v_wearing_size v_wearing_stepCount v_wearing_draftCount v_wearing_tape v_wearing_steps v_wearing_draft v_wearing_stack) : wp (fX8_fold 700 x1 x2 v_now_rows v_now_cols v_now_high v_now_wide v_now_folds v_now_wrong v_now_more v_now_rowOf v_now_colOf v_now_below v_now_face v_now_worn v_now_last v_now_bend v_now_tall v_wearing_stepCount v_wearing_stacked v_wearing_steps v_wearing_stack v_changes_value) (cu16 (fun (r : Int32) (wv_now_high : Int32) (wv_now_wide : Int32) (wv_now_folds : Int32) (wv_now_wrong : Int32) (wv_now_more : Int32) (wv_now_rowOf : List Int32) (wv_now_colOf : List Int32) (wv_now_below : List Int32) (wv_now_face : List Int32) (wv_now_worn : List Int32) (wv_now_last : List Int32) (wv_now_bend : List Int32) (wv_now_tall : List Int32) (wv_wearing_stacked : Int32) (wv_wearing_stack : List Int32) => gi_sh v_now_rows v_now_cols wv_now_high wv_now_wide wv_now_rowOf wv_now_colOf wv_now_below wv_now_face wv_now_worn wv_now_last wv_now_bend wv_now_tall ∧ gi_la v_wearing_size v_wearing_stepCount v_wearing_draftCount v_wearing_tape v_wearing_steps v_wearing_draft wv_wearing_stack)) := by
  obtain ⟨a_0_0, a_0_1, a_0_2, a_0_3, a_0_4, a_0_5, a_0_6, a_0_7, a_0_8, a_0_9, a_0_10, a_0_11, a_0_12, a_0_13, a_0_14, a_0_15, a_0_16, a_0_17⟩ := id g_0
  obtain ⟨a_1_0, a_1_1, a_1_2, a_1_3, a_1_4, a_1_5, a_1_6, a_1_7, a_1_8, a_1_9⟩ := id g_1
  refine wp_cu16 (sf_X8_fold (Nat.le_refl 700) a_0_0 a_0_1 a_0_2 a_0_3 a_0_4 a_0_5 a_0_6 a_0_7 a_0_8 a_0_9 a_0_10 a_0_11 a_0_12 a_0_13 a_0_14 a_0_15 a_0_16 a_0_17 a_1_2 a_1_3 a_1_7 a_1_9) (fun r wv_now_high wv_now_wide wv_now_folds wv_now_wrong wv_now_more wv_now_rowOf wv_now_colOf wv_now_below wv_now_face wv_now_worn wv_now_last wv_now_bend wv_now_tall wv_wearing_stacked wv_wearing_stack ⟨q_0, q_1, q_2, q_3, q_4, q_5, q_6, q_7, q_8, q_9, q_10, q_11, q_12, q_13, q_14⟩ => ?_)
  exact ⟨⟨a_0_0, a_0_1, a_0_2, a_0_3, q_0, q_1, q_2, q_3, q_4, q_5, q_6, q_7, q_8, q_9, q_10, q_11, q_12, q_13⟩, ⟨a_1_0, a_1_1, a_1_2, a_1_3, a_1_4, a_1_5, a_1_6, a_1_7, a_1_8, q_14⟩⟩
set_option maxHeartbeats 4000000 in
set_option maxRecDepth 20000 in
theorem st8_flat {v_now_rows : Int32} {v_now_cols : Int32} {v_now_high : Int32} {v_now_wide : Int32} {v_now_rowOf : List Int32} {v_now_colOf : List Int32} {v_now_below : List Int32} {v_now_face : List Int32} {v_now_worn : List Int32} {v_now_last : List Int32} {v_now_bend : List Int32} {v_now_tall : List Int32} (g_0 : gi_sh v_now_rows v_now_cols v_now_high v_now_wide v_now_rowOf v_now_colOf v_now_below v_now_face v_now_worn v_now_last v_now_bend v_now_tall) : wp (fX8_flat 700 v_now_rows v_now_cols v_now_high v_now_wide v_now_rowOf v_now_colOf v_now_below v_now_face) (cu7 (fun (r : Int32) (wv_now_high : Int32) (wv_now_wide : Int32) (wv_now_rowOf : List Int32) (wv_now_colOf : List Int32) (wv_now_below : List Int32) (wv_now_face : List Int32) => gi_sh v_now_rows v_now_cols wv_now_high wv_now_wide wv_now_rowOf wv_now_colOf wv_now_below wv_now_face v_now_worn v_now_last v_now_bend v_now_tall)) := by
  obtain ⟨a_0_0, a_0_1, a_0_2, a_0_3, a_0_4, a_0_5, a_0_6, a_0_7, a_0_8, a_0_9, a_0_10, a_0_11, a_0_12, a_0_13, a_0_14, a_0_15, a_0_16, a_0_17⟩ := id g_0
  refine wp_cu7 (sf_X8_flat (Nat.le_refl 700) a_0_0 a_0_1 a_0_2 a_0_3 a_0_4 a_0_5 a_0_6 a_0_7 a_0_8 a_0_9 a_0_10 a_0_11 a_0_16 a_0_17) (fun r wv_now_high wv_now_wide wv_now_rowOf wv_now_colOf wv_now_below wv_now_face ⟨q_0, q_1, q_2, q_3, q_4, q_5, q_6, q_7, q_8, q_9⟩ => ?_)
  exact ⟨a_0_0, a_0_1, a_0_2, a_0_3, q_0, q_1, q_2, q_3, q_4, q_5, q_6, q_7, a_0_12, a_0_13, a_0_14, a_0_15, q_8, q_9⟩
set_option maxHeartbeats 4000000 in
set_option maxRecDepth 20000 in
theorem st8_crease {x1 : Int32} {x2 : Int32} {v_now_rows : Int32} {v_now_cols : Int32} {v_now_worn : List Int32} {v_now_last : List Int32} {v_changes_value : Int32} {v_now_high : Int32} {v_now_wide : Int32} {v_now_rowOf : List Int32} {v_now_colOf : List Int32} {v_now_below : List Int32} {v_now_face : List Int32} {v_now_bend : List Int32} {v_now_tall : List Int32} (g_0 : gi_sh v_now_rows v_now_cols v_now_high v_now_wide v_now_rowOf v_now_colOf v_now_below v_now_face v_now_worn v_now_last v_now_bend v_now_tall) : wp (fX8_crease 700 x1 x2 v_now_rows v_now_cols v_now_worn v_now_last v_changes_value) (fun (r : Int32) => True) := by
  obtain ⟨a_0_0, a_0_1, a_0_2, a_0_3, a_0_4, a_0_5, a_0_6, a_0_7, a_0_8, a_0_9, a_0_10, a_0_11, a_0_12, a_0_13, a_0_14, a_0_15, a_0_16, a_0_17⟩ := id g_0
  refine wp_cu1 (sf_X8_crease (Nat.le_refl 700) a_0_0 a_0_1 a_0_2 a_0_3 a_0_12 a_0_13) (fun r _ => ?_)
  exact trivial
set_option maxHeartbeats 4000000 in
set_option maxRecDepth 20000 in
theorem st8_shape {x1 : Int32} {v_now_rows : Int32} {v_now_cols : Int32} {v_now_high : Int32} {v_now_wide : Int32} {v_now_below : List Int32} {v_now_rowOf : List Int32} {v_now_colOf : List Int32} {v_now_face : List Int32} {v_now_worn : List Int32} {v_now_last : List Int32} {v_now_bend : List Int32} {v_now_tall : List Int32} (g_0 : gi_sh v_now_rows v_now_cols v_now_high v_now_wide v_now_rowOf v_now_colOf v_now_below v_now_face v_now_worn v_now_last v_now_bend v_now_tall) : wp (fX8_shape 700 x1 v_now_rows v_now_cols v_now_high v_now_wide v_now_below) (fun (r : Int32) => True) := by
  obtain ⟨a_0_0, a_0_1, a_0_2, a_0_3, a_0_4, a_0_5, a_0_6, a_0_7, a_0_8, a_0_9, a_0_10, a_0_11, a_0_12, a_0_13, a_0_14, a_0_15, a_0_16, a_0_17⟩ := id g_0
  refine wp_cu1 (sf_X8_shape (Nat.le_refl 700) a_0_0 a_0_1 a_0_2 a_0_3 a_0_4 a_0_5 a_0_6 a_0_7 a_0_10) (fun r _ => ?_)
  exact trivial
set_option maxHeartbeats 4000000 in
set_option maxRecDepth 20000 in
theorem st8_where {x1 : Int32} {x2 : Int32} {v_now_rows : Int32} {v_now_cols : Int32} {v_now_rowOf : List Int32} {v_now_colOf : List Int32} {v_now_below : List Int32} {v_now_face : List Int32} {v_now_high : Int32} {v_now_wide : Int32} {v_now_worn : List Int32} {v_now_last : List Int32} {v_now_bend : List Int32} {v_now_tall : List Int32} (g_0 : gi_sh v_now_rows v_now_cols v_now_high v_now_wide v_now_rowOf v_now_colOf v_now_below v_now_face v_now_worn v_now_last v_now_bend v_now_tall) : wp (fX8_where 700 x1 x2 v_now_rows v_now_cols v_now_rowOf v_now_colOf v_now_below v_now_face) (fun (r : Int32) => True) := by
  obtain ⟨a_0_0, a_0_1, a_0_2, a_0_3, a_0_4, a_0_5, a_0_6, a_0_7, a_0_8, a_0_9, a_0_10, a_0_11, a_0_12, a_0_13, a_0_14, a_0_15, a_0_16, a_0_17⟩ := id g_0
  refine wp_cu1 (sf_X8_where (Nat.le_refl 700) a_0_0 a_0_1 a_0_2 a_0_3 a_0_8 a_0_9 a_0_10 a_0_11) (fun r _ => ?_)
  exact trivial
set_option maxHeartbeats 4000000 in
set_option maxRecDepth 20000 in
theorem st8_pile {x1 : Int32} {x2 : Int32} {v_now_rows : Int32} {v_now_cols : Int32} {v_now_high : Int32} {v_now_wide : Int32} {v_now_rowOf : List Int32} {v_now_colOf : List Int32} {v_now_below : List Int32} {v_now_face : List Int32} {v_now_worn : List Int32} {v_now_last : List Int32} {v_now_bend : List Int32} {v_now_tall : List Int32} (g_0 : gi_sh v_now_rows v_now_cols v_now_high v_now_wide v_now_rowOf v_now_colOf v_now_below v_now_face v_now_worn v_now_last v_now_bend v_now_tall) : wp (fX8_pile 700 x1 x2 v_now_rows v_now_cols v_now_high v_now_wide v_now_rowOf v_now_colOf v_now_below) (fun (r : Int32) => True) := by
  obtain ⟨a_0_0, a_0_1, a_0_2, a_0_3, a_0_4, a_0_5, a_0_6, a_0_7, a_0_8, a_0_9, a_0_10, a_0_11, a_0_12, a_0_13, a_0_14, a_0_15, a_0_16, a_0_17⟩ := id g_0
  refine wp_cu1 (sf_X8_pile (Nat.le_refl 700) a_0_0 a_0_1 a_0_2 a_0_3 a_0_4 a_0_5 a_0_6 a_0_7 a_0_8 a_0_9 a_0_10 a_0_16 a_0_17) (fun r _ => ?_)
  exact trivial
set_option maxHeartbeats 4000000 in
set_option maxRecDepth 20000 in
theorem st8_led {x1 : Int32} {v_now_rows : Int32} {v_now_cols : Int32} {v_now_folds : Int32} {v_now_wrong : Int32} {v_now_worn : List Int32} {v_changes_value : Int32} {v_now_high : Int32} {v_now_wide : Int32} {v_now_rowOf : List Int32} {v_now_colOf : List Int32} {v_now_below : List Int32} {v_now_face : List Int32} {v_now_last : List Int32} {v_now_bend : List Int32} {v_now_tall : List Int32} (g_0 : gi_sh v_now_rows v_now_cols v_now_high v_now_wide v_now_rowOf v_now_colOf v_now_below v_now_face v_now_worn v_now_last v_now_bend v_now_tall) : wp (fX8_led 700 x1 v_now_rows v_now_cols v_now_folds v_now_wrong v_now_worn v_changes_value) (fun (r : Int32) => True) := by
  obtain ⟨a_0_0, a_0_1, a_0_2, a_0_3, a_0_4, a_0_5, a_0_6, a_0_7, a_0_8, a_0_9, a_0_10, a_0_11, a_0_12, a_0_13, a_0_14, a_0_15, a_0_16, a_0_17⟩ := id g_0
  refine wp_cu1 (sf_X8_led (Nat.le_refl 700) a_0_0 a_0_1 a_0_2 a_0_3 a_0_12) (fun r _ => ?_)
  exact trivial
set_option maxHeartbeats 4000000 in
set_option maxRecDepth 20000 in
theorem st8_plan {x1 : Int32} {x2 : Int32} {v_planned_size : Int32} {v_planned_lines : List Int32} {v_planned_ways : List Int32} (g_0 : gi_pl v_planned_size v_planned_lines v_planned_ways) : wp (fX8_plan 700 x1 x2 v_planned_size v_planned_lines v_planned_ways) (cu4 (fun (r : Int32) (wv_planned_size : Int32) (wv_planned_lines : List Int32) (wv_planned_ways : List Int32) => gi_pl wv_planned_size wv_planned_lines wv_planned_ways)) := by
  obtain ⟨a_0_0, a_0_1, a_0_2, a_0_3⟩ := id g_0
  refine wp_cu4 (sf_X8_plan (Nat.le_refl 700) a_0_0 a_0_1 a_0_2 a_0_3) (fun r wv_planned_size wv_planned_lines wv_planned_ways ⟨q_0, q_1, q_2, q_3⟩ => ?_)
  exact ⟨q_0, q_1, q_2, q_3⟩
set_option maxHeartbeats 4000000 in
set_option maxRecDepth 20000 in
theorem st8_plans {x1 : Int32} {x2 : Int32} {x3 : Int32} {v_planned_size : Int32} {v_planned_lines : List Int32} {v_planned_ways : List Int32} {v_shelves0_holds : Int32} {v_shelves0_sort : Int32} {v_shelves0_size : Int32} {v_shelves0_items : List Int64} {v_shelves1_holds : Int32} {v_shelves1_sort : Int32} {v_shelves1_size : Int32} {v_shelves1_items : List Int64} {v_shelves2_holds : Int32} {v_shelves2_sort : Int32} {v_shelves2_size : Int32} {v_shelves2_items : List Int64} {v_shelves3_holds : Int32} {v_shelves3_sort : Int32} {v_shelves3_size : Int32} {v_shelves3_items : List Int64} {v_shelves4_holds : Int32} {v_shelves4_sort : Int32} {v_shelves4_size : Int32} {v_shelves4_items : List Int64} {v_shelves5_holds : Int32} {v_shelves5_sort : Int32} {v_shelves5_size : Int32} {v_shelves5_items : List Int64} (g_0 : gi_pl v_planned_size v_planned_lines v_planned_ways) (g_1 : gi_sf v_shelves0_size v_shelves0_items) (g_2 : gi_sf v_shelves1_size v_shelves1_items) (g_3 : gi_sf v_shelves2_size v_shelves2_items) (g_4 : gi_sf v_shelves3_size v_shelves3_items) (g_5 : gi_sf v_shelves4_size v_shelves4_items) (g_6 : gi_sf v_shelves5_size v_shelves5_items) : wp (fX8_plans 700 x1 x2 x3 v_planned_size v_planned_lines v_planned_ways v_shelves0_holds v_shelves0_sort v_shelves0_size v_shelves0_items v_shelves1_holds v_shelves1_sort v_shelves1_size v_shelves1_items v_shelves2_holds v_shelves2_sort v_shelves2_size v_shelves2_items v_shelves3_holds v_shelves3_sort v_shelves3_size v_shelves3_items v_shelves4_holds v_shelves4_sort v_shelves4_size v_shelves4_items v_shelves5_holds v_shelves5_sort v_shelves5_size v_shelves5_items) (cu4 (fun (r : Int32) (wv_planned_size : Int32) (wv_planned_lines : List Int32) (wv_planned_ways : List Int32) => gi_pl wv_planned_size wv_planned_lines wv_planned_ways)) := by
  obtain ⟨a_0_0, a_0_1, a_0_2, a_0_3⟩ := id g_0
  obtain ⟨a_1_0, a_1_1, a_1_2⟩ := id g_1
  obtain ⟨a_2_0, a_2_1, a_2_2⟩ := id g_2
  obtain ⟨a_3_0, a_3_1, a_3_2⟩ := id g_3
  obtain ⟨a_4_0, a_4_1, a_4_2⟩ := id g_4
  obtain ⟨a_5_0, a_5_1, a_5_2⟩ := id g_5
  obtain ⟨a_6_0, a_6_1, a_6_2⟩ := id g_6
  refine wp_cu4 (sf_X8_plans (Nat.le_refl 700) a_0_0 a_0_1 a_0_2 a_0_3 a_1_0 a_1_1 a_1_2 a_2_0 a_2_1 a_2_2 a_3_0 a_3_1 a_3_2 a_4_0 a_4_1 a_4_2 a_5_0 a_5_1 a_5_2 a_6_0 a_6_1 a_6_2) (fun r wv_planned_size wv_planned_lines wv_planned_ways ⟨q_0, q_1, q_2, q_3⟩ => ?_)
  exact ⟨q_0, q_1, q_2, q_3⟩
set_option maxHeartbeats 4000000 in
set_option maxRecDepth 20000 in
theorem st8_cost {x1 : Int32} {v_now_rows : Int32} {v_now_cols : Int32} {v_now_high : Int32} {v_now_wide : Int32} {v_now_folds : Int32} {v_now_wrong : Int32} {v_now_more : Int32} {v_now_rowOf : List Int32} {v_now_colOf : List Int32} {v_now_below : List Int32} {v_now_face : List Int32} {v_now_worn : List Int32} {v_now_last : List Int32} {v_wearing_stepCount : Int32} {v_wearing_stacked : Int32} {v_wearing_steps : List Int32} {v_wearing_stack : List Int32} {v_planned_size : Int32} {v_planned_trial_rows : Int32} {v_planned_trial_cols : Int32} {v_planned_trial_high : Int32} {v_planned_trial_wide : Int32} {v_planned_trial_folds : Int32} {v_planned_trial_wrong : Int32} {v_planned_trial_more : Int32} {v_planned_trial_rowOf : List Int32} {v_planned_trial_colOf : List Int32} {v_planned_trial_below : List Int32} {v_planned_trial_face : List Int32} {v_planned_trial_worn : List Int32} {v_planned_trial_last : List Int32} {v_planned_trial_bend : List Int32} {v_planned_trial_tall : List Int32} {v_planned_lines : List Int32} {v_planned_ways : List Int32} {v_changes_value : Int32} {v_now_bend : List Int32} {v_now_tall : List Int32} {v_wearing_size : Int32} {v_wearing_draftCount : Int32} {v_wearing_tape : List Int32} {v_wearing_draft : List Int32} (g_0 : gi_sh v_now_rows v_now_cols v_now_high v_now_wide v_now_rowOf v_now_colOf v_now_below v_now_face v_now_worn v_now_last v_now_bend v_now_tall) (g_1 : gi_la v_wearing_size v_wearing_stepCount v_wearing_draftCount v_wearing_tape v_wearing_steps v_wearing_draft v_wearing_stack) (g_2 : gi_pl v_planned_size v_planned_lines v_planned_ways) (g_3 : gi_sh v_planned_trial_rows v_planned_trial_cols v_planned_trial_high v_planned_trial_wide v_planned_trial_rowOf v_planned_trial_colOf v_planned_trial_below v_planned_trial_face v_planned_trial_worn v_planned_trial_last v_planned_trial_bend v_planned_trial_tall) : wp (fX8_cost 700 x1 v_now_rows v_now_cols v_now_high v_now_wide v_now_folds v_now_wrong v_now_more v_now_rowOf v_now_colOf v_now_below v_now_face v_now_worn v_now_last v_wearing_stepCount v_wearing_stacked v_wearing_steps v_wearing_stack v_planned_size v_planned_trial_rows v_planned_trial_cols v_planned_trial_high v_planned_trial_wide v_planned_trial_folds v_planned_trial_wrong v_planned_trial_more v_planned_trial_rowOf v_planned_trial_colOf v_planned_trial_below v_planned_trial_face v_planned_trial_worn v_planned_trial_last v_planned_trial_bend v_planned_trial_tall v_planned_lines v_planned_ways v_changes_value) (cu18 (fun (r : Int32) (wv_wearing_stacked : Int32) (wv_wearing_stack : List Int32) (wv_planned_trial_rows : Int32) (wv_planned_trial_cols : Int32) (wv_planned_trial_high : Int32) (wv_planned_trial_wide : Int32) (wv_planned_trial_folds : Int32) (wv_planned_trial_wrong : Int32) (wv_planned_trial_more : Int32) (wv_planned_trial_rowOf : List Int32) (wv_planned_trial_colOf : List Int32) (wv_planned_trial_below : List Int32) (wv_planned_trial_face : List Int32) (wv_planned_trial_worn : List Int32) (wv_planned_trial_last : List Int32) (wv_planned_trial_bend : List Int32) (wv_planned_trial_tall : List Int32) => gi_la v_wearing_size v_wearing_stepCount v_wearing_draftCount v_wearing_tape v_wearing_steps v_wearing_draft wv_wearing_stack ∧ gi_sh wv_planned_trial_rows wv_planned_trial_cols wv_planned_trial_high wv_planned_trial_wide wv_planned_trial_rowOf wv_planned_trial_colOf wv_planned_trial_below wv_planned_trial_face wv_planned_trial_worn wv_planned_trial_last wv_planned_trial_bend wv_planned_trial_tall)) := by
  obtain ⟨a_0_0, a_0_1, a_0_2, a_0_3, a_0_4, a_0_5, a_0_6, a_0_7, a_0_8, a_0_9, a_0_10, a_0_11, a_0_12, a_0_13, a_0_14, a_0_15, a_0_16, a_0_17⟩ := id g_0
  obtain ⟨a_1_0, a_1_1, a_1_2, a_1_3, a_1_4, a_1_5, a_1_6, a_1_7, a_1_8, a_1_9⟩ := id g_1
  obtain ⟨a_2_0, a_2_1, a_2_2, a_2_3⟩ := id g_2
  obtain ⟨a_3_0, a_3_1, a_3_2, a_3_3, a_3_4, a_3_5, a_3_6, a_3_7, a_3_8, a_3_9, a_3_10, a_3_11, a_3_12, a_3_13, a_3_14, a_3_15, a_3_16, a_3_17⟩ := id g_3
  refine wp_cu18 (sf_X8_cost (Nat.le_refl 700) a_0_0 a_0_1 a_0_2 a_0_3 a_0_4 a_0_5 a_0_6 a_0_7 a_0_8 a_0_9 a_0_10 a_0_11 a_0_12 a_0_13 a_0_16 a_0_17 a_1_2 a_1_3 a_1_7 a_1_9 a_2_0 a_2_1 a_2_2 a_2_3 a_3_0 a_3_1 a_3_2 a_3_3 a_3_4 a_3_5 a_3_6 a_3_7 a_3_8 a_3_9 a_3_10 a_3_11 a_3_12 a_3_13 a_3_14 a_3_15 a_3_16 a_3_17) (fun r wv_wearing_stacked wv_wearing_stack wv_planned_trial_rows wv_planned_trial_cols wv_planned_trial_high wv_planned_trial_wide wv_planned_trial_folds wv_planned_trial_wrong wv_planned_trial_more wv_planned_trial_rowOf wv_planned_trial_colOf wv_planned_trial_below wv_planned_trial_face wv_planned_trial_worn wv_planned_trial_last wv_planned_trial_bend wv_planned_trial_tall ⟨q_0, q_1, q_2, q_3, q_4, q_5, q_6, q_7, q_8, q_9, q_10, q_11, q_12, q_13, q_14, q_15, q_16, q_17, q_18⟩ => ?_)
  exact ⟨⟨a_1_0, a_1_1, a_1_2, a_1_3, a_1_4, a_1_5, a_1_6, a_1_7, a_1_8, q_0⟩, ⟨q_1, q_2, q_3, q_4, q_5, q_6, q_7, q_8, q_9, q_10, q_11, q_12, q_13, q_14, q_15, q_16, q_17, q_18⟩⟩
set_option maxHeartbeats 4000000 in
set_option maxRecDepth 20000 in
theorem st8_lies {x1 : Int32} {x2 : Int32} {v_now_rows : Int32} {v_now_cols : Int32} {v_now_high : Int32} {v_now_wide : Int32} {v_now_folds : Int32} {v_now_wrong : Int32} {v_now_more : Int32} {v_now_rowOf : List Int32} {v_now_colOf : List Int32} {v_now_below : List Int32} {v_now_face : List Int32} {v_now_worn : List Int32} {v_now_last : List Int32} {v_wearing_stepCount : Int32} {v_wearing_stacked : Int32} {v_wearing_steps : List Int32} {v_wearing_stack : List Int32} {v_planned_size : Int32} {v_planned_trial_rows : Int32} {v_planned_trial_cols : Int32} {v_planned_trial_high : Int32} {v_planned_trial_wide : Int32} {v_planned_trial_folds : Int32} {v_planned_trial_wrong : Int32} {v_planned_trial_more : Int32} {v_planned_trial_rowOf : List Int32} {v_planned_trial_colOf : List Int32} {v_planned_trial_below : List Int32} {v_planned_trial_face : List Int32} {v_planned_trial_worn : List Int32} {v_planned_trial_last : List Int32} {v_planned_trial_bend : List Int32} {v_planned_trial_tall : List Int32} {v_planned_lines : List Int32} {v_planned_ways : List Int32} {v_changes_value : Int32} {v_now_bend : List Int32} {v_now_tall : List Int32} {v_wearing_size : Int32} {v_wearing_draftCount : Int32} {v_wearing_tape : List Int32} {v_wearing_draft : List Int32} (g_0 : gi_sh v_now_rows v_now_cols v_now_high v_now_wide v_now_rowOf v_now_colOf v_now_below v_now_face v_now_worn v_now_last v_now_bend v_now_tall) (g_1 : gi_la v_wearing_size v_wearing_stepCount v_wearing_draftCount v_wearing_tape v_wearing_steps v_wearing_draft v_wearing_stack) (g_2 : gi_pl v_planned_size v_planned_lines v_planned_ways) (g_3 : gi_sh v_planned_trial_rows v_planned_trial_cols v_planned_trial_high v_planned_trial_wide v_planned_trial_rowOf v_planned_trial_colOf v_planned_trial_below v_planned_trial_face v_planned_trial_worn v_planned_trial_last v_planned_trial_bend v_planned_trial_tall) : wp (fX8_lies 700 x1 x2 v_now_rows v_now_cols v_now_high v_now_wide v_now_folds v_now_wrong v_now_more v_now_rowOf v_now_colOf v_now_below v_now_face v_now_worn v_now_last v_wearing_stepCount v_wearing_stacked v_wearing_steps v_wearing_stack v_planned_size v_planned_trial_rows v_planned_trial_cols v_planned_trial_high v_planned_trial_wide v_planned_trial_folds v_planned_trial_wrong v_planned_trial_more v_planned_trial_rowOf v_planned_trial_colOf v_planned_trial_below v_planned_trial_face v_planned_trial_worn v_planned_trial_last v_planned_trial_bend v_planned_trial_tall v_planned_lines v_planned_ways v_changes_value) (cu18 (fun (r : Int32) (wv_wearing_stacked : Int32) (wv_wearing_stack : List Int32) (wv_planned_trial_rows : Int32) (wv_planned_trial_cols : Int32) (wv_planned_trial_high : Int32) (wv_planned_trial_wide : Int32) (wv_planned_trial_folds : Int32) (wv_planned_trial_wrong : Int32) (wv_planned_trial_more : Int32) (wv_planned_trial_rowOf : List Int32) (wv_planned_trial_colOf : List Int32) (wv_planned_trial_below : List Int32) (wv_planned_trial_face : List Int32) (wv_planned_trial_worn : List Int32) (wv_planned_trial_last : List Int32) (wv_planned_trial_bend : List Int32) (wv_planned_trial_tall : List Int32) => gi_la v_wearing_size v_wearing_stepCount v_wearing_draftCount v_wearing_tape v_wearing_steps v_wearing_draft wv_wearing_stack ∧ gi_sh wv_planned_trial_rows wv_planned_trial_cols wv_planned_trial_high wv_planned_trial_wide wv_planned_trial_rowOf wv_planned_trial_colOf wv_planned_trial_below wv_planned_trial_face wv_planned_trial_worn wv_planned_trial_last wv_planned_trial_bend wv_planned_trial_tall)) := by
  obtain ⟨a_0_0, a_0_1, a_0_2, a_0_3, a_0_4, a_0_5, a_0_6, a_0_7, a_0_8, a_0_9, a_0_10, a_0_11, a_0_12, a_0_13, a_0_14, a_0_15, a_0_16, a_0_17⟩ := id g_0
  obtain ⟨a_1_0, a_1_1, a_1_2, a_1_3, a_1_4, a_1_5, a_1_6, a_1_7, a_1_8, a_1_9⟩ := id g_1
  obtain ⟨a_2_0, a_2_1, a_2_2, a_2_3⟩ := id g_2
  obtain ⟨a_3_0, a_3_1, a_3_2, a_3_3, a_3_4, a_3_5, a_3_6, a_3_7, a_3_8, a_3_9, a_3_10, a_3_11, a_3_12, a_3_13, a_3_14, a_3_15, a_3_16, a_3_17⟩ := id g_3
  refine wp_cu18 (sf_X8_lies (Nat.le_refl 700) a_0_0 a_0_1 a_0_2 a_0_3 a_0_4 a_0_5 a_0_6 a_0_7 a_0_8 a_0_9 a_0_10 a_0_11 a_0_12 a_0_13 a_0_16 a_0_17 a_1_2 a_1_3 a_1_7 a_1_9 a_2_0 a_2_1 a_2_2 a_2_3 a_3_0 a_3_1 a_3_2 a_3_3 a_3_4 a_3_5 a_3_6 a_3_7 a_3_8 a_3_9 a_3_10 a_3_11 a_3_12 a_3_13 a_3_14 a_3_15 a_3_16 a_3_17) (fun r wv_wearing_stacked wv_wearing_stack wv_planned_trial_rows wv_planned_trial_cols wv_planned_trial_high wv_planned_trial_wide wv_planned_trial_folds wv_planned_trial_wrong wv_planned_trial_more wv_planned_trial_rowOf wv_planned_trial_colOf wv_planned_trial_below wv_planned_trial_face wv_planned_trial_worn wv_planned_trial_last wv_planned_trial_bend wv_planned_trial_tall ⟨q_0, q_1, q_2, q_3, q_4, q_5, q_6, q_7, q_8, q_9, q_10, q_11, q_12, q_13, q_14, q_15, q_16, q_17, q_18⟩ => ?_)
  exact ⟨⟨a_1_0, a_1_1, a_1_2, a_1_3, a_1_4, a_1_5, a_1_6, a_1_7, a_1_8, q_0⟩, ⟨q_1, q_2, q_3, q_4, q_5, q_6, q_7, q_8, q_9, q_10, q_11, q_12, q_13, q_14, q_15, q_16, q_17, q_18⟩⟩
set_option maxHeartbeats 4000000 in
set_option maxRecDepth 20000 in
theorem st8_top {x1 : Int32} {x2 : Int32} {v_now_rows : Int32} {v_now_cols : Int32} {v_now_high : Int32} {v_now_wide : Int32} {v_now_folds : Int32} {v_now_wrong : Int32} {v_now_more : Int32} {v_now_rowOf : List Int32} {v_now_colOf : List Int32} {v_now_below : List Int32} {v_now_face : List Int32} {v_now_worn : List Int32} {v_now_last : List Int32} {v_wearing_stepCount : Int32} {v_wearing_stacked : Int32} {v_wearing_steps : List Int32} {v_wearing_stack : List Int32} {v_planned_size : Int32} {v_planned_trial_rows : Int32} {v_planned_trial_cols : Int32} {v_planned_trial_high : Int32} {v_planned_trial_wide : Int32} {v_planned_trial_folds : Int32} {v_planned_trial_wrong : Int32} {v_planned_trial_more : Int32} {v_planned_trial_rowOf : List Int32} {v_planned_trial_colOf : List Int32} {v_planned_trial_below : List Int32} {v_planned_trial_face : List Int32} {v_planned_trial_worn : List Int32} {v_planned_trial_last : List Int32} {v_planned_trial_bend : List Int32} {v_planned_trial_tall : List Int32} {v_planned_lines : List Int32} {v_planned_ways : List Int32} {v_changes_value : Int32} {v_now_bend : List Int32} {v_now_tall : List Int32} {v_wearing_size : Int32} {v_wearing_draftCount : Int32} {v_wearing_tape : List Int32} {v_wearing_draft : List Int32} (g_0 : gi_sh v_now_rows v_now_cols v_now_high v_now_wide v_now_rowOf v_now_colOf v_now_below v_now_face v_now_worn v_now_last v_now_bend v_now_tall) (g_1 : gi_la v_wearing_size v_wearing_stepCount v_wearing_draftCount v_wearing_tape v_wearing_steps v_wearing_draft v_wearing_stack) (g_2 : gi_pl v_planned_size v_planned_lines v_planned_ways) (g_3 : gi_sh v_planned_trial_rows v_planned_trial_cols v_planned_trial_high v_planned_trial_wide v_planned_trial_rowOf v_planned_trial_colOf v_planned_trial_below v_planned_trial_face v_planned_trial_worn v_planned_trial_last v_planned_trial_bend v_planned_trial_tall) : wp (fX8_top 700 x1 x2 v_now_rows v_now_cols v_now_high v_now_wide v_now_folds v_now_wrong v_now_more v_now_rowOf v_now_colOf v_now_below v_now_face v_now_worn v_now_last v_wearing_stepCount v_wearing_stacked v_wearing_steps v_wearing_stack v_planned_size v_planned_trial_rows v_planned_trial_cols v_planned_trial_high v_planned_trial_wide v_planned_trial_folds v_planned_trial_wrong v_planned_trial_more v_planned_trial_rowOf v_planned_trial_colOf v_planned_trial_below v_planned_trial_face v_planned_trial_worn v_planned_trial_last v_planned_trial_bend v_planned_trial_tall v_planned_lines v_planned_ways v_changes_value) (cu18 (fun (r : Int32) (wv_wearing_stacked : Int32) (wv_wearing_stack : List Int32) (wv_planned_trial_rows : Int32) (wv_planned_trial_cols : Int32) (wv_planned_trial_high : Int32) (wv_planned_trial_wide : Int32) (wv_planned_trial_folds : Int32) (wv_planned_trial_wrong : Int32) (wv_planned_trial_more : Int32) (wv_planned_trial_rowOf : List Int32) (wv_planned_trial_colOf : List Int32) (wv_planned_trial_below : List Int32) (wv_planned_trial_face : List Int32) (wv_planned_trial_worn : List Int32) (wv_planned_trial_last : List Int32) (wv_planned_trial_bend : List Int32) (wv_planned_trial_tall : List Int32) => gi_la v_wearing_size v_wearing_stepCount v_wearing_draftCount v_wearing_tape v_wearing_steps v_wearing_draft wv_wearing_stack ∧ gi_sh wv_planned_trial_rows wv_planned_trial_cols wv_planned_trial_high wv_planned_trial_wide wv_planned_trial_rowOf wv_planned_trial_colOf wv_planned_trial_below wv_planned_trial_face wv_planned_trial_worn wv_planned_trial_last wv_planned_trial_bend wv_planned_trial_tall)) := by
  obtain ⟨a_0_0, a_0_1, a_0_2, a_0_3, a_0_4, a_0_5, a_0_6, a_0_7, a_0_8, a_0_9, a_0_10, a_0_11, a_0_12, a_0_13, a_0_14, a_0_15, a_0_16, a_0_17⟩ := id g_0
  obtain ⟨a_1_0, a_1_1, a_1_2, a_1_3, a_1_4, a_1_5, a_1_6, a_1_7, a_1_8, a_1_9⟩ := id g_1
  obtain ⟨a_2_0, a_2_1, a_2_2, a_2_3⟩ := id g_2
  obtain ⟨a_3_0, a_3_1, a_3_2, a_3_3, a_3_4, a_3_5, a_3_6, a_3_7, a_3_8, a_3_9, a_3_10, a_3_11, a_3_12, a_3_13, a_3_14, a_3_15, a_3_16, a_3_17⟩ := id g_3
  refine wp_cu18 (sf_X8_top (Nat.le_refl 700) a_0_0 a_0_1 a_0_2 a_0_3 a_0_4 a_0_5 a_0_6 a_0_7 a_0_8 a_0_9 a_0_10 a_0_11 a_0_12 a_0_13 a_0_16 a_0_17 a_1_2 a_1_3 a_1_7 a_1_9 a_2_0 a_2_1 a_2_2 a_2_3 a_3_0 a_3_1 a_3_2 a_3_3 a_3_4 a_3_5 a_3_6 a_3_7 a_3_8 a_3_9 a_3_10 a_3_11 a_3_12 a_3_13 a_3_14 a_3_15 a_3_16 a_3_17) (fun r wv_wearing_stacked wv_wearing_stack wv_planned_trial_rows wv_planned_trial_cols wv_planned_trial_high wv_planned_trial_wide wv_planned_trial_folds wv_planned_trial_wrong wv_planned_trial_more wv_planned_trial_rowOf wv_planned_trial_colOf wv_planned_trial_below wv_planned_trial_face wv_planned_trial_worn wv_planned_trial_last wv_planned_trial_bend wv_planned_trial_tall ⟨q_0, q_1, q_2, q_3, q_4, q_5, q_6, q_7, q_8, q_9, q_10, q_11, q_12, q_13, q_14, q_15, q_16, q_17, q_18⟩ => ?_)
  exact ⟨⟨a_1_0, a_1_1, a_1_2, a_1_3, a_1_4, a_1_5, a_1_6, a_1_7, a_1_8, q_0⟩, ⟨q_1, q_2, q_3, q_4, q_5, q_6, q_7, q_8, q_9, q_10, q_11, q_12, q_13, q_14, q_15, q_16, q_17, q_18⟩⟩
set_option maxHeartbeats 4000000 in
set_option maxRecDepth 20000 in
theorem st8_beside {x1 : Int32} {x2 : Int32} {v_now_rows : Int32} {v_now_cols : Int32} {v_now_high : Int32} {v_now_wide : Int32} {v_now_folds : Int32} {v_now_wrong : Int32} {v_now_more : Int32} {v_now_rowOf : List Int32} {v_now_colOf : List Int32} {v_now_below : List Int32} {v_now_face : List Int32} {v_now_worn : List Int32} {v_now_last : List Int32} {v_wearing_stepCount : Int32} {v_wearing_stacked : Int32} {v_wearing_steps : List Int32} {v_wearing_stack : List Int32} {v_planned_size : Int32} {v_planned_trial_rows : Int32} {v_planned_trial_cols : Int32} {v_planned_trial_high : Int32} {v_planned_trial_wide : Int32} {v_planned_trial_folds : Int32} {v_planned_trial_wrong : Int32} {v_planned_trial_more : Int32} {v_planned_trial_rowOf : List Int32} {v_planned_trial_colOf : List Int32} {v_planned_trial_below : List Int32} {v_planned_trial_face : List Int32} {v_planned_trial_worn : List Int32} {v_planned_trial_last : List Int32} {v_planned_trial_bend : List Int32} {v_planned_trial_tall : List Int32} {v_planned_lines : List Int32} {v_planned_ways : List Int32} {v_changes_value : Int32} {v_now_bend : List Int32} {v_now_tall : List Int32} {v_wearing_size : Int32} {v_wearing_draftCount : Int32} {v_wearing_tape : List Int32} {v_wearing_draft : List Int32} (g_0 : gi_sh v_now_rows v_now_cols v_now_high v_now_wide v_now_rowOf v_now_colOf v_now_below v_now_face v_now_worn v_now_last v_now_bend v_now_tall) (g_1 : gi_la v_wearing_size v_wearing_stepCount v_wearing_draftCount v_wearing_tape v_wearing_steps v_wearing_draft v_wearing_stack) (g_2 : gi_pl v_planned_size v_planned_lines v_planned_ways) (g_3 : gi_sh v_planned_trial_rows v_planned_trial_cols v_planned_trial_high v_planned_trial_wide v_planned_trial_rowOf v_planned_trial_colOf v_planned_trial_below v_planned_trial_face v_planned_trial_worn v_planned_trial_last v_planned_trial_bend v_planned_trial_tall) : wp (fX8_beside 700 x1 x2 v_now_rows v_now_cols v_now_high v_now_wide v_now_folds v_now_wrong v_now_more v_now_rowOf v_now_colOf v_now_below v_now_face v_now_worn v_now_last v_wearing_stepCount v_wearing_stacked v_wearing_steps v_wearing_stack v_planned_size v_planned_trial_rows v_planned_trial_cols v_planned_trial_high v_planned_trial_wide v_planned_trial_folds v_planned_trial_wrong v_planned_trial_more v_planned_trial_rowOf v_planned_trial_colOf v_planned_trial_below v_planned_trial_face v_planned_trial_worn v_planned_trial_last v_planned_trial_bend v_planned_trial_tall v_planned_lines v_planned_ways v_changes_value) (cu18 (fun (r : Int32) (wv_wearing_stacked : Int32) (wv_wearing_stack : List Int32) (wv_planned_trial_rows : Int32) (wv_planned_trial_cols : Int32) (wv_planned_trial_high : Int32) (wv_planned_trial_wide : Int32) (wv_planned_trial_folds : Int32) (wv_planned_trial_wrong : Int32) (wv_planned_trial_more : Int32) (wv_planned_trial_rowOf : List Int32) (wv_planned_trial_colOf : List Int32) (wv_planned_trial_below : List Int32) (wv_planned_trial_face : List Int32) (wv_planned_trial_worn : List Int32) (wv_planned_trial_last : List Int32) (wv_planned_trial_bend : List Int32) (wv_planned_trial_tall : List Int32) => gi_la v_wearing_size v_wearing_stepCount v_wearing_draftCount v_wearing_tape v_wearing_steps v_wearing_draft wv_wearing_stack ∧ gi_sh wv_planned_trial_rows wv_planned_trial_cols wv_planned_trial_high wv_planned_trial_wide wv_planned_trial_rowOf wv_planned_trial_colOf wv_planned_trial_below wv_planned_trial_face wv_planned_trial_worn wv_planned_trial_last wv_planned_trial_bend wv_planned_trial_tall)) := by
  obtain ⟨a_0_0, a_0_1, a_0_2, a_0_3, a_0_4, a_0_5, a_0_6, a_0_7, a_0_8, a_0_9, a_0_10, a_0_11, a_0_12, a_0_13, a_0_14, a_0_15, a_0_16, a_0_17⟩ := id g_0
  obtain ⟨a_1_0, a_1_1, a_1_2, a_1_3, a_1_4, a_1_5, a_1_6, a_1_7, a_1_8, a_1_9⟩ := id g_1
  obtain ⟨a_2_0, a_2_1, a_2_2, a_2_3⟩ := id g_2
  obtain ⟨a_3_0, a_3_1, a_3_2, a_3_3, a_3_4, a_3_5, a_3_6, a_3_7, a_3_8, a_3_9, a_3_10, a_3_11, a_3_12, a_3_13, a_3_14, a_3_15, a_3_16, a_3_17⟩ := id g_3
  refine wp_cu18 (sf_X8_beside (Nat.le_refl 700) a_0_0 a_0_1 a_0_2 a_0_3 a_0_4 a_0_5 a_0_6 a_0_7 a_0_8 a_0_9 a_0_10 a_0_11 a_0_12 a_0_13 a_0_16 a_0_17 a_1_2 a_1_3 a_1_7 a_1_9 a_2_0 a_2_1 a_2_2 a_2_3 a_3_0 a_3_1 a_3_2 a_3_3 a_3_4 a_3_5 a_3_6 a_3_7 a_3_8 a_3_9 a_3_10 a_3_11 a_3_12 a_3_13 a_3_14 a_3_15 a_3_16 a_3_17) (fun r wv_wearing_stacked wv_wearing_stack wv_planned_trial_rows wv_planned_trial_cols wv_planned_trial_high wv_planned_trial_wide wv_planned_trial_folds wv_planned_trial_wrong wv_planned_trial_more wv_planned_trial_rowOf wv_planned_trial_colOf wv_planned_trial_below wv_planned_trial_face wv_planned_trial_worn wv_planned_trial_last wv_planned_trial_bend wv_planned_trial_tall ⟨q_0, q_1, q_2, q_3, q_4, q_5, q_6, q_7, q_8, q_9, q_10, q_11, q_12, q_13, q_14, q_15, q_16, q_17, q_18⟩ => ?_)
  exact ⟨⟨a_1_0, a_1_1, a_1_2, a_1_3, a_1_4, a_1_5, a_1_6, a_1_7, a_1_8, q_0⟩, ⟨q_1, q_2, q_3, q_4, q_5, q_6, q_7, q_8, q_9, q_10, q_11, q_12, q_13, q_14, q_15, q_16, q_17, q_18⟩⟩
set_option maxHeartbeats 4000000 in
set_option maxRecDepth 20000 in
theorem st8_wished {x1 : Int32} {x2 : Int32} {v_now_rows : Int32} {v_now_cols : Int32} {v_now_high : Int32} {v_now_wide : Int32} {v_now_folds : Int32} {v_now_wrong : Int32} {v_now_more : Int32} {v_now_rowOf : List Int32} {v_now_colOf : List Int32} {v_now_below : List Int32} {v_now_face : List Int32} {v_now_worn : List Int32} {v_now_last : List Int32} {v_search_found : Bool} {v_search_wrong : Int32} {v_search_more : Int32} {v_search_folds : Int32} {v_search_wanted : Int32} {v_search_levels0_rows : Int32} {v_search_levels0_cols : Int32} {v_search_levels0_high : Int32} {v_search_levels0_wide : Int32} {v_search_levels0_folds : Int32} {v_search_levels0_wrong : Int32} {v_search_levels0_more : Int32} {v_search_levels0_rowOf : List Int32} {v_search_levels0_colOf : List Int32} {v_search_levels0_below : List Int32} {v_search_levels0_face : List Int32} {v_search_levels0_worn : List Int32} {v_search_levels0_last : List Int32} {v_search_levels1_rows : Int32} {v_search_levels1_cols : Int32} {v_search_levels1_high : Int32} {v_search_levels1_wide : Int32} {v_search_levels1_folds : Int32} {v_search_levels1_wrong : Int32} {v_search_levels1_more : Int32} {v_search_levels1_rowOf : List Int32} {v_search_levels1_colOf : List Int32} {v_search_levels1_below : List Int32} {v_search_levels1_face : List Int32} {v_search_levels1_worn : List Int32} {v_search_levels1_last : List Int32} {v_search_levels1_tall : List Int32} {v_search_levels2_rows : Int32} {v_search_levels2_cols : Int32} {v_search_levels2_high : Int32} {v_search_levels2_wide : Int32} {v_search_levels2_folds : Int32} {v_search_levels2_wrong : Int32} {v_search_levels2_more : Int32} {v_search_levels2_rowOf : List Int32} {v_search_levels2_colOf : List Int32} {v_search_levels2_below : List Int32} {v_search_levels2_face : List Int32} {v_search_levels2_worn : List Int32} {v_search_levels2_last : List Int32} {v_search_levels2_tall : List Int32} {v_search_levels3_rows : Int32} {v_search_levels3_cols : Int32} {v_search_levels3_high : Int32} {v_search_levels3_wide : Int32} {v_search_levels3_folds : Int32} {v_search_levels3_wrong : Int32} {v_search_levels3_more : Int32} {v_search_levels3_rowOf : List Int32} {v_search_levels3_colOf : List Int32} {v_search_levels3_below : List Int32} {v_search_levels3_face : List Int32} {v_search_levels3_worn : List Int32} {v_search_levels3_last : List Int32} {v_search_levels3_tall : List Int32} {v_search_path : List Int32} {v_search_best : List Int32} {v_now_bend : List Int32} {v_now_tall : List Int32} {v_search_levels0_bend : List Int32} {v_search_levels0_tall : List Int32} {v_search_levels1_bend : List Int32} {v_search_levels2_bend : List Int32} {v_search_levels3_bend : List Int32} (g_0 : gi_sh v_now_rows v_now_cols v_now_high v_now_wide v_now_rowOf v_now_colOf v_now_below v_now_face v_now_worn v_now_last v_now_bend v_now_tall) (g_1 : gi_se v_search_folds v_search_path v_search_best) (g_2 : gi_sh v_search_levels0_rows v_search_levels0_cols v_search_levels0_high v_search_levels0_wide v_search_levels0_rowOf v_search_levels0_colOf v_search_levels0_below v_search_levels0_face v_search_levels0_worn v_search_levels0_last v_search_levels0_bend v_search_levels0_tall) (g_3 : gi_sh v_search_levels1_rows v_search_levels1_cols v_search_levels1_high v_search_levels1_wide v_search_levels1_rowOf v_search_levels1_colOf v_search_levels1_below v_search_levels1_face v_search_levels1_worn v_search_levels1_last v_search_levels1_bend v_search_levels1_tall) (g_4 : gi_sh v_search_levels2_rows v_search_levels2_cols v_search_levels2_high v_search_levels2_wide v_search_levels2_rowOf v_search_levels2_colOf v_search_levels2_below v_search_levels2_face v_search_levels2_worn v_search_levels2_last v_search_levels2_bend v_search_levels2_tall) (g_5 : gi_sh v_search_levels3_rows v_search_levels3_cols v_search_levels3_high v_search_levels3_wide v_search_levels3_rowOf v_search_levels3_colOf v_search_levels3_below v_search_levels3_face v_search_levels3_worn v_search_levels3_last v_search_levels3_bend v_search_levels3_tall) : wp (fX8_wished 700 x1 x2 v_now_rows v_now_cols v_now_high v_now_wide v_now_folds v_now_wrong v_now_more v_now_rowOf v_now_colOf v_now_below v_now_face v_now_worn v_now_last v_search_found v_search_wrong v_search_more v_search_folds v_search_wanted v_search_levels0_rows v_search_levels0_cols v_search_levels0_high v_search_levels0_wide v_search_levels0_folds v_search_levels0_wrong v_search_levels0_more v_search_levels0_rowOf v_search_levels0_colOf v_search_levels0_below v_search_levels0_face v_search_levels0_worn v_search_levels0_last v_search_levels1_rows v_search_levels1_cols v_search_levels1_high v_search_levels1_wide v_search_levels1_folds v_search_levels1_wrong v_search_levels1_more v_search_levels1_rowOf v_search_levels1_colOf v_search_levels1_below v_search_levels1_face v_search_levels1_worn v_search_levels1_last v_search_levels1_tall v_search_levels2_rows v_search_levels2_cols v_search_levels2_high v_search_levels2_wide v_search_levels2_folds v_search_levels2_wrong v_search_levels2_more v_search_levels2_rowOf v_search_levels2_colOf v_search_levels2_below v_search_levels2_face v_search_levels2_worn v_search_levels2_last v_search_levels2_tall v_search_levels3_rows v_search_levels3_cols v_search_levels3_high v_search_levels3_wide v_search_levels3_folds v_search_levels3_wrong v_search_levels3_more v_search_levels3_rowOf v_search_levels3_colOf v_search_levels3_below v_search_levels3_face v_search_levels3_worn v_search_levels3_last v_search_levels3_tall v_search_path v_search_best) (cu63 (fun (r : Int32) (wv_search_found : Bool) (wv_search_wrong : Int32) (wv_search_more : Int32) (wv_search_folds : Int32) (wv_search_wanted : Int32) (wv_search_levels0_rows : Int32) (wv_search_levels0_cols : Int32) (wv_search_levels0_high : Int32) (wv_search_levels0_wide : Int32) (wv_search_levels0_folds : Int32) (wv_search_levels0_wrong : Int32) (wv_search_levels0_more : Int32) (wv_search_levels0_rowOf : List Int32) (wv_search_levels0_colOf : List Int32) (wv_search_levels0_below : List Int32) (wv_search_levels0_face : List Int32) (wv_search_levels0_worn : List Int32) (wv_search_levels0_last : List Int32) (wv_search_levels1_rows : Int32) (wv_search_levels1_cols : Int32) (wv_search_levels1_high : Int32) (wv_search_levels1_wide : Int32) (wv_search_levels1_folds : Int32) (wv_search_levels1_wrong : Int32) (wv_search_levels1_more : Int32) (wv_search_levels1_rowOf : List Int32) (wv_search_levels1_colOf : List Int32) (wv_search_levels1_below : List Int32) (wv_search_levels1_face : List Int32) (wv_search_levels1_worn : List Int32) (wv_search_levels1_last : List Int32) (wv_search_levels1_tall : List Int32) (wv_search_levels2_rows : Int32) (wv_search_levels2_cols : Int32) (wv_search_levels2_high : Int32) (wv_search_levels2_wide : Int32) (wv_search_levels2_folds : Int32) (wv_search_levels2_wrong : Int32) (wv_search_levels2_more : Int32) (wv_search_levels2_rowOf : List Int32) (wv_search_levels2_colOf : List Int32) (wv_search_levels2_below : List Int32) (wv_search_levels2_face : List Int32) (wv_search_levels2_worn : List Int32) (wv_search_levels2_last : List Int32) (wv_search_levels2_tall : List Int32) (wv_search_levels3_rows : Int32) (wv_search_levels3_cols : Int32) (wv_search_levels3_high : Int32) (wv_search_levels3_wide : Int32) (wv_search_levels3_folds : Int32) (wv_search_levels3_wrong : Int32) (wv_search_levels3_more : Int32) (wv_search_levels3_rowOf : List Int32) (wv_search_levels3_colOf : List Int32) (wv_search_levels3_below : List Int32) (wv_search_levels3_face : List Int32) (wv_search_levels3_worn : List Int32) (wv_search_levels3_last : List Int32) (wv_search_levels3_tall : List Int32) (wv_search_path : List Int32) (wv_search_best : List Int32) => gi_se wv_search_folds wv_search_path wv_search_best ∧ gi_sh wv_search_levels0_rows wv_search_levels0_cols wv_search_levels0_high wv_search_levels0_wide wv_search_levels0_rowOf wv_search_levels0_colOf wv_search_levels0_below wv_search_levels0_face wv_search_levels0_worn wv_search_levels0_last v_search_levels0_bend v_search_levels0_tall ∧ gi_sh wv_search_levels1_rows wv_search_levels1_cols wv_search_levels1_high wv_search_levels1_wide wv_search_levels1_rowOf wv_search_levels1_colOf wv_search_levels1_below wv_search_levels1_face wv_search_levels1_worn wv_search_levels1_last v_search_levels1_bend wv_search_levels1_tall ∧ gi_sh wv_search_levels2_rows wv_search_levels2_cols wv_search_levels2_high wv_search_levels2_wide wv_search_levels2_rowOf wv_search_levels2_colOf wv_search_levels2_below wv_search_levels2_face wv_search_levels2_worn wv_search_levels2_last v_search_levels2_bend wv_search_levels2_tall ∧ gi_sh wv_search_levels3_rows wv_search_levels3_cols wv_search_levels3_high wv_search_levels3_wide wv_search_levels3_rowOf wv_search_levels3_colOf wv_search_levels3_below wv_search_levels3_face wv_search_levels3_worn wv_search_levels3_last v_search_levels3_bend wv_search_levels3_tall)) := by
  obtain ⟨a_0_0, a_0_1, a_0_2, a_0_3, a_0_4, a_0_5, a_0_6, a_0_7, a_0_8, a_0_9, a_0_10, a_0_11, a_0_12, a_0_13, a_0_14, a_0_15, a_0_16, a_0_17⟩ := id g_0
  obtain ⟨a_1_0, a_1_1, a_1_2, a_1_3⟩ := id g_1
  obtain ⟨a_2_0, a_2_1, a_2_2, a_2_3, a_2_4, a_2_5, a_2_6, a_2_7, a_2_8, a_2_9, a_2_10, a_2_11, a_2_12, a_2_13, a_2_14, a_2_15, a_2_16, a_2_17⟩ := id g_2
  obtain ⟨a_3_0, a_3_1, a_3_2, a_3_3, a_3_4, a_3_5, a_3_6, a_3_7, a_3_8, a_3_9, a_3_10, a_3_11, a_3_12, a_3_13, a_3_14, a_3_15, a_3_16, a_3_17⟩ := id g_3
  obtain ⟨a_4_0, a_4_1, a_4_2, a_4_3, a_4_4, a_4_5, a_4_6, a_4_7, a_4_8, a_4_9, a_4_10, a_4_11, a_4_12, a_4_13, a_4_14, a_4_15, a_4_16, a_4_17⟩ := id g_4
  obtain ⟨a_5_0, a_5_1, a_5_2, a_5_3, a_5_4, a_5_5, a_5_6, a_5_7, a_5_8, a_5_9, a_5_10, a_5_11, a_5_12, a_5_13, a_5_14, a_5_15, a_5_16, a_5_17⟩ := id g_5
  refine wp_cu63 (sf_X8_wished (Nat.le_refl 700) a_0_0 a_0_1 a_0_2 a_0_3 a_0_4 a_0_5 a_0_6 a_0_7 a_0_8 a_0_9 a_0_10 a_0_11 a_0_12 a_0_13 a_0_16 a_0_17 a_1_0 a_1_1 a_1_2 a_1_3 a_2_0 a_2_1 a_2_2 a_2_3 a_2_4 a_2_5 a_2_6 a_2_7 a_2_8 a_2_9 a_2_10 a_2_11 a_2_12 a_2_13 a_2_16 a_2_17 a_3_0 a_3_1 a_3_2 a_3_3 a_3_4 a_3_5 a_3_6 a_3_7 a_3_8 a_3_9 a_3_10 a_3_11 a_3_12 a_3_13 a_3_15 a_3_16 a_3_17 a_4_0 a_4_1 a_4_2 a_4_3 a_4_4 a_4_5 a_4_6 a_4_7 a_4_8 a_4_9 a_4_10 a_4_11 a_4_12 a_4_13 a_4_15 a_4_16 a_4_17 a_5_0 a_5_1 a_5_2 a_5_3 a_5_4 a_5_5 a_5_6 a_5_7 a_5_8 a_5_9 a_5_10 a_5_11 a_5_12 a_5_13 a_5_15 a_5_16 a_5_17) (fun r wv_search_found wv_search_wrong wv_search_more wv_search_folds wv_search_wanted wv_search_levels0_rows wv_search_levels0_cols wv_search_levels0_high wv_search_levels0_wide wv_search_levels0_folds wv_search_levels0_wrong wv_search_levels0_more wv_search_levels0_rowOf wv_search_levels0_colOf wv_search_levels0_below wv_search_levels0_face wv_search_levels0_worn wv_search_levels0_last wv_search_levels1_rows wv_search_levels1_cols wv_search_levels1_high wv_search_levels1_wide wv_search_levels1_folds wv_search_levels1_wrong wv_search_levels1_more wv_search_levels1_rowOf wv_search_levels1_colOf wv_search_levels1_below wv_search_levels1_face wv_search_levels1_worn wv_search_levels1_last wv_search_levels1_tall wv_search_levels2_rows wv_search_levels2_cols wv_search_levels2_high wv_search_levels2_wide wv_search_levels2_folds wv_search_levels2_wrong wv_search_levels2_more wv_search_levels2_rowOf wv_search_levels2_colOf wv_search_levels2_below wv_search_levels2_face wv_search_levels2_worn wv_search_levels2_last wv_search_levels2_tall wv_search_levels3_rows wv_search_levels3_cols wv_search_levels3_high wv_search_levels3_wide wv_search_levels3_folds wv_search_levels3_wrong wv_search_levels3_more wv_search_levels3_rowOf wv_search_levels3_colOf wv_search_levels3_below wv_search_levels3_face wv_search_levels3_worn wv_search_levels3_last wv_search_levels3_tall wv_search_path wv_search_best ⟨q_0, q_1, q_2, q_3, q_4, q_5, q_6, q_7, q_8, q_9, q_10, q_11, q_12, q_13, q_14, q_15, q_16, q_17, q_18, q_19, q_20, q_21, q_22, q_23, q_24, q_25, q_26, q_27, q_28, q_29, q_30, q_31, q_32, q_33, q_34, q_35, q_36, q_37, q_38, q_39, q_40, q_41, q_42, q_43, q_44, q_45, q_46, q_47, q_48, q_49, q_50, q_51, q_52, q_53, q_54, q_55, q_56, q_57, q_58, q_59, q_60, q_61, q_62, q_63, q_64, q_65, q_66, q_67, q_68, q_69, q_70⟩ => ?_)
  exact ⟨⟨q_0, q_1, q_2, q_3⟩, ⟨q_4, q_5, q_6, q_7, q_8, q_9, q_10, q_11, q_12, q_13, q_14, q_15, q_16, q_17, a_2_14, a_2_15, q_18, q_19⟩, ⟨q_20, q_21, q_22, q_23, q_24, q_25, q_26, q_27, q_28, q_29, q_30, q_31, q_32, q_33, a_3_14, q_34, q_35, q_36⟩, ⟨q_37, q_38, q_39, q_40, q_41, q_42, q_43, q_44, q_45, q_46, q_47, q_48, q_49, q_50, a_4_14, q_51, q_52, q_53⟩, ⟨q_54, q_55, q_56, q_57, q_58, q_59, q_60, q_61, q_62, q_63, q_64, q_65, q_66, q_67, a_5_14, q_68, q_69, q_70⟩⟩
set_option maxHeartbeats 4000000 in
set_option maxRecDepth 20000 in
theorem st8_right {x1 : Int32} {v_now_rows : Int32} {v_now_cols : Int32} {v_now_high : Int32} {v_now_wide : Int32} {v_now_folds : Int32} {v_now_wrong : Int32} {v_now_more : Int32} {v_now_rowOf : List Int32} {v_now_colOf : List Int32} {v_now_below : List Int32} {v_now_face : List Int32} {v_now_worn : List Int32} {v_now_last : List Int32} {v_wearing_stepCount : Int32} {v_wearing_stacked : Int32} {v_wearing_steps : List Int32} {v_wearing_stack : List Int32} {v_search_found : Bool} {v_search_wrong : Int32} {v_search_more : Int32} {v_search_folds : Int32} {v_search_wanted : Int32} {v_search_levels0_rows : Int32} {v_search_levels0_cols : Int32} {v_search_levels0_high : Int32} {v_search_levels0_wide : Int32} {v_search_levels0_folds : Int32} {v_search_levels0_wrong : Int32} {v_search_levels0_more : Int32} {v_search_levels0_rowOf : List Int32} {v_search_levels0_colOf : List Int32} {v_search_levels0_below : List Int32} {v_search_levels0_face : List Int32} {v_search_levels0_worn : List Int32} {v_search_levels0_last : List Int32} {v_search_levels1_rows : Int32} {v_search_levels1_cols : Int32} {v_search_levels1_high : Int32} {v_search_levels1_wide : Int32} {v_search_levels1_folds : Int32} {v_search_levels1_wrong : Int32} {v_search_levels1_more : Int32} {v_search_levels1_rowOf : List Int32} {v_search_levels1_colOf : List Int32} {v_search_levels1_below : List Int32} {v_search_levels1_face : List Int32} {v_search_levels1_worn : List Int32} {v_search_levels1_last : List Int32} {v_search_levels1_bend : List Int32} {v_search_levels1_tall : List Int32} {v_search_levels2_rows : Int32} {v_search_levels2_cols : Int32} {v_search_levels2_high : Int32} {v_search_levels2_wide : Int32} {v_search_levels2_folds : Int32} {v_search_levels2_wrong : Int32} {v_search_levels2_more : Int32} {v_search_levels2_rowOf : List Int32} {v_search_levels2_colOf : List Int32} {v_search_levels2_below : List Int32} {v_search_levels2_face : List Int32} {v_search_levels2_worn : List Int32} {v_search_levels2_last : List Int32} {v_search_levels2_bend : List Int32} {v_search_levels2_tall : List Int32} {v_search_levels3_rows : Int32} {v_search_levels3_cols : Int32} {v_search_levels3_high : Int32} {v_search_levels3_wide : Int32} {v_search_levels3_folds : Int32} {v_search_levels3_wrong : Int32} {v_search_levels3_more : Int32} {v_search_levels3_rowOf : List Int32} {v_search_levels3_colOf : List Int32} {v_search_levels3_below : List Int32} {v_search_levels3_face : List Int32} {v_search_levels3_worn : List Int32} {v_search_levels3_last : List Int32} {v_search_levels3_bend : List Int32} {v_search_levels3_tall : List Int32} {v_search_path : List Int32} {v_search_best : List Int32} {v_changes_value : Int32} {v_now_bend : List Int32} {v_now_tall : List Int32} {v_wearing_size : Int32} {v_wearing_draftCount : Int32} {v_wearing_tape : List Int32} {v_wearing_draft : List Int32} {v_search_levels0_bend : List Int32} {v_search_levels0_tall : List Int32} (g_0 : gi_sh v_now_rows v_now_cols v_now_high v_now_wide v_now_rowOf v_now_colOf v_now_below v_now_face v_now_worn v_now_last v_now_bend v_now_tall) (g_1 : gi_la v_wearing_size v_wearing_stepCount v_wearing_draftCount v_wearing_tape v_wearing_steps v_wearing_draft v_wearing_stack) (g_2 : gi_se v_search_folds v_search_path v_search_best) (g_3 : gi_sh v_search_levels0_rows v_search_levels0_cols v_search_levels0_high v_search_levels0_wide v_search_levels0_rowOf v_search_levels0_colOf v_search_levels0_below v_search_levels0_face v_search_levels0_worn v_search_levels0_last v_search_levels0_bend v_search_levels0_tall) (g_4 : gi_sh v_search_levels1_rows v_search_levels1_cols v_search_levels1_high v_search_levels1_wide v_search_levels1_rowOf v_search_levels1_colOf v_search_levels1_below v_search_levels1_face v_search_levels1_worn v_search_levels1_last v_search_levels1_bend v_search_levels1_tall) (g_5 : gi_sh v_search_levels2_rows v_search_levels2_cols v_search_levels2_high v_search_levels2_wide v_search_levels2_rowOf v_search_levels2_colOf v_search_levels2_below v_search_levels2_face v_search_levels2_worn v_search_levels2_last v_search_levels2_bend v_search_levels2_tall) (g_6 : gi_sh v_search_levels3_rows v_search_levels3_cols v_search_levels3_high v_search_levels3_wide v_search_levels3_rowOf v_search_levels3_colOf v_search_levels3_below v_search_levels3_face v_search_levels3_worn v_search_levels3_last v_search_levels3_bend v_search_levels3_tall) : wp (fX8_right 700 x1 v_now_rows v_now_cols v_now_high v_now_wide v_now_folds v_now_wrong v_now_more v_now_rowOf v_now_colOf v_now_below v_now_face v_now_worn v_now_last v_wearing_stepCount v_wearing_stacked v_wearing_steps v_wearing_stack v_search_found v_search_wrong v_search_more v_search_folds v_search_wanted v_search_levels0_rows v_search_levels0_cols v_search_levels0_high v_search_levels0_wide v_search_levels0_folds v_search_levels0_wrong v_search_levels0_more v_search_levels0_rowOf v_search_levels0_colOf v_search_levels0_below v_search_levels0_face v_search_levels0_worn v_search_levels0_last v_search_levels1_rows v_search_levels1_cols v_search_levels1_high v_search_levels1_wide v_search_levels1_folds v_search_levels1_wrong v_search_levels1_more v_search_levels1_rowOf v_search_levels1_colOf v_search_levels1_below v_search_levels1_face v_search_levels1_worn v_search_levels1_last v_search_levels1_bend v_search_levels1_tall v_search_levels2_rows v_search_levels2_cols v_search_levels2_high v_search_levels2_wide v_search_levels2_folds v_search_levels2_wrong v_search_levels2_more v_search_levels2_rowOf v_search_levels2_colOf v_search_levels2_below v_search_levels2_face v_search_levels2_worn v_search_levels2_last v_search_levels2_bend v_search_levels2_tall v_search_levels3_rows v_search_levels3_cols v_search_levels3_high v_search_levels3_wide v_search_levels3_folds v_search_levels3_wrong v_search_levels3_more v_search_levels3_rowOf v_search_levels3_colOf v_search_levels3_below v_search_levels3_face v_search_levels3_worn v_search_levels3_last v_search_levels3_bend v_search_levels3_tall v_search_path v_search_best v_changes_value) (cu68 (fun (r : Int32) (wv_wearing_stacked : Int32) (wv_wearing_stack : List Int32) (wv_search_found : Bool) (wv_search_wrong : Int32) (wv_search_more : Int32) (wv_search_folds : Int32) (wv_search_wanted : Int32) (wv_search_levels0_rows : Int32) (wv_search_levels0_cols : Int32) (wv_search_levels0_high : Int32) (wv_search_levels0_wide : Int32) (wv_search_levels0_folds : Int32) (wv_search_levels0_wrong : Int32) (wv_search_levels0_more : Int32) (wv_search_levels0_rowOf : List Int32) (wv_search_levels0_colOf : List Int32) (wv_search_levels0_below : List Int32) (wv_search_levels0_face : List Int32) (wv_search_levels0_worn : List Int32) (wv_search_levels0_last : List Int32) (wv_search_levels1_rows : Int32) (wv_search_levels1_cols : Int32) (wv_search_levels1_high : Int32) (wv_search_levels1_wide : Int32) (wv_search_levels1_folds : Int32) (wv_search_levels1_wrong : Int32) (wv_search_levels1_more : Int32) (wv_search_levels1_rowOf : List Int32) (wv_search_levels1_colOf : List Int32) (wv_search_levels1_below : List Int32) (wv_search_levels1_face : List Int32) (wv_search_levels1_worn : List Int32) (wv_search_levels1_last : List Int32) (wv_search_levels1_bend : List Int32) (wv_search_levels1_tall : List Int32) (wv_search_levels2_rows : Int32) (wv_search_levels2_cols : Int32) (wv_search_levels2_high : Int32) (wv_search_levels2_wide : Int32) (wv_search_levels2_folds : Int32) (wv_search_levels2_wrong : Int32) (wv_search_levels2_more : Int32) (wv_search_levels2_rowOf : List Int32) (wv_search_levels2_colOf : List Int32) (wv_search_levels2_below : List Int32) (wv_search_levels2_face : List Int32) (wv_search_levels2_worn : List Int32) (wv_search_levels2_last : List Int32) (wv_search_levels2_bend : List Int32) (wv_search_levels2_tall : List Int32) (wv_search_levels3_rows : Int32) (wv_search_levels3_cols : Int32) (wv_search_levels3_high : Int32) (wv_search_levels3_wide : Int32) (wv_search_levels3_folds : Int32) (wv_search_levels3_wrong : Int32) (wv_search_levels3_more : Int32) (wv_search_levels3_rowOf : List Int32) (wv_search_levels3_colOf : List Int32) (wv_search_levels3_below : List Int32) (wv_search_levels3_face : List Int32) (wv_search_levels3_worn : List Int32) (wv_search_levels3_last : List Int32) (wv_search_levels3_bend : List Int32) (wv_search_levels3_tall : List Int32) (wv_search_path : List Int32) (wv_search_best : List Int32) => gi_la v_wearing_size v_wearing_stepCount v_wearing_draftCount v_wearing_tape v_wearing_steps v_wearing_draft wv_wearing_stack ∧ gi_se wv_search_folds wv_search_path wv_search_best ∧ gi_sh wv_search_levels0_rows wv_search_levels0_cols wv_search_levels0_high wv_search_levels0_wide wv_search_levels0_rowOf wv_search_levels0_colOf wv_search_levels0_below wv_search_levels0_face wv_search_levels0_worn wv_search_levels0_last v_search_levels0_bend v_search_levels0_tall ∧ gi_sh wv_search_levels1_rows wv_search_levels1_cols wv_search_levels1_high wv_search_levels1_wide wv_search_levels1_rowOf wv_search_levels1_colOf wv_search_levels1_below wv_search_levels1_face wv_search_levels1_worn wv_search_levels1_last wv_search_levels1_bend wv_search_levels1_tall ∧ gi_sh wv_search_levels2_rows wv_search_levels2_cols wv_search_levels2_high wv_search_levels2_wide wv_search_levels2_rowOf wv_search_levels2_colOf wv_search_levels2_below wv_search_levels2_face wv_search_levels2_worn wv_search_levels2_last wv_search_levels2_bend wv_search_levels2_tall ∧ gi_sh wv_search_levels3_rows wv_search_levels3_cols wv_search_levels3_high wv_search_levels3_wide wv_search_levels3_rowOf wv_search_levels3_colOf wv_search_levels3_below wv_search_levels3_face wv_search_levels3_worn wv_search_levels3_last wv_search_levels3_bend wv_search_levels3_tall)) := by
  obtain ⟨a_0_0, a_0_1, a_0_2, a_0_3, a_0_4, a_0_5, a_0_6, a_0_7, a_0_8, a_0_9, a_0_10, a_0_11, a_0_12, a_0_13, a_0_14, a_0_15, a_0_16, a_0_17⟩ := id g_0
  obtain ⟨a_1_0, a_1_1, a_1_2, a_1_3, a_1_4, a_1_5, a_1_6, a_1_7, a_1_8, a_1_9⟩ := id g_1
  obtain ⟨a_2_0, a_2_1, a_2_2, a_2_3⟩ := id g_2
  obtain ⟨a_3_0, a_3_1, a_3_2, a_3_3, a_3_4, a_3_5, a_3_6, a_3_7, a_3_8, a_3_9, a_3_10, a_3_11, a_3_12, a_3_13, a_3_14, a_3_15, a_3_16, a_3_17⟩ := id g_3
  obtain ⟨a_4_0, a_4_1, a_4_2, a_4_3, a_4_4, a_4_5, a_4_6, a_4_7, a_4_8, a_4_9, a_4_10, a_4_11, a_4_12, a_4_13, a_4_14, a_4_15, a_4_16, a_4_17⟩ := id g_4
  obtain ⟨a_5_0, a_5_1, a_5_2, a_5_3, a_5_4, a_5_5, a_5_6, a_5_7, a_5_8, a_5_9, a_5_10, a_5_11, a_5_12, a_5_13, a_5_14, a_5_15, a_5_16, a_5_17⟩ := id g_5
  obtain ⟨a_6_0, a_6_1, a_6_2, a_6_3, a_6_4, a_6_5, a_6_6, a_6_7, a_6_8, a_6_9, a_6_10, a_6_11, a_6_12, a_6_13, a_6_14, a_6_15, a_6_16, a_6_17⟩ := id g_6
  refine wp_cu68 (sf_X8_right (Nat.le_refl 700) a_0_0 a_0_1 a_0_2 a_0_3 a_0_4 a_0_5 a_0_6 a_0_7 a_0_8 a_0_9 a_0_10 a_0_11 a_0_12 a_0_13 a_0_16 a_0_17 a_1_2 a_1_3 a_1_7 a_1_9 a_2_0 a_2_1 a_2_2 a_2_3 a_3_0 a_3_1 a_3_2 a_3_3 a_3_4 a_3_5 a_3_6 a_3_7 a_3_8 a_3_9 a_3_10 a_3_11 a_3_12 a_3_13 a_3_16 a_3_17 a_4_0 a_4_1 a_4_2 a_4_3 a_4_4 a_4_5 a_4_6 a_4_7 a_4_8 a_4_9 a_4_10 a_4_11 a_4_12 a_4_13 a_4_14 a_4_15 a_4_16 a_4_17 a_5_0 a_5_1 a_5_2 a_5_3 a_5_4 a_5_5 a_5_6 a_5_7 a_5_8 a_5_9 a_5_10 a_5_11 a_5_12 a_5_13 a_5_14 a_5_15 a_5_16 a_5_17 a_6_0 a_6_1 a_6_2 a_6_3 a_6_4 a_6_5 a_6_6 a_6_7 a_6_8 a_6_9 a_6_10 a_6_11 a_6_12 a_6_13 a_6_14 a_6_15 a_6_16 a_6_17) (fun r wv_wearing_stacked wv_wearing_stack wv_search_found wv_search_wrong wv_search_more wv_search_folds wv_search_wanted wv_search_levels0_rows wv_search_levels0_cols wv_search_levels0_high wv_search_levels0_wide wv_search_levels0_folds wv_search_levels0_wrong wv_search_levels0_more wv_search_levels0_rowOf wv_search_levels0_colOf wv_search_levels0_below wv_search_levels0_face wv_search_levels0_worn wv_search_levels0_last wv_search_levels1_rows wv_search_levels1_cols wv_search_levels1_high wv_search_levels1_wide wv_search_levels1_folds wv_search_levels1_wrong wv_search_levels1_more wv_search_levels1_rowOf wv_search_levels1_colOf wv_search_levels1_below wv_search_levels1_face wv_search_levels1_worn wv_search_levels1_last wv_search_levels1_bend wv_search_levels1_tall wv_search_levels2_rows wv_search_levels2_cols wv_search_levels2_high wv_search_levels2_wide wv_search_levels2_folds wv_search_levels2_wrong wv_search_levels2_more wv_search_levels2_rowOf wv_search_levels2_colOf wv_search_levels2_below wv_search_levels2_face wv_search_levels2_worn wv_search_levels2_last wv_search_levels2_bend wv_search_levels2_tall wv_search_levels3_rows wv_search_levels3_cols wv_search_levels3_high wv_search_levels3_wide wv_search_levels3_folds wv_search_levels3_wrong wv_search_levels3_more wv_search_levels3_rowOf wv_search_levels3_colOf wv_search_levels3_below wv_search_levels3_face wv_search_levels3_worn wv_search_levels3_last wv_search_levels3_bend wv_search_levels3_tall wv_search_path wv_search_best ⟨q_0, q_1, q_2, q_3, q_4, q_5, q_6, q_7, q_8, q_9, q_10, q_11, q_12, q_13, q_14, q_15, q_16, q_17, q_18, q_19, q_20, q_21, q_22, q_23, q_24, q_25, q_26, q_27, q_28, q_29, q_30, q_31, q_32, q_33, q_34, q_35, q_36, q_37, q_38, q_39, q_40, q_41, q_42, q_43, q_44, q_45, q_46, q_47, q_48, q_49, q_50, q_51, q_52, q_53, q_54, q_55, q_56, q_57, q_58, q_59, q_60, q_61, q_62, q_63, q_64, q_65, q_66, q_67, q_68, q_69, q_70, q_71, q_72, q_73, q_74⟩ => ?_)
  exact ⟨⟨a_1_0, a_1_1, a_1_2, a_1_3, a_1_4, a_1_5, a_1_6, a_1_7, a_1_8, q_0⟩, ⟨q_1, q_2, q_3, q_4⟩, ⟨q_5, q_6, q_7, q_8, q_9, q_10, q_11, q_12, q_13, q_14, q_15, q_16, q_17, q_18, a_3_14, a_3_15, q_19, q_20⟩, ⟨q_21, q_22, q_23, q_24, q_25, q_26, q_27, q_28, q_29, q_30, q_31, q_32, q_33, q_34, q_35, q_36, q_37, q_38⟩, ⟨q_39, q_40, q_41, q_42, q_43, q_44, q_45, q_46, q_47, q_48, q_49, q_50, q_51, q_52, q_53, q_54, q_55, q_56⟩, ⟨q_57, q_58, q_59, q_60, q_61, q_62, q_63, q_64, q_65, q_66, q_67, q_68, q_69, q_70, q_71, q_72, q_73, q_74⟩⟩
set_option maxHeartbeats 4000000 in
set_option maxRecDepth 20000 in
theorem st8_wind {x1 : Int32} {x2 : Int32} {x3 : Int32} {v_now_rows : Int32} {v_now_cols : Int32} {v_now_high : Int32} {v_now_wide : Int32} {v_now_folds : Int32} {v_now_wrong : Int32} {v_now_more : Int32} {v_now_rowOf : List Int32} {v_now_colOf : List Int32} {v_now_below : List Int32} {v_now_face : List Int32} {v_now_worn : List Int32} {v_now_last : List Int32} {v_wearing_stepCount : Int32} {v_wearing_stacked : Int32} {v_wearing_steps : List Int32} {v_wearing_stack : List Int32} {v_planned_size : Int32} {v_planned_trial_rows : Int32} {v_planned_trial_cols : Int32} {v_planned_trial_high : Int32} {v_planned_trial_wide : Int32} {v_planned_trial_folds : Int32} {v_planned_trial_wrong : Int32} {v_planned_trial_more : Int32} {v_planned_trial_rowOf : List Int32} {v_planned_trial_colOf : List Int32} {v_planned_trial_below : List Int32} {v_planned_trial_face : List Int32} {v_planned_trial_worn : List Int32} {v_planned_trial_last : List Int32} {v_planned_trial_bend : List Int32} {v_planned_trial_tall : List Int32} {v_planned_lines : List Int32} {v_planned_ways : List Int32} {v_changes_value : Int32} {v_now_bend : List Int32} {v_now_tall : List Int32} {v_wearing_size : Int32} {v_wearing_draftCount : Int32} {v_wearing_tape : List Int32} {v_wearing_draft : List Int32} (g_0 : gi_sh v_now_rows v_now_cols v_now_high v_now_wide v_now_rowOf v_now_colOf v_now_below v_now_face v_now_worn v_now_last v_now_bend v_now_tall) (g_1 : gi_la v_wearing_size v_wearing_stepCount v_wearing_draftCount v_wearing_tape v_wearing_steps v_wearing_draft v_wearing_stack) (g_2 : gi_pl v_planned_size v_planned_lines v_planned_ways) (g_3 : gi_sh v_planned_trial_rows v_planned_trial_cols v_planned_trial_high v_planned_trial_wide v_planned_trial_rowOf v_planned_trial_colOf v_planned_trial_below v_planned_trial_face v_planned_trial_worn v_planned_trial_last v_planned_trial_bend v_planned_trial_tall) : wp (fX8_wind 700 x1 x2 x3 v_now_rows v_now_cols v_now_high v_now_wide v_now_folds v_now_wrong v_now_more v_now_rowOf v_now_colOf v_now_below v_now_face v_now_worn v_now_last v_wearing_stepCount v_wearing_stacked v_wearing_steps v_wearing_stack v_planned_size v_planned_trial_rows v_planned_trial_cols v_planned_trial_high v_planned_trial_wide v_planned_trial_folds v_planned_trial_wrong v_planned_trial_more v_planned_trial_rowOf v_planned_trial_colOf v_planned_trial_below v_planned_trial_face v_planned_trial_worn v_planned_trial_last v_planned_trial_bend v_planned_trial_tall v_planned_lines v_planned_ways v_changes_value) (cu18 (fun (r : Int32) (wv_wearing_stacked : Int32) (wv_wearing_stack : List Int32) (wv_planned_trial_rows : Int32) (wv_planned_trial_cols : Int32) (wv_planned_trial_high : Int32) (wv_planned_trial_wide : Int32) (wv_planned_trial_folds : Int32) (wv_planned_trial_wrong : Int32) (wv_planned_trial_more : Int32) (wv_planned_trial_rowOf : List Int32) (wv_planned_trial_colOf : List Int32) (wv_planned_trial_below : List Int32) (wv_planned_trial_face : List Int32) (wv_planned_trial_worn : List Int32) (wv_planned_trial_last : List Int32) (wv_planned_trial_bend : List Int32) (wv_planned_trial_tall : List Int32) => gi_la v_wearing_size v_wearing_stepCount v_wearing_draftCount v_wearing_tape v_wearing_steps v_wearing_draft wv_wearing_stack ∧ gi_sh wv_planned_trial_rows wv_planned_trial_cols wv_planned_trial_high wv_planned_trial_wide wv_planned_trial_rowOf wv_planned_trial_colOf wv_planned_trial_below wv_planned_trial_face wv_planned_trial_worn wv_planned_trial_last wv_planned_trial_bend wv_planned_trial_tall)) := by
  obtain ⟨a_0_0, a_0_1, a_0_2, a_0_3, a_0_4, a_0_5, a_0_6, a_0_7, a_0_8, a_0_9, a_0_10, a_0_11, a_0_12, a_0_13, a_0_14, a_0_15, a_0_16, a_0_17⟩ := id g_0
  obtain ⟨a_1_0, a_1_1, a_1_2, a_1_3, a_1_4, a_1_5, a_1_6, a_1_7, a_1_8, a_1_9⟩ := id g_1
  obtain ⟨a_2_0, a_2_1, a_2_2, a_2_3⟩ := id g_2
  obtain ⟨a_3_0, a_3_1, a_3_2, a_3_3, a_3_4, a_3_5, a_3_6, a_3_7, a_3_8, a_3_9, a_3_10, a_3_11, a_3_12, a_3_13, a_3_14, a_3_15, a_3_16, a_3_17⟩ := id g_3
  refine wp_cu18 (sf_X8_wind (Nat.le_refl 700) a_0_0 a_0_1 a_0_2 a_0_3 a_0_4 a_0_5 a_0_6 a_0_7 a_0_8 a_0_9 a_0_10 a_0_11 a_0_12 a_0_13 a_0_16 a_0_17 a_1_2 a_1_3 a_1_7 a_1_9 a_2_0 a_2_1 a_2_2 a_2_3 a_3_0 a_3_1 a_3_2 a_3_3 a_3_4 a_3_5 a_3_6 a_3_7 a_3_8 a_3_9 a_3_10 a_3_11 a_3_12 a_3_13 a_3_14 a_3_15 a_3_16 a_3_17) (fun r wv_wearing_stacked wv_wearing_stack wv_planned_trial_rows wv_planned_trial_cols wv_planned_trial_high wv_planned_trial_wide wv_planned_trial_folds wv_planned_trial_wrong wv_planned_trial_more wv_planned_trial_rowOf wv_planned_trial_colOf wv_planned_trial_below wv_planned_trial_face wv_planned_trial_worn wv_planned_trial_last wv_planned_trial_bend wv_planned_trial_tall ⟨q_0, q_1, q_2, q_3, q_4, q_5, q_6, q_7, q_8, q_9, q_10, q_11, q_12, q_13, q_14, q_15, q_16, q_17, q_18⟩ => ?_)
  exact ⟨⟨a_1_0, a_1_1, a_1_2, a_1_3, a_1_4, a_1_5, a_1_6, a_1_7, a_1_8, q_0⟩, ⟨q_1, q_2, q_3, q_4, q_5, q_6, q_7, q_8, q_9, q_10, q_11, q_12, q_13, q_14, q_15, q_16, q_17, q_18⟩⟩
set_option maxHeartbeats 4000000 in
set_option maxRecDepth 20000 in
theorem st8_crosses {x1 : Int32} {x2 : Int32} {v_strip_at : List Int32} {v_strip_list : List Int32} {v_strip_found : List Int32} (g_0 : gi_st v_strip_at v_strip_list v_strip_found) : wp (fX8_crosses 700 x1 x2 v_strip_at) (cu2 (fun (r : Int32) (wv_strip_at : List Int32) => gi_st wv_strip_at v_strip_list v_strip_found)) := by
  obtain ⟨a_0_0, a_0_1, a_0_2, a_0_3⟩ := id g_0
  refine wp_cu2 (sf_X8_crosses (Nat.le_refl 700) a_0_0) (fun r wv_strip_at q_0 => ?_)
  exact ⟨q_0, a_0_1, a_0_2, a_0_3⟩
set_option maxHeartbeats 4000000 in
set_option maxRecDepth 20000 in
theorem st8_orders {x1 : Int32} {x2 : Int32} {v_strip_list : List Int32} {v_strip_found : List Int32} {v_strip_at : List Int32} (g_0 : gi_st v_strip_at v_strip_list v_strip_found) : wp (fX8_orders 700 x1 x2 v_strip_list v_strip_found v_strip_at) (cu4 (fun (r : Int32) (wv_strip_list : List Int32) (wv_strip_found : List Int32) (wv_strip_at : List Int32) => gi_st wv_strip_at wv_strip_list wv_strip_found)) := by
  obtain ⟨a_0_0, a_0_1, a_0_2, a_0_3⟩ := id g_0
  refine wp_cu4 (sf_X8_orders (Nat.le_refl 700) a_0_1 a_0_2 a_0_0 a_0_3) (fun r wv_strip_list wv_strip_found wv_strip_at ⟨q_0, q_1, q_2, q_3⟩ => ?_)
  exact ⟨q_2, q_0, q_1, q_3⟩
set_option maxHeartbeats 4000000 in
set_option maxRecDepth 20000 in
theorem st8_bends {x1 : Int32} {x2 : Int32} {v_strip_at : List Int32} {v_strip_list : List Int32} {v_strip_found : List Int32} (g_0 : gi_st v_strip_at v_strip_list v_strip_found) : wp (fX8_bends 700 x1 x2 v_strip_at) (cu2 (fun (r : Int32) (wv_strip_at : List Int32) => gi_st wv_strip_at v_strip_list v_strip_found)) := by
  obtain ⟨a_0_0, a_0_1, a_0_2, a_0_3⟩ := id g_0
  refine wp_cu2 (sf_X8_bends (Nat.le_refl 700) a_0_0) (fun r wv_strip_at q_0 => ?_)
  exact ⟨q_0, a_0_1, a_0_2, a_0_3⟩
set_option maxHeartbeats 4000000 in
set_option maxRecDepth 20000 in
theorem st8_by {x1 : Int32} {x2 : Int32} {x3 : Int32} {v_strip_list : List Int32} {v_strip_found : List Int32} {v_strip_at : List Int32} (g_0 : gi_st v_strip_at v_strip_list v_strip_found) : wp (fX8_by 700 x1 x2 x3 v_strip_list v_strip_found v_strip_at) (cu4 (fun (r : Int32) (wv_strip_list : List Int32) (wv_strip_found : List Int32) (wv_strip_at : List Int32) => gi_st wv_strip_at wv_strip_list wv_strip_found)) := by
  obtain ⟨a_0_0, a_0_1, a_0_2, a_0_3⟩ := id g_0
  refine wp_cu4 (sf_X8_by (Nat.le_refl 700) a_0_1 a_0_2 a_0_0 a_0_3) (fun r wv_strip_list wv_strip_found wv_strip_at ⟨q_0, q_1, q_2, q_3⟩ => ?_)
  exact ⟨q_2, q_0, q_1, q_3⟩
set_option maxHeartbeats 4000000 in
set_option maxRecDepth 20000 in
theorem st8_with {x1 : Int32} {x2 : Int32} {v_strip_list : List Int32} {v_strip_found : List Int32} {v_strip_at : List Int32} (g_0 : gi_st v_strip_at v_strip_list v_strip_found) : wp (fX8_with 700 x1 x2 v_strip_list v_strip_found v_strip_at) (cu4 (fun (r : Int32) (wv_strip_list : List Int32) (wv_strip_found : List Int32) (wv_strip_at : List Int32) => gi_st wv_strip_at wv_strip_list wv_strip_found)) := by
  obtain ⟨a_0_0, a_0_1, a_0_2, a_0_3⟩ := id g_0
  refine wp_cu4 (sf_X8_with (Nat.le_refl 700) a_0_1 a_0_2 a_0_0 a_0_3) (fun r wv_strip_list wv_strip_found wv_strip_at ⟨q_0, q_1, q_2, q_3⟩ => ?_)
  exact ⟨q_2, q_0, q_1, q_3⟩
set_option maxHeartbeats 4000000 in
set_option maxRecDepth 20000 in
theorem st8_image {v_hasImage : Bool} {v_now_rows : Int32} {v_now_cols : Int32} {v_now_high : Int32} {v_now_wide : Int32} {v_now_folds : Int32} {v_now_wrong : Int32} {v_now_more : Int32} {v_now_rowOf : List Int32} {v_now_colOf : List Int32} {v_now_below : List Int32} {v_now_face : List Int32} {v_now_worn : List Int32} {v_now_last : List Int32} {v_kept_rows : Int32} {v_kept_cols : Int32} {v_kept_high : Int32} {v_kept_wide : Int32} {v_kept_folds : Int32} {v_kept_wrong : Int32} {v_kept_more : Int32} {v_kept_rowOf : List Int32} {v_kept_colOf : List Int32} {v_kept_below : List Int32} {v_kept_face : List Int32} {v_kept_worn : List Int32} {v_kept_last : List Int32} {v_now_bend : List Int32} {v_now_tall : List Int32} {v_kept_bend : List Int32} {v_kept_tall : List Int32} (g_0 : gi_sh v_now_rows v_now_cols v_now_high v_now_wide v_now_rowOf v_now_colOf v_now_below v_now_face v_now_worn v_now_last v_now_bend v_now_tall) (g_1 : gi_sh v_kept_rows v_kept_cols v_kept_high v_kept_wide v_kept_rowOf v_kept_colOf v_kept_below v_kept_face v_kept_worn v_kept_last v_kept_bend v_kept_tall) : wp (fX8_image 700 v_hasImage v_now_rows v_now_cols v_now_high v_now_wide v_now_folds v_now_wrong v_now_more v_now_rowOf v_now_colOf v_now_below v_now_face v_now_worn v_now_last v_kept_rows v_kept_cols v_kept_high v_kept_wide v_kept_folds v_kept_wrong v_kept_more v_kept_rowOf v_kept_colOf v_kept_below v_kept_face v_kept_worn v_kept_last) (cu15 (fun (r : Int32) (wv_hasImage : Bool) (wv_kept_rows : Int32) (wv_kept_cols : Int32) (wv_kept_high : Int32) (wv_kept_wide : Int32) (wv_kept_folds : Int32) (wv_kept_wrong : Int32) (wv_kept_more : Int32) (wv_kept_rowOf : List Int32) (wv_kept_colOf : List Int32) (wv_kept_below : List Int32) (wv_kept_face : List Int32) (wv_kept_worn : List Int32) (wv_kept_last : List Int32) => gi_sh wv_kept_rows wv_kept_cols wv_kept_high wv_kept_wide wv_kept_rowOf wv_kept_colOf wv_kept_below wv_kept_face wv_kept_worn wv_kept_last v_kept_bend v_kept_tall)) := by
  obtain ⟨a_0_0, a_0_1, a_0_2, a_0_3, a_0_4, a_0_5, a_0_6, a_0_7, a_0_8, a_0_9, a_0_10, a_0_11, a_0_12, a_0_13, a_0_14, a_0_15, a_0_16, a_0_17⟩ := id g_0
  obtain ⟨a_1_0, a_1_1, a_1_2, a_1_3, a_1_4, a_1_5, a_1_6, a_1_7, a_1_8, a_1_9, a_1_10, a_1_11, a_1_12, a_1_13, a_1_14, a_1_15, a_1_16, a_1_17⟩ := id g_1
  refine wp_cu15 (sf_X8_image (Nat.le_refl 700) a_0_0 a_0_1 a_0_2 a_0_3 a_0_4 a_0_5 a_0_6 a_0_7 a_0_8 a_0_9 a_0_10 a_0_11 a_0_12 a_0_13 a_0_16 a_0_17 a_1_0 a_1_1 a_1_2 a_1_3 a_1_4 a_1_5 a_1_6 a_1_7 a_1_8 a_1_9 a_1_10 a_1_11 a_1_12 a_1_13 a_1_16 a_1_17) (fun r wv_hasImage wv_kept_rows wv_kept_cols wv_kept_high wv_kept_wide wv_kept_folds wv_kept_wrong wv_kept_more wv_kept_rowOf wv_kept_colOf wv_kept_below wv_kept_face wv_kept_worn wv_kept_last ⟨q_0, q_1, q_2, q_3, q_4, q_5, q_6, q_7, q_8, q_9, q_10, q_11, q_12, q_13, q_14, q_15⟩ => ?_)
  exact ⟨q_0, q_1, q_2, q_3, q_4, q_5, q_6, q_7, q_8, q_9, q_10, q_11, q_12, q_13, a_1_14, a_1_15, q_14, q_15⟩
set_option maxHeartbeats 4000000 in
set_option maxRecDepth 20000 in
theorem st8_back {v_hasImage : Bool} {v_now_rows : Int32} {v_now_cols : Int32} {v_now_high : Int32} {v_now_wide : Int32} {v_now_folds : Int32} {v_now_wrong : Int32} {v_now_more : Int32} {v_now_rowOf : List Int32} {v_now_colOf : List Int32} {v_now_below : List Int32} {v_now_face : List Int32} {v_now_worn : List Int32} {v_now_last : List Int32} {v_kept_rows : Int32} {v_kept_cols : Int32} {v_kept_high : Int32} {v_kept_wide : Int32} {v_kept_folds : Int32} {v_kept_wrong : Int32} {v_kept_more : Int32} {v_kept_rowOf : List Int32} {v_kept_colOf : List Int32} {v_kept_below : List Int32} {v_kept_face : List Int32} {v_kept_worn : List Int32} {v_kept_last : List Int32} {v_now_bend : List Int32} {v_now_tall : List Int32} {v_kept_bend : List Int32} {v_kept_tall : List Int32} (g_0 : gi_sh v_now_rows v_now_cols v_now_high v_now_wide v_now_rowOf v_now_colOf v_now_below v_now_face v_now_worn v_now_last v_now_bend v_now_tall) (g_1 : gi_sh v_kept_rows v_kept_cols v_kept_high v_kept_wide v_kept_rowOf v_kept_colOf v_kept_below v_kept_face v_kept_worn v_kept_last v_kept_bend v_kept_tall) : wp (fX8_back 700 v_hasImage v_now_rows v_now_cols v_now_high v_now_wide v_now_folds v_now_wrong v_now_more v_now_rowOf v_now_colOf v_now_below v_now_face v_now_worn v_now_last v_kept_rows v_kept_cols v_kept_high v_kept_wide v_kept_folds v_kept_wrong v_kept_more v_kept_rowOf v_kept_colOf v_kept_below v_kept_face v_kept_worn v_kept_last) (cu14 (fun (r : Int32) (wv_now_rows : Int32) (wv_now_cols : Int32) (wv_now_high : Int32) (wv_now_wide : Int32) (wv_now_folds : Int32) (wv_now_wrong : Int32) (wv_now_more : Int32) (wv_now_rowOf : List Int32) (wv_now_colOf : List Int32) (wv_now_below : List Int32) (wv_now_face : List Int32) (wv_now_worn : List Int32) (wv_now_last : List Int32) => gi_sh wv_now_rows wv_now_cols wv_now_high wv_now_wide wv_now_rowOf wv_now_colOf wv_now_below wv_now_face wv_now_worn wv_now_last v_now_bend v_now_tall)) := by
  obtain ⟨a_0_0, a_0_1, a_0_2, a_0_3, a_0_4, a_0_5, a_0_6, a_0_7, a_0_8, a_0_9, a_0_10, a_0_11, a_0_12, a_0_13, a_0_14, a_0_15, a_0_16, a_0_17⟩ := id g_0
  obtain ⟨a_1_0, a_1_1, a_1_2, a_1_3, a_1_4, a_1_5, a_1_6, a_1_7, a_1_8, a_1_9, a_1_10, a_1_11, a_1_12, a_1_13, a_1_14, a_1_15, a_1_16, a_1_17⟩ := id g_1
  refine wp_cu14 (sf_X8_back (Nat.le_refl 700) a_0_0 a_0_1 a_0_2 a_0_3 a_0_4 a_0_5 a_0_6 a_0_7 a_0_8 a_0_9 a_0_10 a_0_11 a_0_12 a_0_13 a_0_16 a_0_17 a_1_0 a_1_1 a_1_2 a_1_3 a_1_4 a_1_5 a_1_6 a_1_7 a_1_8 a_1_9 a_1_10 a_1_11 a_1_12 a_1_13 a_1_16 a_1_17) (fun r wv_now_rows wv_now_cols wv_now_high wv_now_wide wv_now_folds wv_now_wrong wv_now_more wv_now_rowOf wv_now_colOf wv_now_below wv_now_face wv_now_worn wv_now_last ⟨q_0, q_1, q_2, q_3, q_4, q_5, q_6, q_7, q_8, q_9, q_10, q_11, q_12, q_13, q_14, q_15⟩ => ?_)
  exact ⟨q_0, q_1, q_2, q_3, q_4, q_5, q_6, q_7, q_8, q_9, q_10, q_11, q_12, q_13, a_0_14, a_0_15, q_14, q_15⟩
set_option maxHeartbeats 4000000 in
set_option maxRecDepth 20000 in
theorem st8_undo {v_changes_value : Int32} {v_changes_done : Int32} {v_changes_before : List Int32} {v_changes_size : Int32} {v_changes_after : List Int32} (g_0 : gi_ch v_changes_done v_changes_size v_changes_before v_changes_after) : wp (fX8_undo 700 v_changes_value v_changes_done v_changes_before) (cu3 (fun (r : Int32) (wv_changes_value : Int32) (wv_changes_done : Int32) => gi_ch wv_changes_done v_changes_size v_changes_before v_changes_after)) := by
  obtain ⟨a_0_0, a_0_1, a_0_2, a_0_3, a_0_4, a_0_5⟩ := id g_0
  refine wp_cu3 (sf_X8_undo (Nat.le_refl 700) a_0_0 a_0_1 a_0_4) (fun r wv_changes_value wv_changes_done ⟨q_0, q_1⟩ => ?_)
  exact ⟨q_0, q_1, a_0_2, a_0_3, a_0_4, a_0_5⟩
set_option maxHeartbeats 4000000 in
set_option maxRecDepth 20000 in
theorem st8_redo {v_changes_value : Int32} {v_changes_done : Int32} {v_changes_size : Int32} {v_changes_after : List Int32} {v_changes_before : List Int32} (g_0 : gi_ch v_changes_done v_changes_size v_changes_before v_changes_after) : wp (fX8_redo 700 v_changes_value v_changes_done v_changes_size v_changes_after) (cu3 (fun (r : Int32) (wv_changes_value : Int32) (wv_changes_done : Int32) => gi_ch wv_changes_done v_changes_size v_changes_before v_changes_after)) := by
  obtain ⟨a_0_0, a_0_1, a_0_2, a_0_3, a_0_4, a_0_5⟩ := id g_0
  refine wp_cu3 (sf_X8_redo (Nat.le_refl 700) a_0_0 a_0_1 a_0_2 a_0_3 a_0_5) (fun r wv_changes_value wv_changes_done ⟨q_0, q_1⟩ => ?_)
  exact ⟨q_0, q_1, a_0_2, a_0_3, a_0_4, a_0_5⟩
set_option maxHeartbeats 4000000 in
set_option maxRecDepth 20000 in
theorem st8_body {x1 : Int32} {v_foldings_size : Int32} {v_foldings_kinds : List Int32} {v_foldings_trace : List Int32} (g_0 : gi_fo v_foldings_size v_foldings_kinds v_foldings_trace) : wp (fX8_body 700 x1 v_foldings_size v_foldings_kinds) (cu3 (fun (r : Int32) (wv_foldings_size : Int32) (wv_foldings_kinds : List Int32) => gi_fo wv_foldings_size wv_foldings_kinds v_foldings_trace)) := by
  obtain ⟨a_0_0, a_0_1, a_0_2, a_0_3, a_0_4⟩ := id g_0
  refine wp_cu3 (sf_X8_body (Nat.le_refl 700) a_0_0 a_0_1 a_0_2 a_0_4) (fun r wv_foldings_size wv_foldings_kinds ⟨q_0, q_1, q_2, q_3⟩ => ?_)
  exact ⟨q_0, q_1, q_2, a_0_3, q_3⟩
set_option maxHeartbeats 4000000 in
set_option maxRecDepth 20000 in
theorem st8_trace {x1 : Int32} {v_foldings_ran : Int32} {v_foldings_trace : List Int32} {v_foldings_size : Int32} {v_foldings_kinds : List Int32} (g_0 : gi_fo v_foldings_size v_foldings_kinds v_foldings_trace) : wp (fX8_trace 700 x1 v_foldings_ran v_foldings_trace) (fun (r : Int32) => True) := by
  obtain ⟨a_0_0, a_0_1, a_0_2, a_0_3, a_0_4⟩ := id g_0
  refine wp_cu1 (sf_X8_trace (Nat.le_refl 700) a_0_3) (fun r _ => ?_)
  exact trivial
set_option maxHeartbeats 4000000 in
set_option maxRecDepth 20000 in
theorem st8_keep {x1 : Int32} {x2 : Int32} {v_foldings_size : Int32} {v_shelves0_holds : Int32} {v_shelves0_body : Int32} {v_shelves1_holds : Int32} {v_shelves1_body : Int32} {v_shelves2_holds : Int32} {v_shelves2_body : Int32} {v_shelves3_holds : Int32} {v_shelves3_body : Int32} {v_shelves4_holds : Int32} {v_shelves4_body : Int32} {v_shelves5_holds : Int32} {v_shelves5_body : Int32} {v_foldings_kinds : List Int32} {v_foldings_trace : List Int32} (g_0 : gi_fo v_foldings_size v_foldings_kinds v_foldings_trace) : wp (fX8_keep 700 x1 x2 v_foldings_size v_shelves0_holds v_shelves0_body v_shelves1_holds v_shelves1_body v_shelves2_holds v_shelves2_body v_shelves3_holds v_shelves3_body v_shelves4_holds v_shelves4_body v_shelves5_holds v_shelves5_body) (cu13 (fun (r : Int32) (wv_shelves0_holds : Int32) (wv_shelves0_body : Int32) (wv_shelves1_holds : Int32) (wv_shelves1_body : Int32) (wv_shelves2_holds : Int32) (wv_shelves2_body : Int32) (wv_shelves3_holds : Int32) (wv_shelves3_body : Int32) (wv_shelves4_holds : Int32) (wv_shelves4_body : Int32) (wv_shelves5_holds : Int32) (wv_shelves5_body : Int32) => True)) := by
  obtain ⟨a_0_0, a_0_1, a_0_2, a_0_3, a_0_4⟩ := id g_0
  refine wp_cu13 (sf_X8_keep (Nat.le_refl 700) a_0_0 a_0_1) (fun r wv_shelves0_holds wv_shelves0_body wv_shelves1_holds wv_shelves1_body wv_shelves2_holds wv_shelves2_body wv_shelves3_holds wv_shelves3_body wv_shelves4_holds wv_shelves4_body wv_shelves5_holds wv_shelves5_body _ => ?_)
  exact trivial
set_option maxHeartbeats 4000000 in
set_option maxRecDepth 20000 in
theorem st8_row {x1 : Int32} {x2 : Int32} {x3 : Int32} {v_shelves0_holds : Int32} {v_shelves0_sort : Int32} {v_shelves0_size : Int32} {v_shelves0_items : List Int64} {v_shelves1_holds : Int32} {v_shelves1_sort : Int32} {v_shelves1_size : Int32} {v_shelves1_items : List Int64} {v_shelves2_holds : Int32} {v_shelves2_sort : Int32} {v_shelves2_size : Int32} {v_shelves2_items : List Int64} {v_shelves3_holds : Int32} {v_shelves3_sort : Int32} {v_shelves3_size : Int32} {v_shelves3_items : List Int64} {v_shelves4_holds : Int32} {v_shelves4_sort : Int32} {v_shelves4_size : Int32} {v_shelves4_items : List Int64} {v_shelves5_holds : Int32} {v_shelves5_sort : Int32} {v_shelves5_size : Int32} {v_shelves5_items : List Int64} (g_0 : gi_sf v_shelves0_size v_shelves0_items) (g_1 : gi_sf v_shelves1_size v_shelves1_items) (g_2 : gi_sf v_shelves2_size v_shelves2_items) (g_3 : gi_sf v_shelves3_size v_shelves3_items) (g_4 : gi_sf v_shelves4_size v_shelves4_items) (g_5 : gi_sf v_shelves5_size v_shelves5_items) : wp (fX8_row 700 x1 x2 x3 v_shelves0_holds v_shelves0_sort v_shelves0_size v_shelves0_items v_shelves1_holds v_shelves1_sort v_shelves1_size v_shelves1_items v_shelves2_holds v_shelves2_sort v_shelves2_size v_shelves2_items v_shelves3_holds v_shelves3_sort v_shelves3_size v_shelves3_items v_shelves4_holds v_shelves4_sort v_shelves4_size v_shelves4_items v_shelves5_holds v_shelves5_sort v_shelves5_size v_shelves5_items) (cu25 (fun (r : Int32) (wv_shelves0_holds : Int32) (wv_shelves0_sort : Int32) (wv_shelves0_size : Int32) (wv_shelves0_items : List Int64) (wv_shelves1_holds : Int32) (wv_shelves1_sort : Int32) (wv_shelves1_size : Int32) (wv_shelves1_items : List Int64) (wv_shelves2_holds : Int32) (wv_shelves2_sort : Int32) (wv_shelves2_size : Int32) (wv_shelves2_items : List Int64) (wv_shelves3_holds : Int32) (wv_shelves3_sort : Int32) (wv_shelves3_size : Int32) (wv_shelves3_items : List Int64) (wv_shelves4_holds : Int32) (wv_shelves4_sort : Int32) (wv_shelves4_size : Int32) (wv_shelves4_items : List Int64) (wv_shelves5_holds : Int32) (wv_shelves5_sort : Int32) (wv_shelves5_size : Int32) (wv_shelves5_items : List Int64) => gi_sf wv_shelves0_size wv_shelves0_items ∧ gi_sf wv_shelves1_size wv_shelves1_items ∧ gi_sf wv_shelves2_size wv_shelves2_items ∧ gi_sf wv_shelves3_size wv_shelves3_items ∧ gi_sf wv_shelves4_size wv_shelves4_items ∧ gi_sf wv_shelves5_size wv_shelves5_items)) := by
  obtain ⟨a_0_0, a_0_1, a_0_2⟩ := id g_0
  obtain ⟨a_1_0, a_1_1, a_1_2⟩ := id g_1
  obtain ⟨a_2_0, a_2_1, a_2_2⟩ := id g_2
  obtain ⟨a_3_0, a_3_1, a_3_2⟩ := id g_3
  obtain ⟨a_4_0, a_4_1, a_4_2⟩ := id g_4
  obtain ⟨a_5_0, a_5_1, a_5_2⟩ := id g_5
  refine wp_cu25 (sf_X8_row (Nat.le_refl 700) a_0_0 a_0_1 a_0_2 a_1_0 a_1_1 a_1_2 a_2_0 a_2_1 a_2_2 a_3_0 a_3_1 a_3_2 a_4_0 a_4_1 a_4_2 a_5_0 a_5_1 a_5_2) (fun r wv_shelves0_holds wv_shelves0_sort wv_shelves0_size wv_shelves0_items wv_shelves1_holds wv_shelves1_sort wv_shelves1_size wv_shelves1_items wv_shelves2_holds wv_shelves2_sort wv_shelves2_size wv_shelves2_items wv_shelves3_holds wv_shelves3_sort wv_shelves3_size wv_shelves3_items wv_shelves4_holds wv_shelves4_sort wv_shelves4_size wv_shelves4_items wv_shelves5_holds wv_shelves5_sort wv_shelves5_size wv_shelves5_items ⟨q_0, q_1, q_2, q_3, q_4, q_5, q_6, q_7, q_8, q_9, q_10, q_11, q_12, q_13, q_14, q_15, q_16, q_17⟩ => ?_)
  exact ⟨⟨q_0, q_1, q_2⟩, ⟨q_3, q_4, q_5⟩, ⟨q_6, q_7, q_8⟩, ⟨q_9, q_10, q_11⟩, ⟨q_12, q_13, q_14⟩, ⟨q_15, q_16, q_17⟩⟩
set_option maxHeartbeats 4000000 in
set_option maxRecDepth 20000 in
theorem st8_put {x1 : Int32} {x2 : Int32} {x3 : Int64} {v_shelves0_holds : Int32} {v_shelves0_sort : Int32} {v_shelves0_size : Int32} {v_shelves0_items : List Int64} {v_shelves1_holds : Int32} {v_shelves1_sort : Int32} {v_shelves1_size : Int32} {v_shelves1_items : List Int64} {v_shelves2_holds : Int32} {v_shelves2_sort : Int32} {v_shelves2_size : Int32} {v_shelves2_items : List Int64} {v_shelves3_holds : Int32} {v_shelves3_sort : Int32} {v_shelves3_size : Int32} {v_shelves3_items : List Int64} {v_shelves4_holds : Int32} {v_shelves4_sort : Int32} {v_shelves4_size : Int32} {v_shelves4_items : List Int64} {v_shelves5_holds : Int32} {v_shelves5_sort : Int32} {v_shelves5_size : Int32} {v_shelves5_items : List Int64} (g_0 : gi_sf v_shelves0_size v_shelves0_items) (g_1 : gi_sf v_shelves1_size v_shelves1_items) (g_2 : gi_sf v_shelves2_size v_shelves2_items) (g_3 : gi_sf v_shelves3_size v_shelves3_items) (g_4 : gi_sf v_shelves4_size v_shelves4_items) (g_5 : gi_sf v_shelves5_size v_shelves5_items) : wp (fX8_put 700 x1 x2 x3 v_shelves0_holds v_shelves0_sort v_shelves0_size v_shelves0_items v_shelves1_holds v_shelves1_sort v_shelves1_size v_shelves1_items v_shelves2_holds v_shelves2_sort v_shelves2_size v_shelves2_items v_shelves3_holds v_shelves3_sort v_shelves3_size v_shelves3_items v_shelves4_holds v_shelves4_sort v_shelves4_size v_shelves4_items v_shelves5_holds v_shelves5_sort v_shelves5_size v_shelves5_items) (cu7 (fun (r : Int32) (wv_shelves0_items : List Int64) (wv_shelves1_items : List Int64) (wv_shelves2_items : List Int64) (wv_shelves3_items : List Int64) (wv_shelves4_items : List Int64) (wv_shelves5_items : List Int64) => gi_sf v_shelves0_size wv_shelves0_items ∧ gi_sf v_shelves1_size wv_shelves1_items ∧ gi_sf v_shelves2_size wv_shelves2_items ∧ gi_sf v_shelves3_size wv_shelves3_items ∧ gi_sf v_shelves4_size wv_shelves4_items ∧ gi_sf v_shelves5_size wv_shelves5_items)) := by
  obtain ⟨a_0_0, a_0_1, a_0_2⟩ := id g_0
  obtain ⟨a_1_0, a_1_1, a_1_2⟩ := id g_1
  obtain ⟨a_2_0, a_2_1, a_2_2⟩ := id g_2
  obtain ⟨a_3_0, a_3_1, a_3_2⟩ := id g_3
  obtain ⟨a_4_0, a_4_1, a_4_2⟩ := id g_4
  obtain ⟨a_5_0, a_5_1, a_5_2⟩ := id g_5
  refine wp_cu7 (sf_X8_put (Nat.le_refl 700) a_0_0 a_0_1 a_0_2 a_1_0 a_1_1 a_1_2 a_2_0 a_2_1 a_2_2 a_3_0 a_3_1 a_3_2 a_4_0 a_4_1 a_4_2 a_5_0 a_5_1 a_5_2) (fun r wv_shelves0_items wv_shelves1_items wv_shelves2_items wv_shelves3_items wv_shelves4_items wv_shelves5_items ⟨q_0, q_1, q_2, q_3, q_4, q_5⟩ => ?_)
  exact ⟨⟨a_0_0, a_0_1, q_0⟩, ⟨a_1_0, a_1_1, q_1⟩, ⟨a_2_0, a_2_1, q_2⟩, ⟨a_3_0, a_3_1, q_3⟩, ⟨a_4_0, a_4_1, q_4⟩, ⟨a_5_0, a_5_1, q_5⟩⟩
set_option maxHeartbeats 4000000 in
set_option maxRecDepth 20000 in
theorem st8_element {x1 : Int32} {x2 : Int32} {v_shelves0_holds : Int32} {v_shelves0_size : Int32} {v_shelves0_items : List Int64} {v_shelves1_holds : Int32} {v_shelves1_size : Int32} {v_shelves1_items : List Int64} {v_shelves2_holds : Int32} {v_shelves2_size : Int32} {v_shelves2_items : List Int64} {v_shelves3_holds : Int32} {v_shelves3_size : Int32} {v_shelves3_items : List Int64} {v_shelves4_holds : Int32} {v_shelves4_size : Int32} {v_shelves4_items : List Int64} {v_shelves5_holds : Int32} {v_shelves5_size : Int32} {v_shelves5_items : List Int64} (g_0 : gi_sf v_shelves0_size v_shelves0_items) (g_1 : gi_sf v_shelves1_size v_shelves1_items) (g_2 : gi_sf v_shelves2_size v_shelves2_items) (g_3 : gi_sf v_shelves3_size v_shelves3_items) (g_4 : gi_sf v_shelves4_size v_shelves4_items) (g_5 : gi_sf v_shelves5_size v_shelves5_items) : wp (fX8_element 700 x1 x2 v_shelves0_holds v_shelves0_size v_shelves0_items v_shelves1_holds v_shelves1_size v_shelves1_items v_shelves2_holds v_shelves2_size v_shelves2_items v_shelves3_holds v_shelves3_size v_shelves3_items v_shelves4_holds v_shelves4_size v_shelves4_items v_shelves5_holds v_shelves5_size v_shelves5_items) (fun (r : Int64) => True) := by
  obtain ⟨a_0_0, a_0_1, a_0_2⟩ := id g_0
  obtain ⟨a_1_0, a_1_1, a_1_2⟩ := id g_1
  obtain ⟨a_2_0, a_2_1, a_2_2⟩ := id g_2
  obtain ⟨a_3_0, a_3_1, a_3_2⟩ := id g_3
  obtain ⟨a_4_0, a_4_1, a_4_2⟩ := id g_4
  obtain ⟨a_5_0, a_5_1, a_5_2⟩ := id g_5
  refine wp_cu1 (sf_X8_element (Nat.le_refl 700) a_0_0 a_0_1 a_0_2 a_1_0 a_1_1 a_1_2 a_2_0 a_2_1 a_2_2 a_3_0 a_3_1 a_3_2 a_4_0 a_4_1 a_4_2 a_5_0 a_5_1 a_5_2) (fun r _ => ?_)
  exact trivial
set_option maxHeartbeats 4000000 in
set_option maxRecDepth 20000 in
theorem st8_shift {x1 : Int32} {x2 : Int32} {x3 : Int32} {x4 : Int32} {x5 : Int32} {v_shelves0_holds : Int32} {v_shelves0_sort : Int32} {v_shelves0_size : Int32} {v_shelves0_items : List Int64} {v_shelves1_holds : Int32} {v_shelves1_sort : Int32} {v_shelves1_size : Int32} {v_shelves1_items : List Int64} {v_shelves2_holds : Int32} {v_shelves2_sort : Int32} {v_shelves2_size : Int32} {v_shelves2_items : List Int64} {v_shelves3_holds : Int32} {v_shelves3_sort : Int32} {v_shelves3_size : Int32} {v_shelves3_items : List Int64} {v_shelves4_holds : Int32} {v_shelves4_sort : Int32} {v_shelves4_size : Int32} {v_shelves4_items : List Int64} {v_shelves5_holds : Int32} {v_shelves5_sort : Int32} {v_shelves5_size : Int32} {v_shelves5_items : List Int64} (g_0 : gi_sf v_shelves0_size v_shelves0_items) (g_1 : gi_sf v_shelves1_size v_shelves1_items) (g_2 : gi_sf v_shelves2_size v_shelves2_items) (g_3 : gi_sf v_shelves3_size v_shelves3_items) (g_4 : gi_sf v_shelves4_size v_shelves4_items) (g_5 : gi_sf v_shelves5_size v_shelves5_items) : wp (fX8_shift 700 x1 x2 x3 x4 x5 v_shelves0_holds v_shelves0_sort v_shelves0_size v_shelves0_items v_shelves1_holds v_shelves1_sort v_shelves1_size v_shelves1_items v_shelves2_holds v_shelves2_sort v_shelves2_size v_shelves2_items v_shelves3_holds v_shelves3_sort v_shelves3_size v_shelves3_items v_shelves4_holds v_shelves4_sort v_shelves4_size v_shelves4_items v_shelves5_holds v_shelves5_sort v_shelves5_size v_shelves5_items) (cu7 (fun (r : Int32) (wv_shelves0_items : List Int64) (wv_shelves1_items : List Int64) (wv_shelves2_items : List Int64) (wv_shelves3_items : List Int64) (wv_shelves4_items : List Int64) (wv_shelves5_items : List Int64) => gi_sf v_shelves0_size wv_shelves0_items ∧ gi_sf v_shelves1_size wv_shelves1_items ∧ gi_sf v_shelves2_size wv_shelves2_items ∧ gi_sf v_shelves3_size wv_shelves3_items ∧ gi_sf v_shelves4_size wv_shelves4_items ∧ gi_sf v_shelves5_size wv_shelves5_items)) := by
  obtain ⟨a_0_0, a_0_1, a_0_2⟩ := id g_0
  obtain ⟨a_1_0, a_1_1, a_1_2⟩ := id g_1
  obtain ⟨a_2_0, a_2_1, a_2_2⟩ := id g_2
  obtain ⟨a_3_0, a_3_1, a_3_2⟩ := id g_3
  obtain ⟨a_4_0, a_4_1, a_4_2⟩ := id g_4
  obtain ⟨a_5_0, a_5_1, a_5_2⟩ := id g_5
  refine wp_cu7 (sf_X8_shift (Nat.le_refl 700) a_0_0 a_0_1 a_0_2 a_1_0 a_1_1 a_1_2 a_2_0 a_2_1 a_2_2 a_3_0 a_3_1 a_3_2 a_4_0 a_4_1 a_4_2 a_5_0 a_5_1 a_5_2) (fun r wv_shelves0_items wv_shelves1_items wv_shelves2_items wv_shelves3_items wv_shelves4_items wv_shelves5_items ⟨q_0, q_1, q_2, q_3, q_4, q_5⟩ => ?_)
  exact ⟨⟨a_0_0, a_0_1, q_0⟩, ⟨a_1_0, a_1_1, q_1⟩, ⟨a_2_0, a_2_1, q_2⟩, ⟨a_3_0, a_3_1, q_3⟩, ⟨a_4_0, a_4_1, q_4⟩, ⟨a_5_0, a_5_1, q_5⟩⟩
set_option maxHeartbeats 4000000 in
set_option maxRecDepth 20000 in
theorem st8_taken {x1 : Int32} {x2 : Int32} {v_foldings_size : Int32} {v_foldings_kinds : List Int32} {v_shelves0_holds : Int32} {v_shelves0_body : Int32} {v_shelves1_holds : Int32} {v_shelves1_body : Int32} {v_shelves2_holds : Int32} {v_shelves2_body : Int32} {v_shelves3_holds : Int32} {v_shelves3_body : Int32} {v_shelves4_holds : Int32} {v_shelves4_body : Int32} {v_shelves5_holds : Int32} {v_shelves5_body : Int32} {v_foldings_trace : List Int32} (g_0 : gi_fo v_foldings_size v_foldings_kinds v_foldings_trace) : wp (fX8_taken 700 x1 x2 v_foldings_size v_foldings_kinds v_shelves0_holds v_shelves0_body v_shelves1_holds v_shelves1_body v_shelves2_holds v_shelves2_body v_shelves3_holds v_shelves3_body v_shelves4_holds v_shelves4_body v_shelves5_holds v_shelves5_body) (fun (r : Int32) => True) := by
  obtain ⟨a_0_0, a_0_1, a_0_2, a_0_3, a_0_4⟩ := id g_0
  refine wp_cu1 (sf_X8_taken (Nat.le_refl 700) a_0_0 a_0_1 a_0_2 a_0_4) (fun r _ => ?_)
  exact trivial
set_option maxHeartbeats 4000000 in
set_option maxRecDepth 20000 in
theorem st8_count {x1 : Int32} {v_now_rows : Int32} {v_now_cols : Int32} {v_wearing_size : Int32} {v_planned_size : Int32} {v_changes_done : Int32} {v_foldings_size : Int32} {v_foldings_ran : Int32} {v_now_high : Int32} {v_now_wide : Int32} {v_now_rowOf : List Int32} {v_now_colOf : List Int32} {v_now_below : List Int32} {v_now_face : List Int32} {v_now_worn : List Int32} {v_now_last : List Int32} {v_now_bend : List Int32} {v_now_tall : List Int32} {v_changes_size : Int32} {v_changes_before : List Int32} {v_changes_after : List Int32} {v_wearing_stepCount : Int32} {v_wearing_draftCount : Int32} {v_wearing_tape : List Int32} {v_wearing_steps : List Int32} {v_wearing_draft : List Int32} {v_wearing_stack : List Int32} {v_planned_lines : List Int32} {v_planned_ways : List Int32} {v_foldings_kinds : List Int32} {v_foldings_trace : List Int32} (g_0 : gi_sh v_now_rows v_now_cols v_now_high v_now_wide v_now_rowOf v_now_colOf v_now_below v_now_face v_now_worn v_now_last v_now_bend v_now_tall) (g_1 : gi_ch v_changes_done v_changes_size v_changes_before v_changes_after) (g_2 : gi_la v_wearing_size v_wearing_stepCount v_wearing_draftCount v_wearing_tape v_wearing_steps v_wearing_draft v_wearing_stack) (g_3 : gi_pl v_planned_size v_planned_lines v_planned_ways) (g_4 : gi_fo v_foldings_size v_foldings_kinds v_foldings_trace) : wp (fX8_count 700 x1 v_now_rows v_now_cols v_wearing_size v_planned_size v_changes_done v_foldings_size v_foldings_ran) (fun (r : Int32) => True) := by
  obtain ⟨a_0_0, a_0_1, a_0_2, a_0_3, a_0_4, a_0_5, a_0_6, a_0_7, a_0_8, a_0_9, a_0_10, a_0_11, a_0_12, a_0_13, a_0_14, a_0_15, a_0_16, a_0_17⟩ := id g_0
  obtain ⟨a_1_0, a_1_1, a_1_2, a_1_3, a_1_4, a_1_5⟩ := id g_1
  obtain ⟨a_2_0, a_2_1, a_2_2, a_2_3, a_2_4, a_2_5, a_2_6, a_2_7, a_2_8, a_2_9⟩ := id g_2
  obtain ⟨a_3_0, a_3_1, a_3_2, a_3_3⟩ := id g_3
  obtain ⟨a_4_0, a_4_1, a_4_2, a_4_3, a_4_4⟩ := id g_4
  refine wp_cu1 (sf_X8_count (Nat.le_refl 700) a_0_0 a_0_1 a_0_2 a_0_3 a_2_0 a_2_1 a_3_0 a_3_1 a_1_0 a_1_1 a_4_0 a_4_1) (fun r _ => ?_)
  exact trivial
end
section
/-! The reference: each call keeps the invariants -/

theorem sfb_X9_body {x1 : Int32} {v_bodies : Int32} {v_bodyKind : List Int32} (h_0 : 0 ≤ v_bodies.toInt) (h_1 : v_bodies.toInt ≤ 50) (h_2 : v_bodyKind.length = 50) (h_3 : zn v_bodyKind 0 v_bodies.toInt 0 8) : wp (fX9_body 700 x1 v_bodies v_bodyKind) (cu3 (fun (r : Int32) (wv_bodies : Int32) (wv_bodyKind : List Int32) => 0 ≤ wv_bodies.toInt ∧ wv_bodies.toInt ≤ 50 ∧ wv_bodyKind.length = 50 ∧ zn wv_bodyKind 0 wv_bodies.toInt 0 8)) := by
  unfold fX9_body
  have n_1 := i_64 x1
  have n_2 : (0 : Int64).toInt = 0 := by decide
  have n_3 : (7 : Int64).toInt = 7 := by decide
  have n_4 : (1 : Int32).toInt = 1 := by decide
  have n_5 : (50 : Int32).toInt = 50 := by decide
  refine wp_bd1 (sf_X9_within (Nat.le_refl 700)) (fun r q => ?_)
  rcases q with ⟨rfl, q0, q1⟩ | ⟨rfl, -⟩
  · refine wp_ifn (by decide) ?_
    refine wp_if (fun _ => wp_so3 ⟨h_0, h_1, h_2, h_3⟩) (fun c1 => ?_)
    have d1 : v_bodies.toInt < 50 := by
      have : v_bodies.toInt ≠ 50 := fun e => c1 (Int32.toInt_inj.mp (by omega))
      omega
    refine wp_ck (i_inb (by omega) (by omega)) ?_
    refine wp_nm (fun l hl => ?_)
    refine wp_nm (fun y hy => ?_)
    have e := i_addE hy.symm (by omega) (by omega)
    subst hl
    exact wp_so3 ⟨by omega, by omega, by rw [is_len]; exact h_2, zn_ext h_3 h_0 rfl (by omega) (by omega) (by omega)⟩
  · refine wp_ifp rfl ?_
    exact wp_so3 ⟨h_0, h_1, h_2, h_3⟩
theorem sb_X9_isBody {x1 : Int32} {v_bodies : Int32} (h_0 : 0 ≤ v_bodies.toInt) (h_1 : v_bodies.toInt ≤ 50) : wp (fX9_isBody 700 x1 v_bodies) (fun (r : Bool) => (r = true ∧ 0 ≤ x1.toInt ∧ x1.toInt < v_bodies.toInt) ∨ (r = false ∧ True)) := by
  unfold fX9_isBody
  have n_1 := i_64 x1
  have n_2 : (0 : Int64).toInt = 0 := by decide
  have n_4 : (1 : Int32).toInt = 1 := by decide
  have n_3 := i_64 (v_bodies - (1 : Int32))
  have e := i_subE (rfl : v_bodies - (1 : Int32) = _) (by omega) (by omega)
  refine wp_bd1 (sf_X9_within (Nat.le_refl 700)) (fun r q => ?_)
  rcases q with ⟨rfl, q0, q1⟩ | ⟨rfl, -⟩
  · exact wp_so1 (Or.inl ⟨rfl, by rw [n_1, n_2] at q0; exact q0, by rw [n_1, n_3, e, n_4] at q1; omega⟩)
  · exact wp_so1 (Or.inr ⟨rfl, trivial⟩)
theorem st9_act {x1 : Int32} {x2 : Int32} {x3 : Int32} {v_bodies : Int32} {v_ran : Int32} {v_ownKind : Int32} {v_ownNumber : Int32} {v_bodyKind : List Int32} {v_trace : List Int32} (g_0 : gm_bo v_bodies v_bodyKind v_trace) : wp (fX9_act 700 x1 x2 x3 v_bodies v_ran v_ownKind v_ownNumber v_bodyKind v_trace) (cu5 (fun (r : Int32) (wv_ran : Int32) (wv_ownKind : Int32) (wv_ownNumber : Int32) (wv_trace : List Int32) => gm_bo v_bodies v_bodyKind wv_trace)) := by
  obtain ⟨a_0, a_1, a_2, a_3, a_4⟩ := id g_0
  unfold fX9_act
  refine wp_bd1 (sb_X9_isBody a_0 a_1) (fun r q => ?_)
  rcases q with ⟨rfl, q0, q1⟩ | ⟨rfl, -⟩
  · refine wp_ifn (by decide) ?_
    refine wp_ck (i_inb (by omega) (by omega)) ?_
    refine wp_nm (fun y hy => ?_)
    have z := zn_get a_4 q0 q0 (by omega) (by omega)
    rw [← hy] at z
    have F : ∀ (t : List Int32), t.length = 24 → gm_bo v_bodies v_bodyKind t := fun t h => ⟨a_0, a_1, a_2, h, a_4⟩
    refine wp_if (fun _ => ?_) (fun _ => wp_if (fun _ => ?_) (fun _ => wp_if (fun _ => ?_) (fun _ => wp_if (fun _ => ?_) (fun _ => wp_so5 g_0))))
    · obtain ⟨r, c, t, -, e1, e3⟩ := ac_0 z.1 z.2 x3 x1 v_trace a_3
      exact wp_bd3 (R := fun (_ : Int32) (_ : Int32) (t : List Int32) => t.length = 24) ⟨(r, c, t), e1, e3⟩ (fun _ _ _ h => wp_so5 (F _ h))
    · obtain ⟨r, c, t, -, e1, e3⟩ := ac_1 z.1 z.2 x3 x1 v_trace a_3
      exact wp_bd3 (R := fun (_ : Int32) (_ : Int32) (t : List Int32) => t.length = 24) ⟨(r, c, t), e1, e3⟩ (fun _ _ _ h => wp_so5 (F _ h))
    · obtain ⟨r, c, t, -, e1, e3⟩ := ac_2 z.1 z.2 x3 x1 v_trace a_3
      exact wp_bd3 (R := fun (_ : Int32) (_ : Int32) (t : List Int32) => t.length = 24) ⟨(r, c, t), e1, e3⟩ (fun _ _ _ h => wp_so5 (F _ h))
    · obtain ⟨r, c, t, -, e1, e3⟩ := ac_3 z.1 z.2 x3 x1 v_trace a_3
      exact wp_bd3 (R := fun (_ : Int32) (_ : Int32) (t : List Int32) => t.length = 24) ⟨(r, c, t), e1, e3⟩ (fun _ _ _ h => wp_so5 (F _ h))
  · refine wp_ifp rfl ?_
    exact wp_so5 g_0
set_option maxHeartbeats 4000000 in
set_option maxRecDepth 20000 in
theorem st9_sheet {x1 : Int32} {v_rowsOf : Int32} {v_columnsOf : Int32} {v_folded : Int32} {v_wronged : Int32} {v_shapeRows : List Int32} {v_shapeColumns : List Int32} {v_row : List Int32} {v_column : List Int32} {v_below : List Int32} {v_face : List Int32} {v_worn : List Int32} {v_lastBend : List Int32} {v_isKept : Bool} {v_imageRows : Int32} {v_imageColumns : Int32} (g_0 : gm_sh v_rowsOf v_columnsOf v_isKept v_imageRows v_imageColumns v_shapeRows v_shapeColumns v_row v_column v_below v_face v_worn v_lastBend) : wp (fX9_sheet 700 x1 v_rowsOf v_columnsOf v_folded v_wronged v_shapeRows v_shapeColumns v_row v_column v_below v_face v_worn v_lastBend) (cu13 (fun (r : Int32) (wv_rowsOf : Int32) (wv_columnsOf : Int32) (wv_folded : Int32) (wv_wronged : Int32) (wv_shapeRows : List Int32) (wv_shapeColumns : List Int32) (wv_row : List Int32) (wv_column : List Int32) (wv_below : List Int32) (wv_face : List Int32) (wv_worn : List Int32) (wv_lastBend : List Int32) => gm_sh wv_rowsOf wv_columnsOf v_isKept v_imageRows v_imageColumns wv_shapeRows wv_shapeColumns wv_row wv_column wv_below wv_face wv_worn wv_lastBend)) := by
  obtain ⟨a_0_0, a_0_1, a_0_2, a_0_3, a_0_4, a_0_5, a_0_6, a_0_7, a_0_8, a_0_9, a_0_10, a_0_11, a_0_12, a_0_13⟩ := id g_0
  have n0 : (0 : Int32).toInt = 0 := by decide
  have n1 : (1 : Int32).toInt = 1 := by decide
  have n5 : (5 : Int32).toInt = 5 := by decide
  refine wp_cu13 (sf_X9_sheet (u_row := v_row) (u_col := v_column) (u_sR := v_shapeRows) (u_sC := v_shapeColumns) (A := 0) (B9 := 32) (a9 := 0) (b9 := 1) (Nat.le_refl 700) a_0_0 a_0_1 a_0_2 a_0_3 a_0_4 a_0_5 a_0_6 a_0_7 a_0_8 a_0_9 a_0_10 a_0_11 (fr_refl _ _ _) (fr_refl _ _ _) (fr_refl _ _ _) (fr_refl _ _ _) (by omega) (by omega) (by omega) (by omega) a_0_12) (fun r wv_rowsOf wv_columnsOf wv_folded wv_wronged wv_shapeRows wv_shapeColumns wv_row wv_column wv_below wv_face wv_worn wv_lastBend ⟨q_0, q_1, q_2, q_3, q_4, q_5, q_6, q_7, q_8, q_9, q_10, q_11, q_12, q_13, q_14, q_15, q_16⟩ => ?_)
  have l_5 : ¬ (v_isKept = false) → 1 ≤ v_imageRows.toInt ∧ v_imageRows.toInt ≤ 4 ∧ 1 ≤ v_imageColumns.toInt ∧ v_imageColumns.toInt ≤ 8 ∧ lv9 v_imageRows v_imageColumns wv_shapeRows wv_shapeColumns wv_row wv_column (5 : Int32) := fun hk => (by
    obtain ⟨j_0, j_1, j_2, j_3, j_4⟩ := a_0_13 hk
    exact ⟨j_0, j_1, j_2, j_3, lv9_fr j_4 q_14 q_15 q_12 q_13 (by omega) (by omega) (by omega) (by omega) (i_fl j_0 j_1 j_2 j_3).2.2⟩)
  exact ⟨q_0, q_1, q_2, q_3, q_4, q_5, q_6, q_7, q_8, q_9, q_10, q_11, q_16, l_5⟩
set_option maxHeartbeats 4000000 in
set_option maxRecDepth 20000 in
theorem st9_limit {x1 : Int32} {v_keptMany : Int32} {v_done : Int32} {v_limit : List Int32} {v_changeWas : List Int32} {v_changeIs : List Int32} (g_0 : gm_ch v_keptMany v_done v_limit v_changeWas v_changeIs) : wp (fX9_limit 700 x1 v_keptMany v_done v_limit v_changeWas v_changeIs) (cu6 (fun (r : Int32) (wv_keptMany : Int32) (wv_done : Int32) (wv_limit : List Int32) (wv_changeWas : List Int32) (wv_changeIs : List Int32) => gm_ch wv_keptMany wv_done wv_limit wv_changeWas wv_changeIs)) := by
  obtain ⟨a_0_0, a_0_1, a_0_2, a_0_3, a_0_4, a_0_5, a_0_6, a_0_7⟩ := id g_0
  refine wp_cu6 (sf_X9_limit (Nat.le_refl 700) a_0_0 a_0_1 a_0_2 a_0_3 a_0_4 a_0_5 a_0_6 a_0_7) (fun r wv_keptMany wv_done wv_limit wv_changeWas wv_changeIs ⟨q_0, q_1, q_2, q_3, q_4, q_5, q_6, q_7⟩ => ?_)
  exact ⟨q_0, q_1, q_2, q_3, q_4, q_5, q_6, q_7⟩
set_option maxHeartbeats 4000000 in
set_option maxRecDepth 20000 in
theorem st9_feed {x1 : Int32} {v_tapeMany : Int32} {v_tape : List Int32} {v_textMany : Int32} {v_text : List Int32} {v_names : List Int32} {v_bends : List Int32} {v_high : List Int32} {v_to : List Int32} {v_pileSize : List Int32} (g_0 : gm_tx v_tapeMany v_textMany v_tape v_text v_names v_bends v_high v_to v_pileSize) : wp (fX9_feed 700 x1 v_tapeMany v_tape) (cu3 (fun (r : Int32) (wv_tapeMany : Int32) (wv_tape : List Int32) => gm_tx wv_tapeMany v_textMany wv_tape v_text v_names v_bends v_high v_to v_pileSize)) := by
  obtain ⟨a_0_0, a_0_1, a_0_2, a_0_3, a_0_4, a_0_5, a_0_6, a_0_7, a_0_8, a_0_9, a_0_10⟩ := id g_0
  refine wp_cu3 (sf_X9_feed (Nat.le_refl 700) a_0_0 a_0_1 a_0_4) (fun r wv_tapeMany wv_tape ⟨q_0, q_1, q_2⟩ => ?_)
  exact ⟨q_0, q_1, a_0_2, a_0_3, q_2, a_0_5, a_0_6, a_0_7, a_0_8, a_0_9, a_0_10⟩
set_option maxHeartbeats 4000000 in
set_option maxRecDepth 20000 in
theorem st9_law {v_tapeMany : Int32} {v_textMany : Int32} {v_base : Int32} {v_at : Int32} {v_ends : Int32} {v_fault : Int32} {v_opened : Int32} {v_tape : List Int32} {v_text : List Int32} {v_names : List Int32} {v_bends : List Int32} {v_high : List Int32} {v_to : List Int32} {v_pileSize : List Int32} (g_0 : gm_tx v_tapeMany v_textMany v_tape v_text v_names v_bends v_high v_to v_pileSize) : wp (fX9_law 700 v_tapeMany v_textMany v_base v_at v_ends v_fault v_opened v_tape v_text v_names) (cu9 (fun (r : Int32) (wv_tapeMany : Int32) (wv_textMany : Int32) (wv_base : Int32) (wv_at : Int32) (wv_ends : Int32) (wv_fault : Int32) (wv_opened : Int32) (wv_text : List Int32) => gm_tx wv_tapeMany wv_textMany v_tape wv_text v_names v_bends v_high v_to v_pileSize)) := by
  obtain ⟨a_0_0, a_0_1, a_0_2, a_0_3, a_0_4, a_0_5, a_0_6, a_0_7, a_0_8, a_0_9, a_0_10⟩ := id g_0
  refine wp_cu9 (sf_X9_law (Nat.le_refl 700) a_0_0 a_0_1 a_0_2 a_0_3 a_0_4 a_0_5 a_0_6) (fun r wv_tapeMany wv_textMany wv_base wv_at wv_ends wv_fault wv_opened wv_text ⟨q_0, q_1, q_2, q_3, q_4⟩ => ?_)
  exact ⟨q_0, q_1, q_2, q_3, a_0_4, q_4, a_0_6, a_0_7, a_0_8, a_0_9, a_0_10⟩
set_option maxHeartbeats 4000000 in
set_option maxRecDepth 20000 in
theorem st9_fold {x1 : Int32} {x2 : Int32} {v_rowsOf : Int32} {v_columnsOf : Int32} {v_folded : Int32} {v_wronged : Int32} {v_textMany : Int32} {v_base : Int32} {v_at : Int32} {v_ends : Int32} {v_fault : Int32} {v_opened : Int32} {v_bentMany : Int32} {v_bentWrong : Int32} {v_moreWorn : Int32} {v_limit : List Int32} {v_shapeRows : List Int32} {v_shapeColumns : List Int32} {v_row : List Int32} {v_column : List Int32} {v_below : List Int32} {v_face : List Int32} {v_worn : List Int32} {v_lastBend : List Int32} {v_tape : List Int32} {v_text : List Int32} {v_names : List Int32} {v_bends : List Int32} {v_high : List Int32} {v_to : List Int32} {v_pileSize : List Int32} {v_keptMany : Int32} {v_done : Int32} {v_changeWas : List Int32} {v_changeIs : List Int32} {v_isKept : Bool} {v_imageRows : Int32} {v_imageColumns : Int32} {v_tapeMany : Int32} (g_0 : gm_ch v_keptMany v_done v_limit v_changeWas v_changeIs) (g_1 : gm_sh v_rowsOf v_columnsOf v_isKept v_imageRows v_imageColumns v_shapeRows v_shapeColumns v_row v_column v_below v_face v_worn v_lastBend) (g_2 : gm_tx v_tapeMany v_textMany v_tape v_text v_names v_bends v_high v_to v_pileSize) : wp (fX9_fold 700 x1 x2 v_rowsOf v_columnsOf v_folded v_wronged v_textMany v_base v_at v_ends v_fault v_opened v_bentMany v_bentWrong v_moreWorn v_limit v_shapeRows v_shapeColumns v_row v_column v_below v_face v_worn v_lastBend v_tape v_text v_names v_bends v_high v_to v_pileSize) (cu24 (fun (r : Int32) (wv_folded : Int32) (wv_wronged : Int32) (wv_base : Int32) (wv_at : Int32) (wv_ends : Int32) (wv_fault : Int32) (wv_opened : Int32) (wv_bentMany : Int32) (wv_bentWrong : Int32) (wv_moreWorn : Int32) (wv_shapeRows : List Int32) (wv_shapeColumns : List Int32) (wv_row : List Int32) (wv_column : List Int32) (wv_below : List Int32) (wv_face : List Int32) (wv_worn : List Int32) (wv_lastBend : List Int32) (wv_names : List Int32) (wv_bends : List Int32) (wv_high : List Int32) (wv_to : List Int32) (wv_pileSize : List Int32) => gm_sh v_rowsOf v_columnsOf v_isKept v_imageRows v_imageColumns wv_shapeRows wv_shapeColumns wv_row wv_column wv_below wv_face wv_worn wv_lastBend ∧ gm_tx v_tapeMany v_textMany v_tape v_text wv_names wv_bends wv_high wv_to wv_pileSize)) := by
  obtain ⟨a_0_0, a_0_1, a_0_2, a_0_3, a_0_4, a_0_5, a_0_6, a_0_7⟩ := id g_0
  obtain ⟨a_1_0, a_1_1, a_1_2, a_1_3, a_1_4, a_1_5, a_1_6, a_1_7, a_1_8, a_1_9, a_1_10, a_1_11, a_1_12, a_1_13⟩ := id g_1
  obtain ⟨a_2_0, a_2_1, a_2_2, a_2_3, a_2_4, a_2_5, a_2_6, a_2_7, a_2_8, a_2_9, a_2_10⟩ := id g_2
  have n0 : (0 : Int32).toInt = 0 := by decide
  have n1 : (1 : Int32).toInt = 1 := by decide
  have n5 : (5 : Int32).toInt = 5 := by decide
  refine wp_cu24 (sf_X9_fold (u_row := v_row) (u_col := v_column) (u_sR := v_shapeRows) (u_sC := v_shapeColumns) (A := 0) (B9 := 32) (a9 := 0) (b9 := 1) (Nat.le_refl 700) a_1_0 a_1_1 a_1_2 a_1_3 a_2_2 a_2_3 a_0_4 a_1_4 a_1_5 a_1_6 a_1_7 a_1_8 a_1_9 a_1_10 a_1_11 a_2_4 a_2_5 a_2_6 a_2_7 a_2_8 a_2_9 a_2_10 (fr_refl _ _ _) (fr_refl _ _ _) (fr_refl _ _ _) (fr_refl _ _ _) (by omega) (by omega) (by omega) (by omega) a_1_12) (fun r wv_folded wv_wronged wv_base wv_at wv_ends wv_fault wv_opened wv_bentMany wv_bentWrong wv_moreWorn wv_shapeRows wv_shapeColumns wv_row wv_column wv_below wv_face wv_worn wv_lastBend wv_names wv_bends wv_high wv_to wv_pileSize ⟨q_0, q_1, q_2, q_3, q_4, q_5, q_6, q_7, q_8, q_9, q_10, q_11, q_12, q_13, q_14, q_15, q_16, q_17⟩ => ?_)
  have l_5 : ¬ (v_isKept = false) → 1 ≤ v_imageRows.toInt ∧ v_imageRows.toInt ≤ 4 ∧ 1 ≤ v_imageColumns.toInt ∧ v_imageColumns.toInt ≤ 8 ∧ lv9 v_imageRows v_imageColumns wv_shapeRows wv_shapeColumns wv_row wv_column (5 : Int32) := fun hk => (by
    obtain ⟨j_0, j_1, j_2, j_3, j_4⟩ := a_1_13 hk
    exact ⟨j_0, j_1, j_2, j_3, lv9_fr j_4 q_15 q_16 q_13 q_14 (by omega) (by omega) (by omega) (by omega) (i_fl j_0 j_1 j_2 j_3).2.2⟩)
  exact ⟨⟨a_1_0, a_1_1, a_1_2, a_1_3, q_0, q_1, q_2, q_3, q_4, q_5, q_6, q_7, q_17, l_5⟩, ⟨a_2_0, a_2_1, a_2_2, a_2_3, a_2_4, a_2_5, q_8, q_9, q_10, q_11, q_12⟩⟩
set_option maxHeartbeats 4000000 in
set_option maxRecDepth 20000 in
theorem st9_flat {v_rowsOf : Int32} {v_columnsOf : Int32} {v_shapeRows : List Int32} {v_shapeColumns : List Int32} {v_row : List Int32} {v_column : List Int32} {v_below : List Int32} {v_face : List Int32} {v_isKept : Bool} {v_imageRows : Int32} {v_imageColumns : Int32} {v_worn : List Int32} {v_lastBend : List Int32} (g_0 : gm_sh v_rowsOf v_columnsOf v_isKept v_imageRows v_imageColumns v_shapeRows v_shapeColumns v_row v_column v_below v_face v_worn v_lastBend) : wp (fX9_flat 700 v_rowsOf v_columnsOf v_shapeRows v_shapeColumns v_row v_column v_below v_face) (cu7 (fun (r : Int32) (wv_shapeRows : List Int32) (wv_shapeColumns : List Int32) (wv_row : List Int32) (wv_column : List Int32) (wv_below : List Int32) (wv_face : List Int32) => gm_sh v_rowsOf v_columnsOf v_isKept v_imageRows v_imageColumns wv_shapeRows wv_shapeColumns wv_row wv_column wv_below wv_face v_worn v_lastBend)) := by
  obtain ⟨a_0_0, a_0_1, a_0_2, a_0_3, a_0_4, a_0_5, a_0_6, a_0_7, a_0_8, a_0_9, a_0_10, a_0_11, a_0_12, a_0_13⟩ := id g_0
  have n0 : (0 : Int32).toInt = 0 := by decide
  have n1 : (1 : Int32).toInt = 1 := by decide
  have n5 : (5 : Int32).toInt = 5 := by decide
  refine wp_cu7 (sf_X9_flat (u_row := v_row) (u_col := v_column) (u_sR := v_shapeRows) (u_sC := v_shapeColumns) (A := 0) (B9 := 32) (a9 := 0) (b9 := 1) (Nat.le_refl 700) a_0_0 a_0_1 a_0_2 a_0_3 a_0_4 a_0_5 a_0_6 a_0_7 a_0_8 a_0_9 (fr_refl _ _ _) (fr_refl _ _ _) (fr_refl _ _ _) (fr_refl _ _ _) (by omega) (by omega) (by omega) (by omega) a_0_12) (fun r wv_shapeRows wv_shapeColumns wv_row wv_column wv_below wv_face ⟨q_0, q_1, q_2, q_3, q_4, q_5, q_6, q_7, q_8, q_9, q_10⟩ => ?_)
  have l_5 : ¬ (v_isKept = false) → 1 ≤ v_imageRows.toInt ∧ v_imageRows.toInt ≤ 4 ∧ 1 ≤ v_imageColumns.toInt ∧ v_imageColumns.toInt ≤ 8 ∧ lv9 v_imageRows v_imageColumns wv_shapeRows wv_shapeColumns wv_row wv_column (5 : Int32) := fun hk => (by
    obtain ⟨j_0, j_1, j_2, j_3, j_4⟩ := a_0_13 hk
    exact ⟨j_0, j_1, j_2, j_3, lv9_fr j_4 q_8 q_9 q_6 q_7 (by omega) (by omega) (by omega) (by omega) (i_fl j_0 j_1 j_2 j_3).2.2⟩)
  exact ⟨a_0_0, a_0_1, a_0_2, a_0_3, q_0, q_1, q_2, q_3, q_4, q_5, a_0_10, a_0_11, q_10, l_5⟩
set_option maxHeartbeats 4000000 in
set_option maxRecDepth 20000 in
theorem st9_crease {x1 : Int32} {x2 : Int32} {v_rowsOf : Int32} {v_columnsOf : Int32} {v_limit : List Int32} {v_worn : List Int32} {v_lastBend : List Int32} {v_keptMany : Int32} {v_done : Int32} {v_changeWas : List Int32} {v_changeIs : List Int32} {v_isKept : Bool} {v_imageRows : Int32} {v_imageColumns : Int32} {v_shapeRows : List Int32} {v_shapeColumns : List Int32} {v_row : List Int32} {v_column : List Int32} {v_below : List Int32} {v_face : List Int32} (g_0 : gm_ch v_keptMany v_done v_limit v_changeWas v_changeIs) (g_1 : gm_sh v_rowsOf v_columnsOf v_isKept v_imageRows v_imageColumns v_shapeRows v_shapeColumns v_row v_column v_below v_face v_worn v_lastBend) : wp (fX9_crease 700 x1 x2 v_rowsOf v_columnsOf v_limit v_worn v_lastBend) (fun (r : Int32) => True) := by
  obtain ⟨a_0_0, a_0_1, a_0_2, a_0_3, a_0_4, a_0_5, a_0_6, a_0_7⟩ := id g_0
  obtain ⟨a_1_0, a_1_1, a_1_2, a_1_3, a_1_4, a_1_5, a_1_6, a_1_7, a_1_8, a_1_9, a_1_10, a_1_11, a_1_12, a_1_13⟩ := id g_1
  refine wp_cu1 (sf_X9_crease (Nat.le_refl 700) a_1_0 a_1_1 a_1_2 a_1_3 a_0_4 a_1_10 a_1_11) (fun r _ => ?_)
  exact trivial
set_option maxHeartbeats 4000000 in
set_option maxRecDepth 20000 in
theorem st9_shape {x1 : Int32} {v_rowsOf : Int32} {v_columnsOf : Int32} {v_shapeRows : List Int32} {v_shapeColumns : List Int32} {v_below : List Int32} {v_isKept : Bool} {v_imageRows : Int32} {v_imageColumns : Int32} {v_row : List Int32} {v_column : List Int32} {v_face : List Int32} {v_worn : List Int32} {v_lastBend : List Int32} (g_0 : gm_sh v_rowsOf v_columnsOf v_isKept v_imageRows v_imageColumns v_shapeRows v_shapeColumns v_row v_column v_below v_face v_worn v_lastBend) : wp (fX9_shape 700 x1 v_rowsOf v_columnsOf v_shapeRows v_shapeColumns v_below) (fun (r : Int32) => True) := by
  obtain ⟨a_0_0, a_0_1, a_0_2, a_0_3, a_0_4, a_0_5, a_0_6, a_0_7, a_0_8, a_0_9, a_0_10, a_0_11, a_0_12, a_0_13⟩ := id g_0
  refine wp_cu1 (sf_X9_shape (Nat.le_refl 700) a_0_0 a_0_1 a_0_2 a_0_3 a_0_4 a_0_5 a_0_8) (fun r _ => ?_)
  exact trivial
set_option maxHeartbeats 4000000 in
set_option maxRecDepth 20000 in
theorem st9_where {x1 : Int32} {x2 : Int32} {v_rowsOf : Int32} {v_columnsOf : Int32} {v_row : List Int32} {v_column : List Int32} {v_below : List Int32} {v_face : List Int32} {v_isKept : Bool} {v_imageRows : Int32} {v_imageColumns : Int32} {v_shapeRows : List Int32} {v_shapeColumns : List Int32} {v_worn : List Int32} {v_lastBend : List Int32} (g_0 : gm_sh v_rowsOf v_columnsOf v_isKept v_imageRows v_imageColumns v_shapeRows v_shapeColumns v_row v_column v_below v_face v_worn v_lastBend) : wp (fX9_where 700 x1 x2 v_rowsOf v_columnsOf v_row v_column v_below v_face) (fun (r : Int32) => True) := by
  obtain ⟨a_0_0, a_0_1, a_0_2, a_0_3, a_0_4, a_0_5, a_0_6, a_0_7, a_0_8, a_0_9, a_0_10, a_0_11, a_0_12, a_0_13⟩ := id g_0
  refine wp_cu1 (sf_X9_where (Nat.le_refl 700) a_0_0 a_0_1 a_0_2 a_0_3 a_0_6 a_0_7 a_0_8 a_0_9) (fun r _ => ?_)
  exact trivial
set_option maxHeartbeats 4000000 in
set_option maxRecDepth 20000 in
theorem st9_pile {x1 : Int32} {x2 : Int32} {v_rowsOf : Int32} {v_columnsOf : Int32} {v_shapeRows : List Int32} {v_shapeColumns : List Int32} {v_row : List Int32} {v_column : List Int32} {v_below : List Int32} {v_isKept : Bool} {v_imageRows : Int32} {v_imageColumns : Int32} {v_face : List Int32} {v_worn : List Int32} {v_lastBend : List Int32} (g_0 : gm_sh v_rowsOf v_columnsOf v_isKept v_imageRows v_imageColumns v_shapeRows v_shapeColumns v_row v_column v_below v_face v_worn v_lastBend) : wp (fX9_pile 700 x1 x2 v_rowsOf v_columnsOf v_shapeRows v_shapeColumns v_row v_column v_below) (fun (r : Int32) => True) := by
  obtain ⟨a_0_0, a_0_1, a_0_2, a_0_3, a_0_4, a_0_5, a_0_6, a_0_7, a_0_8, a_0_9, a_0_10, a_0_11, a_0_12, a_0_13⟩ := id g_0
  refine wp_cu1 (sf_X9_pile (Nat.le_refl 700) a_0_0 a_0_1 a_0_2 a_0_3 a_0_4 a_0_5 a_0_6 a_0_7 a_0_8) (fun r _ => ?_)
  exact trivial
set_option maxHeartbeats 4000000 in
set_option maxRecDepth 20000 in
theorem st9_led {x1 : Int32} {v_rowsOf : Int32} {v_columnsOf : Int32} {v_folded : Int32} {v_wronged : Int32} {v_limit : List Int32} {v_worn : List Int32} {v_keptMany : Int32} {v_done : Int32} {v_changeWas : List Int32} {v_changeIs : List Int32} {v_isKept : Bool} {v_imageRows : Int32} {v_imageColumns : Int32} {v_shapeRows : List Int32} {v_shapeColumns : List Int32} {v_row : List Int32} {v_column : List Int32} {v_below : List Int32} {v_face : List Int32} {v_lastBend : List Int32} (g_0 : gm_ch v_keptMany v_done v_limit v_changeWas v_changeIs) (g_1 : gm_sh v_rowsOf v_columnsOf v_isKept v_imageRows v_imageColumns v_shapeRows v_shapeColumns v_row v_column v_below v_face v_worn v_lastBend) : wp (fX9_led 700 x1 v_rowsOf v_columnsOf v_folded v_wronged v_limit v_worn) (fun (r : Int32) => True) := by
  obtain ⟨a_0_0, a_0_1, a_0_2, a_0_3, a_0_4, a_0_5, a_0_6, a_0_7⟩ := id g_0
  obtain ⟨a_1_0, a_1_1, a_1_2, a_1_3, a_1_4, a_1_5, a_1_6, a_1_7, a_1_8, a_1_9, a_1_10, a_1_11, a_1_12, a_1_13⟩ := id g_1
  refine wp_cu1 (sf_X9_led (Nat.le_refl 700) a_1_0 a_1_1 a_1_2 a_1_3 a_0_4 a_1_10) (fun r _ => ?_)
  exact trivial
set_option maxHeartbeats 4000000 in
set_option maxRecDepth 20000 in
theorem st9_plan {x1 : Int32} {x2 : Int32} {v_planned : Int32} {v_planLine : List Int32} {v_planWay : List Int32} (g_0 : gm_pl v_planned v_planLine v_planWay) : wp (fX9_plan 700 x1 x2 v_planned v_planLine v_planWay) (cu4 (fun (r : Int32) (wv_planned : Int32) (wv_planLine : List Int32) (wv_planWay : List Int32) => gm_pl wv_planned wv_planLine wv_planWay)) := by
  obtain ⟨a_0_0, a_0_1, a_0_2, a_0_3⟩ := id g_0
  refine wp_cu4 (sf_X9_plan (Nat.le_refl 700) a_0_0 a_0_1 a_0_2 a_0_3) (fun r wv_planned wv_planLine wv_planWay ⟨q_0, q_1, q_2, q_3⟩ => ?_)
  exact ⟨q_0, q_1, q_2, q_3⟩
set_option maxHeartbeats 4000000 in
set_option maxRecDepth 20000 in
theorem st9_plans {x1 : Int32} {x2 : Int32} {x3 : Int32} {v_planned : Int32} {v_planLine : List Int32} {v_planWay : List Int32} {v_shelf : List Int32} {v_many : List Int32} {v_items : List Int64} {v_carried : List Int64} (g_0 : gm_pl v_planned v_planLine v_planWay) (g_1 : gm_sf v_shelf v_many v_items v_carried) : wp (fX9_plans 700 x1 x2 x3 v_planned v_planLine v_planWay v_shelf v_many v_items) (cu4 (fun (r : Int32) (wv_planned : Int32) (wv_planLine : List Int32) (wv_planWay : List Int32) => gm_pl wv_planned wv_planLine wv_planWay)) := by
  obtain ⟨a_0_0, a_0_1, a_0_2, a_0_3⟩ := id g_0
  obtain ⟨a_1_0, a_1_1, a_1_2, a_1_3, a_1_4⟩ := id g_1
  refine wp_cu4 (sf_X9_plans (Nat.le_refl 700) a_0_0 a_0_1 a_0_2 a_0_3 a_1_0 a_1_1 a_1_2 a_1_4) (fun r wv_planned wv_planLine wv_planWay ⟨q_0, q_1, q_2, q_3⟩ => ?_)
  exact ⟨q_0, q_1, q_2, q_3⟩
set_option maxHeartbeats 4000000 in
set_option maxRecDepth 20000 in
theorem st9_cost {x1 : Int32} {v_rowsOf : Int32} {v_columnsOf : Int32} {v_textMany : Int32} {v_base : Int32} {v_at : Int32} {v_ends : Int32} {v_fault : Int32} {v_opened : Int32} {v_bentMany : Int32} {v_bentWrong : Int32} {v_moreWorn : Int32} {v_planned : Int32} {v_allWrong : Int32} {v_allWorn : Int32} {v_z : Int32} {v_limit : List Int32} {v_shapeRows : List Int32} {v_shapeColumns : List Int32} {v_row : List Int32} {v_column : List Int32} {v_below : List Int32} {v_face : List Int32} {v_worn : List Int32} {v_lastBend : List Int32} {v_tape : List Int32} {v_text : List Int32} {v_names : List Int32} {v_bends : List Int32} {v_high : List Int32} {v_to : List Int32} {v_pileSize : List Int32} {v_planLine : List Int32} {v_planWay : List Int32} {v_keptMany : Int32} {v_done : Int32} {v_changeWas : List Int32} {v_changeIs : List Int32} {v_isKept : Bool} {v_imageRows : Int32} {v_imageColumns : Int32} {v_tapeMany : Int32} (g_0 : gm_ch v_keptMany v_done v_limit v_changeWas v_changeIs) (g_1 : gm_sh v_rowsOf v_columnsOf v_isKept v_imageRows v_imageColumns v_shapeRows v_shapeColumns v_row v_column v_below v_face v_worn v_lastBend) (g_2 : gm_tx v_tapeMany v_textMany v_tape v_text v_names v_bends v_high v_to v_pileSize) (g_3 : gm_pl v_planned v_planLine v_planWay) : wp (fX9_cost 700 x1 v_rowsOf v_columnsOf v_textMany v_base v_at v_ends v_fault v_opened v_bentMany v_bentWrong v_moreWorn v_planned v_allWrong v_allWorn v_z v_limit v_shapeRows v_shapeColumns v_row v_column v_below v_face v_worn v_lastBend v_tape v_text v_names v_bends v_high v_to v_pileSize v_planLine v_planWay) (cu25 (fun (r : Int32) (wv_base : Int32) (wv_at : Int32) (wv_ends : Int32) (wv_fault : Int32) (wv_opened : Int32) (wv_bentMany : Int32) (wv_bentWrong : Int32) (wv_moreWorn : Int32) (wv_allWrong : Int32) (wv_allWorn : Int32) (wv_z : Int32) (wv_shapeRows : List Int32) (wv_shapeColumns : List Int32) (wv_row : List Int32) (wv_column : List Int32) (wv_below : List Int32) (wv_face : List Int32) (wv_worn : List Int32) (wv_lastBend : List Int32) (wv_names : List Int32) (wv_bends : List Int32) (wv_high : List Int32) (wv_to : List Int32) (wv_pileSize : List Int32) => gm_sh v_rowsOf v_columnsOf v_isKept v_imageRows v_imageColumns wv_shapeRows wv_shapeColumns wv_row wv_column wv_below wv_face wv_worn wv_lastBend ∧ gm_tx v_tapeMany v_textMany v_tape v_text wv_names wv_bends wv_high wv_to wv_pileSize)) := by
  obtain ⟨a_0_0, a_0_1, a_0_2, a_0_3, a_0_4, a_0_5, a_0_6, a_0_7⟩ := id g_0
  obtain ⟨a_1_0, a_1_1, a_1_2, a_1_3, a_1_4, a_1_5, a_1_6, a_1_7, a_1_8, a_1_9, a_1_10, a_1_11, a_1_12, a_1_13⟩ := id g_1
  obtain ⟨a_2_0, a_2_1, a_2_2, a_2_3, a_2_4, a_2_5, a_2_6, a_2_7, a_2_8, a_2_9, a_2_10⟩ := id g_2
  obtain ⟨a_3_0, a_3_1, a_3_2, a_3_3⟩ := id g_3
  have n0 : (0 : Int32).toInt = 0 := by decide
  have n1 : (1 : Int32).toInt = 1 := by decide
  have n5 : (5 : Int32).toInt = 5 := by decide
  refine wp_cu25 (sf_X9_cost (u_row := v_row) (u_col := v_column) (u_sR := v_shapeRows) (u_sC := v_shapeColumns) (A := 32) (B9 := 160) (a9 := 1) (b9 := 5) (Nat.le_refl 700) a_1_0 a_1_1 a_1_2 a_1_3 a_2_2 a_2_3 a_3_0 a_3_1 a_0_4 a_1_4 a_1_5 a_1_6 a_1_7 a_1_8 a_1_9 a_1_10 a_1_11 a_2_4 a_2_5 a_2_6 a_2_7 a_2_8 a_2_9 a_2_10 a_3_2 a_3_3 (fr_refl _ _ _) (fr_refl _ _ _) (fr_refl _ _ _) (fr_refl _ _ _) (by omega) (by omega) (by omega) (by omega)) (fun r wv_base wv_at wv_ends wv_fault wv_opened wv_bentMany wv_bentWrong wv_moreWorn wv_allWrong wv_allWorn wv_z wv_shapeRows wv_shapeColumns wv_row wv_column wv_below wv_face wv_worn wv_lastBend wv_names wv_bends wv_high wv_to wv_pileSize ⟨q_0, q_1, q_2, q_3, q_4, q_5, q_6, q_7, q_8, q_9, q_10, q_11, q_12, q_13, q_14, q_15, q_16⟩ => ?_)
  have l_0 : lv9 v_rowsOf v_columnsOf wv_shapeRows wv_shapeColumns wv_row wv_column (0 : Int32) := lv9_fr a_1_12 q_15 q_16 q_13 q_14 (by omega) (by omega) (by omega) (by omega) (i_fl a_1_0 a_1_1 a_1_2 a_1_3).2.2
  have l_5 : ¬ (v_isKept = false) → 1 ≤ v_imageRows.toInt ∧ v_imageRows.toInt ≤ 4 ∧ 1 ≤ v_imageColumns.toInt ∧ v_imageColumns.toInt ≤ 8 ∧ lv9 v_imageRows v_imageColumns wv_shapeRows wv_shapeColumns wv_row wv_column (5 : Int32) := fun hk => (by
    obtain ⟨j_0, j_1, j_2, j_3, j_4⟩ := a_1_13 hk
    exact ⟨j_0, j_1, j_2, j_3, lv9_fr j_4 q_15 q_16 q_13 q_14 (by omega) (by omega) (by omega) (by omega) (i_fl j_0 j_1 j_2 j_3).2.2⟩)
  exact ⟨⟨a_1_0, a_1_1, a_1_2, a_1_3, q_0, q_1, q_2, q_3, q_4, q_5, q_6, q_7, l_0, l_5⟩, ⟨a_2_0, a_2_1, a_2_2, a_2_3, a_2_4, a_2_5, q_8, q_9, q_10, q_11, q_12⟩⟩
set_option maxHeartbeats 4000000 in
set_option maxRecDepth 20000 in
theorem st9_lies {x1 : Int32} {x2 : Int32} {v_rowsOf : Int32} {v_columnsOf : Int32} {v_textMany : Int32} {v_base : Int32} {v_at : Int32} {v_ends : Int32} {v_fault : Int32} {v_opened : Int32} {v_bentMany : Int32} {v_bentWrong : Int32} {v_moreWorn : Int32} {v_planned : Int32} {v_allWrong : Int32} {v_allWorn : Int32} {v_z : Int32} {v_limit : List Int32} {v_shapeRows : List Int32} {v_shapeColumns : List Int32} {v_row : List Int32} {v_column : List Int32} {v_below : List Int32} {v_face : List Int32} {v_worn : List Int32} {v_lastBend : List Int32} {v_tape : List Int32} {v_text : List Int32} {v_names : List Int32} {v_bends : List Int32} {v_high : List Int32} {v_to : List Int32} {v_pileSize : List Int32} {v_planLine : List Int32} {v_planWay : List Int32} {v_keptMany : Int32} {v_done : Int32} {v_changeWas : List Int32} {v_changeIs : List Int32} {v_isKept : Bool} {v_imageRows : Int32} {v_imageColumns : Int32} {v_tapeMany : Int32} (g_0 : gm_ch v_keptMany v_done v_limit v_changeWas v_changeIs) (g_1 : gm_sh v_rowsOf v_columnsOf v_isKept v_imageRows v_imageColumns v_shapeRows v_shapeColumns v_row v_column v_below v_face v_worn v_lastBend) (g_2 : gm_tx v_tapeMany v_textMany v_tape v_text v_names v_bends v_high v_to v_pileSize) (g_3 : gm_pl v_planned v_planLine v_planWay) : wp (fX9_lies 700 x1 x2 v_rowsOf v_columnsOf v_textMany v_base v_at v_ends v_fault v_opened v_bentMany v_bentWrong v_moreWorn v_planned v_allWrong v_allWorn v_z v_limit v_shapeRows v_shapeColumns v_row v_column v_below v_face v_worn v_lastBend v_tape v_text v_names v_bends v_high v_to v_pileSize v_planLine v_planWay) (cu25 (fun (r : Int32) (wv_base : Int32) (wv_at : Int32) (wv_ends : Int32) (wv_fault : Int32) (wv_opened : Int32) (wv_bentMany : Int32) (wv_bentWrong : Int32) (wv_moreWorn : Int32) (wv_allWrong : Int32) (wv_allWorn : Int32) (wv_z : Int32) (wv_shapeRows : List Int32) (wv_shapeColumns : List Int32) (wv_row : List Int32) (wv_column : List Int32) (wv_below : List Int32) (wv_face : List Int32) (wv_worn : List Int32) (wv_lastBend : List Int32) (wv_names : List Int32) (wv_bends : List Int32) (wv_high : List Int32) (wv_to : List Int32) (wv_pileSize : List Int32) => gm_sh v_rowsOf v_columnsOf v_isKept v_imageRows v_imageColumns wv_shapeRows wv_shapeColumns wv_row wv_column wv_below wv_face wv_worn wv_lastBend ∧ gm_tx v_tapeMany v_textMany v_tape v_text wv_names wv_bends wv_high wv_to wv_pileSize)) := by
  obtain ⟨a_0_0, a_0_1, a_0_2, a_0_3, a_0_4, a_0_5, a_0_6, a_0_7⟩ := id g_0
  obtain ⟨a_1_0, a_1_1, a_1_2, a_1_3, a_1_4, a_1_5, a_1_6, a_1_7, a_1_8, a_1_9, a_1_10, a_1_11, a_1_12, a_1_13⟩ := id g_1
  obtain ⟨a_2_0, a_2_1, a_2_2, a_2_3, a_2_4, a_2_5, a_2_6, a_2_7, a_2_8, a_2_9, a_2_10⟩ := id g_2
  obtain ⟨a_3_0, a_3_1, a_3_2, a_3_3⟩ := id g_3
  have n0 : (0 : Int32).toInt = 0 := by decide
  have n1 : (1 : Int32).toInt = 1 := by decide
  have n5 : (5 : Int32).toInt = 5 := by decide
  refine wp_cu25 (sf_X9_lies (u_row := v_row) (u_col := v_column) (u_sR := v_shapeRows) (u_sC := v_shapeColumns) (A := 32) (B9 := 160) (a9 := 1) (b9 := 5) (Nat.le_refl 700) a_1_0 a_1_1 a_1_2 a_1_3 a_2_2 a_2_3 a_3_0 a_3_1 a_0_4 a_1_4 a_1_5 a_1_6 a_1_7 a_1_8 a_1_9 a_1_10 a_1_11 a_2_4 a_2_5 a_2_6 a_2_7 a_2_8 a_2_9 a_2_10 a_3_2 a_3_3 (fr_refl _ _ _) (fr_refl _ _ _) (fr_refl _ _ _) (fr_refl _ _ _) (by omega) (by omega) (by omega) (by omega)) (fun r wv_base wv_at wv_ends wv_fault wv_opened wv_bentMany wv_bentWrong wv_moreWorn wv_allWrong wv_allWorn wv_z wv_shapeRows wv_shapeColumns wv_row wv_column wv_below wv_face wv_worn wv_lastBend wv_names wv_bends wv_high wv_to wv_pileSize ⟨q_0, q_1, q_2, q_3, q_4, q_5, q_6, q_7, q_8, q_9, q_10, q_11, q_12, q_13, q_14, q_15, q_16⟩ => ?_)
  have l_0 : lv9 v_rowsOf v_columnsOf wv_shapeRows wv_shapeColumns wv_row wv_column (0 : Int32) := lv9_fr a_1_12 q_15 q_16 q_13 q_14 (by omega) (by omega) (by omega) (by omega) (i_fl a_1_0 a_1_1 a_1_2 a_1_3).2.2
  have l_5 : ¬ (v_isKept = false) → 1 ≤ v_imageRows.toInt ∧ v_imageRows.toInt ≤ 4 ∧ 1 ≤ v_imageColumns.toInt ∧ v_imageColumns.toInt ≤ 8 ∧ lv9 v_imageRows v_imageColumns wv_shapeRows wv_shapeColumns wv_row wv_column (5 : Int32) := fun hk => (by
    obtain ⟨j_0, j_1, j_2, j_3, j_4⟩ := a_1_13 hk
    exact ⟨j_0, j_1, j_2, j_3, lv9_fr j_4 q_15 q_16 q_13 q_14 (by omega) (by omega) (by omega) (by omega) (i_fl j_0 j_1 j_2 j_3).2.2⟩)
  exact ⟨⟨a_1_0, a_1_1, a_1_2, a_1_3, q_0, q_1, q_2, q_3, q_4, q_5, q_6, q_7, l_0, l_5⟩, ⟨a_2_0, a_2_1, a_2_2, a_2_3, a_2_4, a_2_5, q_8, q_9, q_10, q_11, q_12⟩⟩
set_option maxHeartbeats 4000000 in
set_option maxRecDepth 20000 in
theorem st9_top {x1 : Int32} {x2 : Int32} {v_rowsOf : Int32} {v_columnsOf : Int32} {v_textMany : Int32} {v_base : Int32} {v_at : Int32} {v_ends : Int32} {v_fault : Int32} {v_opened : Int32} {v_bentMany : Int32} {v_bentWrong : Int32} {v_moreWorn : Int32} {v_planned : Int32} {v_allWrong : Int32} {v_allWorn : Int32} {v_z : Int32} {v_limit : List Int32} {v_shapeRows : List Int32} {v_shapeColumns : List Int32} {v_row : List Int32} {v_column : List Int32} {v_below : List Int32} {v_face : List Int32} {v_worn : List Int32} {v_lastBend : List Int32} {v_tape : List Int32} {v_text : List Int32} {v_names : List Int32} {v_bends : List Int32} {v_high : List Int32} {v_to : List Int32} {v_pileSize : List Int32} {v_planLine : List Int32} {v_planWay : List Int32} {v_keptMany : Int32} {v_done : Int32} {v_changeWas : List Int32} {v_changeIs : List Int32} {v_isKept : Bool} {v_imageRows : Int32} {v_imageColumns : Int32} {v_tapeMany : Int32} (g_0 : gm_ch v_keptMany v_done v_limit v_changeWas v_changeIs) (g_1 : gm_sh v_rowsOf v_columnsOf v_isKept v_imageRows v_imageColumns v_shapeRows v_shapeColumns v_row v_column v_below v_face v_worn v_lastBend) (g_2 : gm_tx v_tapeMany v_textMany v_tape v_text v_names v_bends v_high v_to v_pileSize) (g_3 : gm_pl v_planned v_planLine v_planWay) : wp (fX9_top 700 x1 x2 v_rowsOf v_columnsOf v_textMany v_base v_at v_ends v_fault v_opened v_bentMany v_bentWrong v_moreWorn v_planned v_allWrong v_allWorn v_z v_limit v_shapeRows v_shapeColumns v_row v_column v_below v_face v_worn v_lastBend v_tape v_text v_names v_bends v_high v_to v_pileSize v_planLine v_planWay) (cu25 (fun (r : Int32) (wv_base : Int32) (wv_at : Int32) (wv_ends : Int32) (wv_fault : Int32) (wv_opened : Int32) (wv_bentMany : Int32) (wv_bentWrong : Int32) (wv_moreWorn : Int32) (wv_allWrong : Int32) (wv_allWorn : Int32) (wv_z : Int32) (wv_shapeRows : List Int32) (wv_shapeColumns : List Int32) (wv_row : List Int32) (wv_column : List Int32) (wv_below : List Int32) (wv_face : List Int32) (wv_worn : List Int32) (wv_lastBend : List Int32) (wv_names : List Int32) (wv_bends : List Int32) (wv_high : List Int32) (wv_to : List Int32) (wv_pileSize : List Int32) => gm_sh v_rowsOf v_columnsOf v_isKept v_imageRows v_imageColumns wv_shapeRows wv_shapeColumns wv_row wv_column wv_below wv_face wv_worn wv_lastBend ∧ gm_tx v_tapeMany v_textMany v_tape v_text wv_names wv_bends wv_high wv_to wv_pileSize)) := by
  obtain ⟨a_0_0, a_0_1, a_0_2, a_0_3, a_0_4, a_0_5, a_0_6, a_0_7⟩ := id g_0
  obtain ⟨a_1_0, a_1_1, a_1_2, a_1_3, a_1_4, a_1_5, a_1_6, a_1_7, a_1_8, a_1_9, a_1_10, a_1_11, a_1_12, a_1_13⟩ := id g_1
  obtain ⟨a_2_0, a_2_1, a_2_2, a_2_3, a_2_4, a_2_5, a_2_6, a_2_7, a_2_8, a_2_9, a_2_10⟩ := id g_2
  obtain ⟨a_3_0, a_3_1, a_3_2, a_3_3⟩ := id g_3
  have n0 : (0 : Int32).toInt = 0 := by decide
  have n1 : (1 : Int32).toInt = 1 := by decide
  have n5 : (5 : Int32).toInt = 5 := by decide
  refine wp_cu25 (sf_X9_top (u_row := v_row) (u_col := v_column) (u_sR := v_shapeRows) (u_sC := v_shapeColumns) (A := 32) (B9 := 160) (a9 := 1) (b9 := 5) (Nat.le_refl 700) a_1_0 a_1_1 a_1_2 a_1_3 a_2_2 a_2_3 a_3_0 a_3_1 a_0_4 a_1_4 a_1_5 a_1_6 a_1_7 a_1_8 a_1_9 a_1_10 a_1_11 a_2_4 a_2_5 a_2_6 a_2_7 a_2_8 a_2_9 a_2_10 a_3_2 a_3_3 (fr_refl _ _ _) (fr_refl _ _ _) (fr_refl _ _ _) (fr_refl _ _ _) (by omega) (by omega) (by omega) (by omega)) (fun r wv_base wv_at wv_ends wv_fault wv_opened wv_bentMany wv_bentWrong wv_moreWorn wv_allWrong wv_allWorn wv_z wv_shapeRows wv_shapeColumns wv_row wv_column wv_below wv_face wv_worn wv_lastBend wv_names wv_bends wv_high wv_to wv_pileSize ⟨q_0, q_1, q_2, q_3, q_4, q_5, q_6, q_7, q_8, q_9, q_10, q_11, q_12, q_13, q_14, q_15, q_16⟩ => ?_)
  have l_0 : lv9 v_rowsOf v_columnsOf wv_shapeRows wv_shapeColumns wv_row wv_column (0 : Int32) := lv9_fr a_1_12 q_15 q_16 q_13 q_14 (by omega) (by omega) (by omega) (by omega) (i_fl a_1_0 a_1_1 a_1_2 a_1_3).2.2
  have l_5 : ¬ (v_isKept = false) → 1 ≤ v_imageRows.toInt ∧ v_imageRows.toInt ≤ 4 ∧ 1 ≤ v_imageColumns.toInt ∧ v_imageColumns.toInt ≤ 8 ∧ lv9 v_imageRows v_imageColumns wv_shapeRows wv_shapeColumns wv_row wv_column (5 : Int32) := fun hk => (by
    obtain ⟨j_0, j_1, j_2, j_3, j_4⟩ := a_1_13 hk
    exact ⟨j_0, j_1, j_2, j_3, lv9_fr j_4 q_15 q_16 q_13 q_14 (by omega) (by omega) (by omega) (by omega) (i_fl j_0 j_1 j_2 j_3).2.2⟩)
  exact ⟨⟨a_1_0, a_1_1, a_1_2, a_1_3, q_0, q_1, q_2, q_3, q_4, q_5, q_6, q_7, l_0, l_5⟩, ⟨a_2_0, a_2_1, a_2_2, a_2_3, a_2_4, a_2_5, q_8, q_9, q_10, q_11, q_12⟩⟩
set_option maxHeartbeats 4000000 in
set_option maxRecDepth 20000 in
theorem st9_beside {x1 : Int32} {x2 : Int32} {v_rowsOf : Int32} {v_columnsOf : Int32} {v_textMany : Int32} {v_base : Int32} {v_at : Int32} {v_ends : Int32} {v_fault : Int32} {v_opened : Int32} {v_bentMany : Int32} {v_bentWrong : Int32} {v_moreWorn : Int32} {v_planned : Int32} {v_allWrong : Int32} {v_allWorn : Int32} {v_z : Int32} {v_limit : List Int32} {v_shapeRows : List Int32} {v_shapeColumns : List Int32} {v_row : List Int32} {v_column : List Int32} {v_below : List Int32} {v_face : List Int32} {v_worn : List Int32} {v_lastBend : List Int32} {v_tape : List Int32} {v_text : List Int32} {v_names : List Int32} {v_bends : List Int32} {v_high : List Int32} {v_to : List Int32} {v_pileSize : List Int32} {v_planLine : List Int32} {v_planWay : List Int32} {v_keptMany : Int32} {v_done : Int32} {v_changeWas : List Int32} {v_changeIs : List Int32} {v_isKept : Bool} {v_imageRows : Int32} {v_imageColumns : Int32} {v_tapeMany : Int32} (g_0 : gm_ch v_keptMany v_done v_limit v_changeWas v_changeIs) (g_1 : gm_sh v_rowsOf v_columnsOf v_isKept v_imageRows v_imageColumns v_shapeRows v_shapeColumns v_row v_column v_below v_face v_worn v_lastBend) (g_2 : gm_tx v_tapeMany v_textMany v_tape v_text v_names v_bends v_high v_to v_pileSize) (g_3 : gm_pl v_planned v_planLine v_planWay) : wp (fX9_beside 700 x1 x2 v_rowsOf v_columnsOf v_textMany v_base v_at v_ends v_fault v_opened v_bentMany v_bentWrong v_moreWorn v_planned v_allWrong v_allWorn v_z v_limit v_shapeRows v_shapeColumns v_row v_column v_below v_face v_worn v_lastBend v_tape v_text v_names v_bends v_high v_to v_pileSize v_planLine v_planWay) (cu25 (fun (r : Int32) (wv_base : Int32) (wv_at : Int32) (wv_ends : Int32) (wv_fault : Int32) (wv_opened : Int32) (wv_bentMany : Int32) (wv_bentWrong : Int32) (wv_moreWorn : Int32) (wv_allWrong : Int32) (wv_allWorn : Int32) (wv_z : Int32) (wv_shapeRows : List Int32) (wv_shapeColumns : List Int32) (wv_row : List Int32) (wv_column : List Int32) (wv_below : List Int32) (wv_face : List Int32) (wv_worn : List Int32) (wv_lastBend : List Int32) (wv_names : List Int32) (wv_bends : List Int32) (wv_high : List Int32) (wv_to : List Int32) (wv_pileSize : List Int32) => gm_sh v_rowsOf v_columnsOf v_isKept v_imageRows v_imageColumns wv_shapeRows wv_shapeColumns wv_row wv_column wv_below wv_face wv_worn wv_lastBend ∧ gm_tx v_tapeMany v_textMany v_tape v_text wv_names wv_bends wv_high wv_to wv_pileSize)) := by
  obtain ⟨a_0_0, a_0_1, a_0_2, a_0_3, a_0_4, a_0_5, a_0_6, a_0_7⟩ := id g_0
  obtain ⟨a_1_0, a_1_1, a_1_2, a_1_3, a_1_4, a_1_5, a_1_6, a_1_7, a_1_8, a_1_9, a_1_10, a_1_11, a_1_12, a_1_13⟩ := id g_1
  obtain ⟨a_2_0, a_2_1, a_2_2, a_2_3, a_2_4, a_2_5, a_2_6, a_2_7, a_2_8, a_2_9, a_2_10⟩ := id g_2
  obtain ⟨a_3_0, a_3_1, a_3_2, a_3_3⟩ := id g_3
  have n0 : (0 : Int32).toInt = 0 := by decide
  have n1 : (1 : Int32).toInt = 1 := by decide
  have n5 : (5 : Int32).toInt = 5 := by decide
  refine wp_cu25 (sf_X9_beside (u_row := v_row) (u_col := v_column) (u_sR := v_shapeRows) (u_sC := v_shapeColumns) (A := 32) (B9 := 160) (a9 := 1) (b9 := 5) (Nat.le_refl 700) a_1_0 a_1_1 a_1_2 a_1_3 a_2_2 a_2_3 a_3_0 a_3_1 a_0_4 a_1_4 a_1_5 a_1_6 a_1_7 a_1_8 a_1_9 a_1_10 a_1_11 a_2_4 a_2_5 a_2_6 a_2_7 a_2_8 a_2_9 a_2_10 a_3_2 a_3_3 (fr_refl _ _ _) (fr_refl _ _ _) (fr_refl _ _ _) (fr_refl _ _ _) (by omega) (by omega) (by omega) (by omega)) (fun r wv_base wv_at wv_ends wv_fault wv_opened wv_bentMany wv_bentWrong wv_moreWorn wv_allWrong wv_allWorn wv_z wv_shapeRows wv_shapeColumns wv_row wv_column wv_below wv_face wv_worn wv_lastBend wv_names wv_bends wv_high wv_to wv_pileSize ⟨q_0, q_1, q_2, q_3, q_4, q_5, q_6, q_7, q_8, q_9, q_10, q_11, q_12, q_13, q_14, q_15, q_16⟩ => ?_)
  have l_0 : lv9 v_rowsOf v_columnsOf wv_shapeRows wv_shapeColumns wv_row wv_column (0 : Int32) := lv9_fr a_1_12 q_15 q_16 q_13 q_14 (by omega) (by omega) (by omega) (by omega) (i_fl a_1_0 a_1_1 a_1_2 a_1_3).2.2
  have l_5 : ¬ (v_isKept = false) → 1 ≤ v_imageRows.toInt ∧ v_imageRows.toInt ≤ 4 ∧ 1 ≤ v_imageColumns.toInt ∧ v_imageColumns.toInt ≤ 8 ∧ lv9 v_imageRows v_imageColumns wv_shapeRows wv_shapeColumns wv_row wv_column (5 : Int32) := fun hk => (by
    obtain ⟨j_0, j_1, j_2, j_3, j_4⟩ := a_1_13 hk
    exact ⟨j_0, j_1, j_2, j_3, lv9_fr j_4 q_15 q_16 q_13 q_14 (by omega) (by omega) (by omega) (by omega) (i_fl j_0 j_1 j_2 j_3).2.2⟩)
  exact ⟨⟨a_1_0, a_1_1, a_1_2, a_1_3, q_0, q_1, q_2, q_3, q_4, q_5, q_6, q_7, l_0, l_5⟩, ⟨a_2_0, a_2_1, a_2_2, a_2_3, a_2_4, a_2_5, q_8, q_9, q_10, q_11, q_12⟩⟩
set_option maxHeartbeats 4000000 in
set_option maxRecDepth 20000 in
theorem st9_wished {x1 : Int32} {x2 : Int32} {v_rowsOf : Int32} {v_columnsOf : Int32} {v_textMany : Int32} {v_base : Int32} {v_at : Int32} {v_ends : Int32} {v_fault : Int32} {v_opened : Int32} {v_bentMany : Int32} {v_bentWrong : Int32} {v_moreWorn : Int32} {v_wishedField : Int32} {v_isFound : Bool} {v_bestWrong : Int32} {v_bestWorn : Int32} {v_bestMany : Int32} {v_limit : List Int32} {v_shapeRows : List Int32} {v_shapeColumns : List Int32} {v_row : List Int32} {v_column : List Int32} {v_below : List Int32} {v_face : List Int32} {v_worn : List Int32} {v_lastBend : List Int32} {v_tape : List Int32} {v_text : List Int32} {v_names : List Int32} {v_bends : List Int32} {v_high : List Int32} {v_to : List Int32} {v_pileSize : List Int32} {v_way1 : List Int32} {v_bestWay : List Int32} {v_keptMany : Int32} {v_done : Int32} {v_changeWas : List Int32} {v_changeIs : List Int32} {v_isKept : Bool} {v_imageRows : Int32} {v_imageColumns : Int32} {v_tapeMany : Int32} (g_0 : gm_ch v_keptMany v_done v_limit v_changeWas v_changeIs) (g_1 : gm_sh v_rowsOf v_columnsOf v_isKept v_imageRows v_imageColumns v_shapeRows v_shapeColumns v_row v_column v_below v_face v_worn v_lastBend) (g_2 : gm_tx v_tapeMany v_textMany v_tape v_text v_names v_bends v_high v_to v_pileSize) (g_3 : gm_se v_bestMany v_way1 v_bestWay) : wp (fX9_wished 700 x1 x2 v_rowsOf v_columnsOf v_textMany v_base v_at v_ends v_fault v_opened v_bentMany v_bentWrong v_moreWorn v_wishedField v_isFound v_bestWrong v_bestWorn v_bestMany v_limit v_shapeRows v_shapeColumns v_row v_column v_below v_face v_worn v_lastBend v_tape v_text v_names v_bends v_high v_to v_pileSize v_way1 v_bestWay) (cu29 (fun (r : Int32) (wv_base : Int32) (wv_at : Int32) (wv_ends : Int32) (wv_fault : Int32) (wv_opened : Int32) (wv_bentMany : Int32) (wv_bentWrong : Int32) (wv_moreWorn : Int32) (wv_wishedField : Int32) (wv_isFound : Bool) (wv_bestWrong : Int32) (wv_bestWorn : Int32) (wv_bestMany : Int32) (wv_shapeRows : List Int32) (wv_shapeColumns : List Int32) (wv_row : List Int32) (wv_column : List Int32) (wv_below : List Int32) (wv_face : List Int32) (wv_worn : List Int32) (wv_lastBend : List Int32) (wv_names : List Int32) (wv_bends : List Int32) (wv_high : List Int32) (wv_to : List Int32) (wv_pileSize : List Int32) (wv_way1 : List Int32) (wv_bestWay : List Int32) => gm_sh v_rowsOf v_columnsOf v_isKept v_imageRows v_imageColumns wv_shapeRows wv_shapeColumns wv_row wv_column wv_below wv_face wv_worn wv_lastBend ∧ gm_tx v_tapeMany v_textMany v_tape v_text wv_names wv_bends wv_high wv_to wv_pileSize ∧ gm_se wv_bestMany wv_way1 wv_bestWay)) := by
  obtain ⟨a_0_0, a_0_1, a_0_2, a_0_3, a_0_4, a_0_5, a_0_6, a_0_7⟩ := id g_0
  obtain ⟨a_1_0, a_1_1, a_1_2, a_1_3, a_1_4, a_1_5, a_1_6, a_1_7, a_1_8, a_1_9, a_1_10, a_1_11, a_1_12, a_1_13⟩ := id g_1
  obtain ⟨a_2_0, a_2_1, a_2_2, a_2_3, a_2_4, a_2_5, a_2_6, a_2_7, a_2_8, a_2_9, a_2_10⟩ := id g_2
  obtain ⟨a_3_0, a_3_1, a_3_2, a_3_3⟩ := id g_3
  have n0 : (0 : Int32).toInt = 0 := by decide
  have n1 : (1 : Int32).toInt = 1 := by decide
  have n5 : (5 : Int32).toInt = 5 := by decide
  refine wp_cu29 (sf_X9_wished (u_row := v_row) (u_col := v_column) (u_sR := v_shapeRows) (u_sC := v_shapeColumns) (A := 32) (B9 := 160) (a9 := 1) (b9 := 5) (Nat.le_refl 700) a_1_0 a_1_1 a_1_2 a_1_3 a_2_2 a_2_3 a_3_0 a_3_1 a_0_4 a_1_4 a_1_5 a_1_6 a_1_7 a_1_8 a_1_9 a_1_10 a_1_11 a_2_4 a_2_5 a_2_6 a_2_7 a_2_8 a_2_9 a_2_10 a_3_2 a_3_3 (fr_refl _ _ _) (fr_refl _ _ _) (fr_refl _ _ _) (fr_refl _ _ _) (by omega) (by omega) (by omega) (by omega)) (fun r wv_base wv_at wv_ends wv_fault wv_opened wv_bentMany wv_bentWrong wv_moreWorn wv_wishedField wv_isFound wv_bestWrong wv_bestWorn wv_bestMany wv_shapeRows wv_shapeColumns wv_row wv_column wv_below wv_face wv_worn wv_lastBend wv_names wv_bends wv_high wv_to wv_pileSize wv_way1 wv_bestWay ⟨q_0, q_1, q_2, q_3, q_4, q_5, q_6, q_7, q_8, q_9, q_10, q_11, q_12, q_13, q_14, q_15, q_16, q_17, q_18, q_19, q_20⟩ => ?_)
  have l_0 : lv9 v_rowsOf v_columnsOf wv_shapeRows wv_shapeColumns wv_row wv_column (0 : Int32) := lv9_fr a_1_12 q_19 q_20 q_17 q_18 (by omega) (by omega) (by omega) (by omega) (i_fl a_1_0 a_1_1 a_1_2 a_1_3).2.2
  have l_5 : ¬ (v_isKept = false) → 1 ≤ v_imageRows.toInt ∧ v_imageRows.toInt ≤ 4 ∧ 1 ≤ v_imageColumns.toInt ∧ v_imageColumns.toInt ≤ 8 ∧ lv9 v_imageRows v_imageColumns wv_shapeRows wv_shapeColumns wv_row wv_column (5 : Int32) := fun hk => (by
    obtain ⟨j_0, j_1, j_2, j_3, j_4⟩ := a_1_13 hk
    exact ⟨j_0, j_1, j_2, j_3, lv9_fr j_4 q_19 q_20 q_17 q_18 (by omega) (by omega) (by omega) (by omega) (i_fl j_0 j_1 j_2 j_3).2.2⟩)
  exact ⟨⟨a_1_0, a_1_1, a_1_2, a_1_3, q_2, q_3, q_4, q_5, q_6, q_7, q_8, q_9, l_0, l_5⟩, ⟨a_2_0, a_2_1, a_2_2, a_2_3, a_2_4, a_2_5, q_10, q_11, q_12, q_13, q_14⟩, ⟨q_0, q_1, q_15, q_16⟩⟩
set_option maxHeartbeats 4000000 in
set_option maxRecDepth 20000 in
theorem st9_right {x1 : Int32} {v_rowsOf : Int32} {v_columnsOf : Int32} {v_textMany : Int32} {v_base : Int32} {v_at : Int32} {v_ends : Int32} {v_fault : Int32} {v_opened : Int32} {v_bentMany : Int32} {v_bentWrong : Int32} {v_moreWorn : Int32} {v_wishedField : Int32} {v_isFound : Bool} {v_bestWrong : Int32} {v_bestWorn : Int32} {v_bestMany : Int32} {v_limit : List Int32} {v_shapeRows : List Int32} {v_shapeColumns : List Int32} {v_row : List Int32} {v_column : List Int32} {v_below : List Int32} {v_face : List Int32} {v_worn : List Int32} {v_lastBend : List Int32} {v_tape : List Int32} {v_text : List Int32} {v_names : List Int32} {v_bends : List Int32} {v_high : List Int32} {v_to : List Int32} {v_pileSize : List Int32} {v_way1 : List Int32} {v_bestWay : List Int32} {v_keptMany : Int32} {v_done : Int32} {v_changeWas : List Int32} {v_changeIs : List Int32} {v_isKept : Bool} {v_imageRows : Int32} {v_imageColumns : Int32} {v_tapeMany : Int32} (g_0 : gm_ch v_keptMany v_done v_limit v_changeWas v_changeIs) (g_1 : gm_sh v_rowsOf v_columnsOf v_isKept v_imageRows v_imageColumns v_shapeRows v_shapeColumns v_row v_column v_below v_face v_worn v_lastBend) (g_2 : gm_tx v_tapeMany v_textMany v_tape v_text v_names v_bends v_high v_to v_pileSize) (g_3 : gm_se v_bestMany v_way1 v_bestWay) : wp (fX9_right 700 x1 v_rowsOf v_columnsOf v_textMany v_base v_at v_ends v_fault v_opened v_bentMany v_bentWrong v_moreWorn v_wishedField v_isFound v_bestWrong v_bestWorn v_bestMany v_limit v_shapeRows v_shapeColumns v_row v_column v_below v_face v_worn v_lastBend v_tape v_text v_names v_bends v_high v_to v_pileSize v_way1 v_bestWay) (cu29 (fun (r : Int32) (wv_base : Int32) (wv_at : Int32) (wv_ends : Int32) (wv_fault : Int32) (wv_opened : Int32) (wv_bentMany : Int32) (wv_bentWrong : Int32) (wv_moreWorn : Int32) (wv_wishedField : Int32) (wv_isFound : Bool) (wv_bestWrong : Int32) (wv_bestWorn : Int32) (wv_bestMany : Int32) (wv_shapeRows : List Int32) (wv_shapeColumns : List Int32) (wv_row : List Int32) (wv_column : List Int32) (wv_below : List Int32) (wv_face : List Int32) (wv_worn : List Int32) (wv_lastBend : List Int32) (wv_names : List Int32) (wv_bends : List Int32) (wv_high : List Int32) (wv_to : List Int32) (wv_pileSize : List Int32) (wv_way1 : List Int32) (wv_bestWay : List Int32) => gm_sh v_rowsOf v_columnsOf v_isKept v_imageRows v_imageColumns wv_shapeRows wv_shapeColumns wv_row wv_column wv_below wv_face wv_worn wv_lastBend ∧ gm_tx v_tapeMany v_textMany v_tape v_text wv_names wv_bends wv_high wv_to wv_pileSize ∧ gm_se wv_bestMany wv_way1 wv_bestWay)) := by
  obtain ⟨a_0_0, a_0_1, a_0_2, a_0_3, a_0_4, a_0_5, a_0_6, a_0_7⟩ := id g_0
  obtain ⟨a_1_0, a_1_1, a_1_2, a_1_3, a_1_4, a_1_5, a_1_6, a_1_7, a_1_8, a_1_9, a_1_10, a_1_11, a_1_12, a_1_13⟩ := id g_1
  obtain ⟨a_2_0, a_2_1, a_2_2, a_2_3, a_2_4, a_2_5, a_2_6, a_2_7, a_2_8, a_2_9, a_2_10⟩ := id g_2
  obtain ⟨a_3_0, a_3_1, a_3_2, a_3_3⟩ := id g_3
  have n0 : (0 : Int32).toInt = 0 := by decide
  have n1 : (1 : Int32).toInt = 1 := by decide
  have n5 : (5 : Int32).toInt = 5 := by decide
  refine wp_cu29 (sf_X9_right (u_row := v_row) (u_col := v_column) (u_sR := v_shapeRows) (u_sC := v_shapeColumns) (A := 32) (B9 := 160) (a9 := 1) (b9 := 5) (Nat.le_refl 700) a_1_0 a_1_1 a_1_2 a_1_3 a_2_2 a_2_3 a_3_0 a_3_1 a_0_4 a_1_4 a_1_5 a_1_6 a_1_7 a_1_8 a_1_9 a_1_10 a_1_11 a_2_4 a_2_5 a_2_6 a_2_7 a_2_8 a_2_9 a_2_10 a_3_2 a_3_3 (fr_refl _ _ _) (fr_refl _ _ _) (fr_refl _ _ _) (fr_refl _ _ _) (by omega) (by omega) (by omega) (by omega)) (fun r wv_base wv_at wv_ends wv_fault wv_opened wv_bentMany wv_bentWrong wv_moreWorn wv_wishedField wv_isFound wv_bestWrong wv_bestWorn wv_bestMany wv_shapeRows wv_shapeColumns wv_row wv_column wv_below wv_face wv_worn wv_lastBend wv_names wv_bends wv_high wv_to wv_pileSize wv_way1 wv_bestWay ⟨q_0, q_1, q_2, q_3, q_4, q_5, q_6, q_7, q_8, q_9, q_10, q_11, q_12, q_13, q_14, q_15, q_16, q_17, q_18, q_19, q_20⟩ => ?_)
  have l_0 : lv9 v_rowsOf v_columnsOf wv_shapeRows wv_shapeColumns wv_row wv_column (0 : Int32) := lv9_fr a_1_12 q_19 q_20 q_17 q_18 (by omega) (by omega) (by omega) (by omega) (i_fl a_1_0 a_1_1 a_1_2 a_1_3).2.2
  have l_5 : ¬ (v_isKept = false) → 1 ≤ v_imageRows.toInt ∧ v_imageRows.toInt ≤ 4 ∧ 1 ≤ v_imageColumns.toInt ∧ v_imageColumns.toInt ≤ 8 ∧ lv9 v_imageRows v_imageColumns wv_shapeRows wv_shapeColumns wv_row wv_column (5 : Int32) := fun hk => (by
    obtain ⟨j_0, j_1, j_2, j_3, j_4⟩ := a_1_13 hk
    exact ⟨j_0, j_1, j_2, j_3, lv9_fr j_4 q_19 q_20 q_17 q_18 (by omega) (by omega) (by omega) (by omega) (i_fl j_0 j_1 j_2 j_3).2.2⟩)
  exact ⟨⟨a_1_0, a_1_1, a_1_2, a_1_3, q_2, q_3, q_4, q_5, q_6, q_7, q_8, q_9, l_0, l_5⟩, ⟨a_2_0, a_2_1, a_2_2, a_2_3, a_2_4, a_2_5, q_10, q_11, q_12, q_13, q_14⟩, ⟨q_0, q_1, q_15, q_16⟩⟩
set_option maxHeartbeats 4000000 in
set_option maxRecDepth 20000 in
theorem st9_wind {x1 : Int32} {x2 : Int32} {x3 : Int32} {v_rowsOf : Int32} {v_columnsOf : Int32} {v_textMany : Int32} {v_base : Int32} {v_at : Int32} {v_ends : Int32} {v_fault : Int32} {v_opened : Int32} {v_bentMany : Int32} {v_bentWrong : Int32} {v_moreWorn : Int32} {v_planned : Int32} {v_allWrong : Int32} {v_allWorn : Int32} {v_z : Int32} {v_limit : List Int32} {v_shapeRows : List Int32} {v_shapeColumns : List Int32} {v_row : List Int32} {v_column : List Int32} {v_below : List Int32} {v_face : List Int32} {v_worn : List Int32} {v_lastBend : List Int32} {v_tape : List Int32} {v_text : List Int32} {v_names : List Int32} {v_bends : List Int32} {v_high : List Int32} {v_to : List Int32} {v_pileSize : List Int32} {v_planLine : List Int32} {v_planWay : List Int32} {v_keptMany : Int32} {v_done : Int32} {v_changeWas : List Int32} {v_changeIs : List Int32} {v_isKept : Bool} {v_imageRows : Int32} {v_imageColumns : Int32} {v_tapeMany : Int32} (g_0 : gm_ch v_keptMany v_done v_limit v_changeWas v_changeIs) (g_1 : gm_sh v_rowsOf v_columnsOf v_isKept v_imageRows v_imageColumns v_shapeRows v_shapeColumns v_row v_column v_below v_face v_worn v_lastBend) (g_2 : gm_tx v_tapeMany v_textMany v_tape v_text v_names v_bends v_high v_to v_pileSize) (g_3 : gm_pl v_planned v_planLine v_planWay) : wp (fX9_wind 700 x1 x2 x3 v_rowsOf v_columnsOf v_textMany v_base v_at v_ends v_fault v_opened v_bentMany v_bentWrong v_moreWorn v_planned v_allWrong v_allWorn v_z v_limit v_shapeRows v_shapeColumns v_row v_column v_below v_face v_worn v_lastBend v_tape v_text v_names v_bends v_high v_to v_pileSize v_planLine v_planWay) (cu25 (fun (r : Int32) (wv_base : Int32) (wv_at : Int32) (wv_ends : Int32) (wv_fault : Int32) (wv_opened : Int32) (wv_bentMany : Int32) (wv_bentWrong : Int32) (wv_moreWorn : Int32) (wv_allWrong : Int32) (wv_allWorn : Int32) (wv_z : Int32) (wv_shapeRows : List Int32) (wv_shapeColumns : List Int32) (wv_row : List Int32) (wv_column : List Int32) (wv_below : List Int32) (wv_face : List Int32) (wv_worn : List Int32) (wv_lastBend : List Int32) (wv_names : List Int32) (wv_bends : List Int32) (wv_high : List Int32) (wv_to : List Int32) (wv_pileSize : List Int32) => gm_sh v_rowsOf v_columnsOf v_isKept v_imageRows v_imageColumns wv_shapeRows wv_shapeColumns wv_row wv_column wv_below wv_face wv_worn wv_lastBend ∧ gm_tx v_tapeMany v_textMany v_tape v_text wv_names wv_bends wv_high wv_to wv_pileSize)) := by
  obtain ⟨a_0_0, a_0_1, a_0_2, a_0_3, a_0_4, a_0_5, a_0_6, a_0_7⟩ := id g_0
  obtain ⟨a_1_0, a_1_1, a_1_2, a_1_3, a_1_4, a_1_5, a_1_6, a_1_7, a_1_8, a_1_9, a_1_10, a_1_11, a_1_12, a_1_13⟩ := id g_1
  obtain ⟨a_2_0, a_2_1, a_2_2, a_2_3, a_2_4, a_2_5, a_2_6, a_2_7, a_2_8, a_2_9, a_2_10⟩ := id g_2
  obtain ⟨a_3_0, a_3_1, a_3_2, a_3_3⟩ := id g_3
  have n0 : (0 : Int32).toInt = 0 := by decide
  have n1 : (1 : Int32).toInt = 1 := by decide
  have n5 : (5 : Int32).toInt = 5 := by decide
  refine wp_cu25 (sf_X9_wind (u_row := v_row) (u_col := v_column) (u_sR := v_shapeRows) (u_sC := v_shapeColumns) (A := 32) (B9 := 160) (a9 := 1) (b9 := 5) (Nat.le_refl 700) a_1_0 a_1_1 a_1_2 a_1_3 a_2_2 a_2_3 a_3_0 a_3_1 a_0_4 a_1_4 a_1_5 a_1_6 a_1_7 a_1_8 a_1_9 a_1_10 a_1_11 a_2_4 a_2_5 a_2_6 a_2_7 a_2_8 a_2_9 a_2_10 a_3_2 a_3_3 (fr_refl _ _ _) (fr_refl _ _ _) (fr_refl _ _ _) (fr_refl _ _ _) (by omega) (by omega) (by omega) (by omega)) (fun r wv_base wv_at wv_ends wv_fault wv_opened wv_bentMany wv_bentWrong wv_moreWorn wv_allWrong wv_allWorn wv_z wv_shapeRows wv_shapeColumns wv_row wv_column wv_below wv_face wv_worn wv_lastBend wv_names wv_bends wv_high wv_to wv_pileSize ⟨q_0, q_1, q_2, q_3, q_4, q_5, q_6, q_7, q_8, q_9, q_10, q_11, q_12, q_13, q_14, q_15, q_16⟩ => ?_)
  have l_0 : lv9 v_rowsOf v_columnsOf wv_shapeRows wv_shapeColumns wv_row wv_column (0 : Int32) := lv9_fr a_1_12 q_15 q_16 q_13 q_14 (by omega) (by omega) (by omega) (by omega) (i_fl a_1_0 a_1_1 a_1_2 a_1_3).2.2
  have l_5 : ¬ (v_isKept = false) → 1 ≤ v_imageRows.toInt ∧ v_imageRows.toInt ≤ 4 ∧ 1 ≤ v_imageColumns.toInt ∧ v_imageColumns.toInt ≤ 8 ∧ lv9 v_imageRows v_imageColumns wv_shapeRows wv_shapeColumns wv_row wv_column (5 : Int32) := fun hk => (by
    obtain ⟨j_0, j_1, j_2, j_3, j_4⟩ := a_1_13 hk
    exact ⟨j_0, j_1, j_2, j_3, lv9_fr j_4 q_15 q_16 q_13 q_14 (by omega) (by omega) (by omega) (by omega) (i_fl j_0 j_1 j_2 j_3).2.2⟩)
  exact ⟨⟨a_1_0, a_1_1, a_1_2, a_1_3, q_0, q_1, q_2, q_3, q_4, q_5, q_6, q_7, l_0, l_5⟩, ⟨a_2_0, a_2_1, a_2_2, a_2_3, a_2_4, a_2_5, q_8, q_9, q_10, q_11, q_12⟩⟩
set_option maxHeartbeats 4000000 in
set_option maxRecDepth 20000 in
theorem st9_crosses {x1 : Int32} {x2 : Int32} {v_order1 : List Int32} {v_placeIn : List Int32} (g_0 : gm_or v_order1 v_placeIn) : wp (fX9_crosses 700 x1 x2 v_order1 v_placeIn) (cu3 (fun (r : Int32) (wv_order1 : List Int32) (wv_placeIn : List Int32) => gm_or wv_order1 wv_placeIn)) := by
  obtain ⟨a_0_0, a_0_1⟩ := id g_0
  refine wp_cu3 (sf_X9_crosses (Nat.le_refl 700) a_0_0 a_0_1) (fun r wv_order1 wv_placeIn ⟨q_0, q_1⟩ => ?_)
  exact ⟨q_0, q_1⟩
set_option maxHeartbeats 4000000 in
set_option maxRecDepth 20000 in
theorem st9_orders {x1 : Int32} {x2 : Int32} {v_soughtBy : Int32} {v_sought : Int32} {v_soughtAt : Int32} {v_foundMany : Int32} {v_foundOrder : Int32} {v_order1 : List Int32} {v_placeIn : List Int32} (g_0 : gm_or v_order1 v_placeIn) : wp (fX9_orders 700 x1 x2 v_soughtBy v_sought v_soughtAt v_foundMany v_foundOrder v_order1 v_placeIn) (cu8 (fun (r : Int32) (wv_soughtBy : Int32) (wv_sought : Int32) (wv_soughtAt : Int32) (wv_foundMany : Int32) (wv_foundOrder : Int32) (wv_order1 : List Int32) (wv_placeIn : List Int32) => gm_or wv_order1 wv_placeIn)) := by
  obtain ⟨a_0_0, a_0_1⟩ := id g_0
  refine wp_cu8 (sf_X9_orders (Nat.le_refl 700) a_0_0 a_0_1) (fun r wv_soughtBy wv_sought wv_soughtAt wv_foundMany wv_foundOrder wv_order1 wv_placeIn ⟨q_0, q_1⟩ => ?_)
  exact ⟨q_0, q_1⟩
set_option maxHeartbeats 4000000 in
set_option maxRecDepth 20000 in
theorem st9_bends {x1 : Int32} {x2 : Int32} {v_order1 : List Int32} {v_placeIn : List Int32} (g_0 : gm_or v_order1 v_placeIn) : wp (fX9_bends 700 x1 x2 v_order1 v_placeIn) (cu3 (fun (r : Int32) (wv_order1 : List Int32) (wv_placeIn : List Int32) => gm_or wv_order1 wv_placeIn)) := by
  obtain ⟨a_0_0, a_0_1⟩ := id g_0
  refine wp_cu3 (sf_X9_bends (Nat.le_refl 700) a_0_0 a_0_1) (fun r wv_order1 wv_placeIn ⟨q_0, q_1⟩ => ?_)
  exact ⟨q_0, q_1⟩
set_option maxHeartbeats 4000000 in
set_option maxRecDepth 20000 in
theorem st9_by {x1 : Int32} {x2 : Int32} {x3 : Int32} {v_soughtBy : Int32} {v_sought : Int32} {v_soughtAt : Int32} {v_foundMany : Int32} {v_foundOrder : Int32} {v_order1 : List Int32} {v_placeIn : List Int32} (g_0 : gm_or v_order1 v_placeIn) : wp (fX9_by 700 x1 x2 x3 v_soughtBy v_sought v_soughtAt v_foundMany v_foundOrder v_order1 v_placeIn) (cu8 (fun (r : Int32) (wv_soughtBy : Int32) (wv_sought : Int32) (wv_soughtAt : Int32) (wv_foundMany : Int32) (wv_foundOrder : Int32) (wv_order1 : List Int32) (wv_placeIn : List Int32) => gm_or wv_order1 wv_placeIn)) := by
  obtain ⟨a_0_0, a_0_1⟩ := id g_0
  refine wp_cu8 (sf_X9_by (Nat.le_refl 700) a_0_0 a_0_1) (fun r wv_soughtBy wv_sought wv_soughtAt wv_foundMany wv_foundOrder wv_order1 wv_placeIn ⟨q_0, q_1⟩ => ?_)
  exact ⟨q_0, q_1⟩
set_option maxHeartbeats 4000000 in
set_option maxRecDepth 20000 in
theorem st9_with {x1 : Int32} {x2 : Int32} {v_soughtBy : Int32} {v_sought : Int32} {v_soughtAt : Int32} {v_foundMany : Int32} {v_foundOrder : Int32} {v_order1 : List Int32} {v_placeIn : List Int32} (g_0 : gm_or v_order1 v_placeIn) : wp (fX9_with 700 x1 x2 v_soughtBy v_sought v_soughtAt v_foundMany v_foundOrder v_order1 v_placeIn) (cu8 (fun (r : Int32) (wv_soughtBy : Int32) (wv_sought : Int32) (wv_soughtAt : Int32) (wv_foundMany : Int32) (wv_foundOrder : Int32) (wv_order1 : List Int32) (wv_placeIn : List Int32) => gm_or wv_order1 wv_placeIn)) := by
  obtain ⟨a_0_0, a_0_1⟩ := id g_0
  refine wp_cu8 (sf_X9_with (Nat.le_refl 700) a_0_0 a_0_1) (fun r wv_soughtBy wv_sought wv_soughtAt wv_foundMany wv_foundOrder wv_order1 wv_placeIn ⟨q_0, q_1⟩ => ?_)
  exact ⟨q_0, q_1⟩
set_option maxHeartbeats 4000000 in
set_option maxRecDepth 20000 in
theorem st9_image {v_rowsOf : Int32} {v_columnsOf : Int32} {v_folded : Int32} {v_wronged : Int32} {v_isKept : Bool} {v_imageRows : Int32} {v_imageColumns : Int32} {v_imageFolded : Int32} {v_imageWronged : Int32} {v_shapeRows : List Int32} {v_shapeColumns : List Int32} {v_row : List Int32} {v_column : List Int32} {v_below : List Int32} {v_face : List Int32} {v_worn : List Int32} {v_lastBend : List Int32} (g_0 : gm_sh v_rowsOf v_columnsOf v_isKept v_imageRows v_imageColumns v_shapeRows v_shapeColumns v_row v_column v_below v_face v_worn v_lastBend) : wp (fX9_image 700 v_rowsOf v_columnsOf v_folded v_wronged v_isKept v_imageRows v_imageColumns v_imageFolded v_imageWronged v_shapeRows v_shapeColumns v_row v_column v_below v_face v_worn v_lastBend) (cu14 (fun (r : Int32) (wv_isKept : Bool) (wv_imageRows : Int32) (wv_imageColumns : Int32) (wv_imageFolded : Int32) (wv_imageWronged : Int32) (wv_shapeRows : List Int32) (wv_shapeColumns : List Int32) (wv_row : List Int32) (wv_column : List Int32) (wv_below : List Int32) (wv_face : List Int32) (wv_worn : List Int32) (wv_lastBend : List Int32) => gm_sh v_rowsOf v_columnsOf wv_isKept wv_imageRows wv_imageColumns wv_shapeRows wv_shapeColumns wv_row wv_column wv_below wv_face wv_worn wv_lastBend)) := by
  obtain ⟨a_0_0, a_0_1, a_0_2, a_0_3, a_0_4, a_0_5, a_0_6, a_0_7, a_0_8, a_0_9, a_0_10, a_0_11, a_0_12, a_0_13⟩ := id g_0
  have n0 : (0 : Int32).toInt = 0 := by decide
  have n1 : (1 : Int32).toInt = 1 := by decide
  have n5 : (5 : Int32).toInt = 5 := by decide
  refine wp_cu14 (sf_X9_image (u_row := v_row) (u_col := v_column) (u_sR := v_shapeRows) (u_sC := v_shapeColumns) (A := 160) (B9 := 192) (a9 := 5) (b9 := 6) (Nat.le_refl 700) a_0_0 a_0_1 a_0_2 a_0_3 a_0_4 a_0_5 a_0_6 a_0_7 a_0_8 a_0_9 a_0_10 a_0_11 (fr_refl _ _ _) (fr_refl _ _ _) (fr_refl _ _ _) (fr_refl _ _ _) (by omega) (by omega) (by omega) (by omega) a_0_12) (fun r wv_isKept wv_imageRows wv_imageColumns wv_imageFolded wv_imageWronged wv_shapeRows wv_shapeColumns wv_row wv_column wv_below wv_face wv_worn wv_lastBend ⟨q_0, q_1, q_2, q_3, q_4, q_5, q_6, q_7, q_8, q_9, q_10, q_11, q_12, q_13, q_14, q_15, q_16⟩ => ?_)
  have l_0 : lv9 v_rowsOf v_columnsOf wv_shapeRows wv_shapeColumns wv_row wv_column (0 : Int32) := lv9_fr a_0_12 q_10 q_11 q_8 q_9 (by omega) (by omega) (by omega) (by omega) (i_fl a_0_0 a_0_1 a_0_2 a_0_3).2.2
  exact ⟨a_0_0, a_0_1, a_0_2, a_0_3, q_0, q_1, q_2, q_3, q_4, q_5, q_6, q_7, l_0, (fun _ => ⟨q_13, q_14, q_15, q_16, q_12⟩)⟩
set_option maxHeartbeats 4000000 in
set_option maxRecDepth 20000 in
theorem st9_back {v_rowsOf : Int32} {v_columnsOf : Int32} {v_folded : Int32} {v_wronged : Int32} {v_isKept : Bool} {v_imageRows : Int32} {v_imageColumns : Int32} {v_imageFolded : Int32} {v_imageWronged : Int32} {v_shapeRows : List Int32} {v_shapeColumns : List Int32} {v_row : List Int32} {v_column : List Int32} {v_below : List Int32} {v_face : List Int32} {v_worn : List Int32} {v_lastBend : List Int32} (g_0 : gm_sh v_rowsOf v_columnsOf v_isKept v_imageRows v_imageColumns v_shapeRows v_shapeColumns v_row v_column v_below v_face v_worn v_lastBend) : wp (fX9_back 700 v_rowsOf v_columnsOf v_folded v_wronged v_isKept v_imageRows v_imageColumns v_imageFolded v_imageWronged v_shapeRows v_shapeColumns v_row v_column v_below v_face v_worn v_lastBend) (cu13 (fun (r : Int32) (wv_rowsOf : Int32) (wv_columnsOf : Int32) (wv_folded : Int32) (wv_wronged : Int32) (wv_shapeRows : List Int32) (wv_shapeColumns : List Int32) (wv_row : List Int32) (wv_column : List Int32) (wv_below : List Int32) (wv_face : List Int32) (wv_worn : List Int32) (wv_lastBend : List Int32) => gm_sh wv_rowsOf wv_columnsOf v_isKept v_imageRows v_imageColumns wv_shapeRows wv_shapeColumns wv_row wv_column wv_below wv_face wv_worn wv_lastBend)) := by
  obtain ⟨a_0_0, a_0_1, a_0_2, a_0_3, a_0_4, a_0_5, a_0_6, a_0_7, a_0_8, a_0_9, a_0_10, a_0_11, a_0_12, a_0_13⟩ := id g_0
  have n0 : (0 : Int32).toInt = 0 := by decide
  have n1 : (1 : Int32).toInt = 1 := by decide
  have n5 : (5 : Int32).toInt = 5 := by decide
  by_cases hK : v_isKept = false
  · subst hK
    exact wp_of (bk_f _ _ _ _ _ _ _ _ _ _ _ _ _ _ _ _ _) (wp_so13 g_0)
  · obtain ⟨k_0, k_1, k_2, k_3, k_4⟩ := a_0_13 hK
    refine wp_cu13 (sf_X9_back (u_row := v_row) (u_col := v_column) (u_sR := v_shapeRows) (u_sC := v_shapeColumns) (A := 0) (B9 := 32) (a9 := 0) (b9 := 1) (Nat.le_refl 700) a_0_0 a_0_1 a_0_2 a_0_3 a_0_4 a_0_5 a_0_6 a_0_7 a_0_8 a_0_9 a_0_10 a_0_11 (fr_refl _ _ _) (fr_refl _ _ _) (fr_refl _ _ _) (fr_refl _ _ _) (by omega) (by omega) (by omega) (by omega) hK k_0 k_1 k_2 k_3 k_4) (fun r wv_rowsOf wv_columnsOf wv_folded wv_wronged wv_shapeRows wv_shapeColumns wv_row wv_column wv_below wv_face wv_worn wv_lastBend ⟨q_0, q_1, q_2, q_3, q_4, q_5, q_6, q_7, q_8, q_9, q_10, q_11, q_12, q_13, q_14, q_15, q_16⟩ => ?_)
    have l_5 : ¬ (v_isKept = false) → 1 ≤ v_imageRows.toInt ∧ v_imageRows.toInt ≤ 4 ∧ 1 ≤ v_imageColumns.toInt ∧ v_imageColumns.toInt ≤ 8 ∧ lv9 v_imageRows v_imageColumns wv_shapeRows wv_shapeColumns wv_row wv_column (5 : Int32) := fun hk => (by
      obtain ⟨j_0, j_1, j_2, j_3, j_4⟩ := a_0_13 hk
      exact ⟨j_0, j_1, j_2, j_3, lv9_fr j_4 q_14 q_15 q_12 q_13 (by omega) (by omega) (by omega) (by omega) (i_fl j_0 j_1 j_2 j_3).2.2⟩)
    exact ⟨q_0, q_1, q_2, q_3, q_4, q_5, q_6, q_7, q_8, q_9, q_10, q_11, q_16, l_5⟩
set_option maxHeartbeats 4000000 in
set_option maxRecDepth 20000 in
theorem st9_undo {v_done : Int32} {v_limit : List Int32} {v_changeWas : List Int32} {v_keptMany : Int32} {v_changeIs : List Int32} (g_0 : gm_ch v_keptMany v_done v_limit v_changeWas v_changeIs) : wp (fX9_undo 700 v_done v_limit v_changeWas) (cu3 (fun (r : Int32) (wv_done : Int32) (wv_limit : List Int32) => gm_ch v_keptMany wv_done wv_limit v_changeWas v_changeIs)) := by
  obtain ⟨a_0_0, a_0_1, a_0_2, a_0_3, a_0_4, a_0_5, a_0_6, a_0_7⟩ := id g_0
  refine wp_cu3 (sf_X9_undo (Nat.le_refl 700) a_0_2 a_0_3 a_0_4 a_0_5) (fun r wv_done wv_limit ⟨q_0, q_1, q_2, q_3⟩ => ?_)
  exact ⟨a_0_0, a_0_1, q_0, q_1, q_2, a_0_5, a_0_6, (by omega)⟩
set_option maxHeartbeats 4000000 in
set_option maxRecDepth 20000 in
theorem st9_redo {v_keptMany : Int32} {v_done : Int32} {v_limit : List Int32} {v_changeIs : List Int32} {v_changeWas : List Int32} (g_0 : gm_ch v_keptMany v_done v_limit v_changeWas v_changeIs) : wp (fX9_redo 700 v_keptMany v_done v_limit v_changeIs) (cu3 (fun (r : Int32) (wv_done : Int32) (wv_limit : List Int32) => gm_ch v_keptMany wv_done wv_limit v_changeWas v_changeIs)) := by
  obtain ⟨a_0_0, a_0_1, a_0_2, a_0_3, a_0_4, a_0_5, a_0_6, a_0_7⟩ := id g_0
  refine wp_cu3 (sf_X9_redo (Nat.le_refl 700) a_0_0 a_0_1 a_0_2 a_0_3 a_0_4 a_0_6 a_0_7) (fun r wv_done wv_limit ⟨q_0, q_1, q_2, q_3⟩ => ?_)
  exact ⟨a_0_0, a_0_1, q_0, q_1, q_2, a_0_5, a_0_6, q_3⟩
set_option maxHeartbeats 4000000 in
set_option maxRecDepth 20000 in
theorem st9_body {x1 : Int32} {v_bodies : Int32} {v_bodyKind : List Int32} {v_trace : List Int32} (g_0 : gm_bo v_bodies v_bodyKind v_trace) : wp (fX9_body 700 x1 v_bodies v_bodyKind) (cu3 (fun (r : Int32) (wv_bodies : Int32) (wv_bodyKind : List Int32) => gm_bo wv_bodies wv_bodyKind v_trace)) := by
  obtain ⟨a_0_0, a_0_1, a_0_2, a_0_3, a_0_4⟩ := id g_0
  refine wp_cu3 (sfb_X9_body a_0_0 a_0_1 a_0_2 a_0_4) (fun r wv_bodies wv_bodyKind ⟨q_0, q_1, q_2, q_3⟩ => ?_)
  exact ⟨q_0, q_1, q_2, a_0_3, q_3⟩
set_option maxHeartbeats 4000000 in
set_option maxRecDepth 20000 in
theorem st9_trace {x1 : Int32} {v_ran : Int32} {v_trace : List Int32} {v_bodies : Int32} {v_bodyKind : List Int32} (g_0 : gm_bo v_bodies v_bodyKind v_trace) : wp (fX9_trace 700 x1 v_ran v_trace) (fun (r : Int32) => True) := by
  obtain ⟨a_0_0, a_0_1, a_0_2, a_0_3, a_0_4⟩ := id g_0
  refine wp_cu1 (sf_X9_trace (Nat.le_refl 700) a_0_3) (fun r _ => ?_)
  exact trivial
set_option maxHeartbeats 4000000 in
set_option maxRecDepth 20000 in
theorem st9_keep {x1 : Int32} {x2 : Int32} {v_bodies : Int32} {v_shelf : List Int32} {v_many : List Int32} {v_bodyKind : List Int32} {v_trace : List Int32} {v_items : List Int64} {v_carried : List Int64} (g_0 : gm_bo v_bodies v_bodyKind v_trace) (g_1 : gm_sf v_shelf v_many v_items v_carried) : wp (fX9_keep 700 x1 x2 v_bodies v_shelf v_many) (cu3 (fun (r : Int32) (wv_shelf : List Int32) (wv_many : List Int32) => gm_sf wv_shelf wv_many v_items v_carried)) := by
  obtain ⟨a_0_0, a_0_1, a_0_2, a_0_3, a_0_4⟩ := id g_0
  obtain ⟨a_1_0, a_1_1, a_1_2, a_1_3, a_1_4⟩ := id g_1
  refine wp_cu3 (sf_X9_keep (Nat.le_refl 700) a_0_0 a_0_1 a_1_0 a_1_1 a_1_4) (fun r wv_shelf wv_many ⟨q_0, q_1, q_2⟩ => ?_)
  exact ⟨q_0, q_1, a_1_2, a_1_3, q_2⟩
set_option maxHeartbeats 4000000 in
set_option maxRecDepth 20000 in
theorem st9_row {x1 : Int32} {x2 : Int32} {x3 : Int32} {v_shelf : List Int32} {v_many : List Int32} {v_items : List Int64} {v_carried : List Int64} (g_0 : gm_sf v_shelf v_many v_items v_carried) : wp (fX9_row 700 x1 x2 x3 v_shelf v_many v_items) (cu4 (fun (r : Int32) (wv_shelf : List Int32) (wv_many : List Int32) (wv_items : List Int64) => gm_sf wv_shelf wv_many wv_items v_carried)) := by
  obtain ⟨a_0_0, a_0_1, a_0_2, a_0_3, a_0_4⟩ := id g_0
  refine wp_cu4 (sf_X9_row (Nat.le_refl 700) a_0_0 a_0_1 a_0_2 a_0_4) (fun r wv_shelf wv_many wv_items ⟨q_0, q_1, q_2, q_3⟩ => ?_)
  exact ⟨q_0, q_1, q_2, a_0_3, q_3⟩
set_option maxHeartbeats 4000000 in
set_option maxRecDepth 20000 in
theorem st9_put {x1 : Int32} {x2 : Int32} {x3 : Int64} {v_shelf : List Int32} {v_many : List Int32} {v_items : List Int64} {v_carried : List Int64} (g_0 : gm_sf v_shelf v_many v_items v_carried) : wp (fX9_put 700 x1 x2 x3 v_shelf v_many v_items) (cu2 (fun (r : Int32) (wv_items : List Int64) => gm_sf v_shelf v_many wv_items v_carried)) := by
  obtain ⟨a_0_0, a_0_1, a_0_2, a_0_3, a_0_4⟩ := id g_0
  refine wp_cu2 (sf_X9_put (Nat.le_refl 700) a_0_0 a_0_1 a_0_2 a_0_4) (fun r wv_items q_0 => ?_)
  exact ⟨a_0_0, a_0_1, q_0, a_0_3, a_0_4⟩
set_option maxHeartbeats 4000000 in
set_option maxRecDepth 20000 in
theorem st9_element {x1 : Int32} {x2 : Int32} {v_shelf : List Int32} {v_many : List Int32} {v_items : List Int64} {v_carried : List Int64} (g_0 : gm_sf v_shelf v_many v_items v_carried) : wp (fX9_element 700 x1 x2 v_shelf v_many v_items) (fun (r : Int64) => True) := by
  obtain ⟨a_0_0, a_0_1, a_0_2, a_0_3, a_0_4⟩ := id g_0
  refine wp_cu1 (sf_X9_element (Nat.le_refl 700) a_0_0 a_0_1 a_0_2 a_0_4) (fun r _ => ?_)
  exact trivial
set_option maxHeartbeats 4000000 in
set_option maxRecDepth 20000 in
theorem st9_shift {x1 : Int32} {x2 : Int32} {x3 : Int32} {x4 : Int32} {x5 : Int32} {v_shelf : List Int32} {v_many : List Int32} {v_items : List Int64} {v_carried : List Int64} (g_0 : gm_sf v_shelf v_many v_items v_carried) : wp (fX9_shift 700 x1 x2 x3 x4 x5 v_shelf v_many v_items v_carried) (cu3 (fun (r : Int32) (wv_items : List Int64) (wv_carried : List Int64) => gm_sf v_shelf v_many wv_items wv_carried)) := by
  obtain ⟨a_0_0, a_0_1, a_0_2, a_0_3, a_0_4⟩ := id g_0
  refine wp_cu3 (sf_X9_shift (Nat.le_refl 700) a_0_0 a_0_1 a_0_2 a_0_3 a_0_4) (fun r wv_items wv_carried ⟨q_0, q_1⟩ => ?_)
  exact ⟨a_0_0, a_0_1, q_0, q_1, a_0_4⟩
set_option maxHeartbeats 4000000 in
set_option maxRecDepth 20000 in
theorem st9_taken {x1 : Int32} {x2 : Int32} {v_bodyKind : List Int32} {v_shelf : List Int32} {v_bodies : Int32} {v_trace : List Int32} {v_many : List Int32} {v_items : List Int64} {v_carried : List Int64} (g_0 : gm_bo v_bodies v_bodyKind v_trace) (g_1 : gm_sf v_shelf v_many v_items v_carried) : wp (fX9_taken 700 x1 x2 v_bodyKind v_shelf) (fun (r : Int32) => True) := by
  obtain ⟨a_0_0, a_0_1, a_0_2, a_0_3, a_0_4⟩ := id g_0
  obtain ⟨a_1_0, a_1_1, a_1_2, a_1_3, a_1_4⟩ := id g_1
  refine wp_cu1 (sf_X9_taken (Nat.le_refl 700) a_0_2 a_1_0) (fun r _ => ?_)
  exact trivial
set_option maxHeartbeats 4000000 in
set_option maxRecDepth 20000 in
theorem st9_count {x1 : Int32} {v_done : Int32} {v_rowsOf : Int32} {v_columnsOf : Int32} {v_tapeMany : Int32} {v_planned : Int32} {v_bodies : Int32} {v_ran : Int32} {v_keptMany : Int32} {v_limit : List Int32} {v_changeWas : List Int32} {v_changeIs : List Int32} {v_isKept : Bool} {v_imageRows : Int32} {v_imageColumns : Int32} {v_shapeRows : List Int32} {v_shapeColumns : List Int32} {v_row : List Int32} {v_column : List Int32} {v_below : List Int32} {v_face : List Int32} {v_worn : List Int32} {v_lastBend : List Int32} {v_textMany : Int32} {v_tape : List Int32} {v_text : List Int32} {v_names : List Int32} {v_bends : List Int32} {v_high : List Int32} {v_to : List Int32} {v_pileSize : List Int32} {v_planLine : List Int32} {v_planWay : List Int32} {v_bodyKind : List Int32} {v_trace : List Int32} (g_0 : gm_ch v_keptMany v_done v_limit v_changeWas v_changeIs) (g_1 : gm_sh v_rowsOf v_columnsOf v_isKept v_imageRows v_imageColumns v_shapeRows v_shapeColumns v_row v_column v_below v_face v_worn v_lastBend) (g_2 : gm_tx v_tapeMany v_textMany v_tape v_text v_names v_bends v_high v_to v_pileSize) (g_3 : gm_pl v_planned v_planLine v_planWay) (g_4 : gm_bo v_bodies v_bodyKind v_trace) : wp (fX9_count 700 x1 v_done v_rowsOf v_columnsOf v_tapeMany v_planned v_bodies v_ran) (fun (r : Int32) => True) := by
  obtain ⟨a_0_0, a_0_1, a_0_2, a_0_3, a_0_4, a_0_5, a_0_6, a_0_7⟩ := id g_0
  obtain ⟨a_1_0, a_1_1, a_1_2, a_1_3, a_1_4, a_1_5, a_1_6, a_1_7, a_1_8, a_1_9, a_1_10, a_1_11, a_1_12, a_1_13⟩ := id g_1
  obtain ⟨a_2_0, a_2_1, a_2_2, a_2_3, a_2_4, a_2_5, a_2_6, a_2_7, a_2_8, a_2_9, a_2_10⟩ := id g_2
  obtain ⟨a_3_0, a_3_1, a_3_2, a_3_3⟩ := id g_3
  obtain ⟨a_4_0, a_4_1, a_4_2, a_4_3, a_4_4⟩ := id g_4
  refine wp_cu1 (sf_X9_count (Nat.le_refl 700) a_0_2 a_0_3 a_1_0 a_1_1 a_1_2 a_1_3 a_2_0 a_2_1 a_3_0 a_3_1 a_4_0 a_4_1) (fun r _ => ?_)
  exact trivial
end
section
/-! The fresh objects -/
theorem fnd_0 : fnd (mm_zs 8) := fun i j h1 h2 e => by
  have f : ∀ c : Int32, j.toInt = c.toInt → j = c := fun c e => Int32.toInt_inj.mp e
  have g : ∀ c : Int32, i.toInt = c.toInt → i = c := fun c e => Int32.toInt_inj.mp e
  have n2 : (2 : Int32).toInt = 2 := by decide
  have n3 : (3 : Int32).toInt = 3 := by decide
  have n4 : (4 : Int32).toInt = 4 := by decide
  have n5 : (5 : Int32).toInt = 5 := by decide
  have n6 : (6 : Int32).toInt = 6 := by decide
  have n7 : (7 : Int32).toInt = 7 := by decide
  have n8 : (8 : Int32).toInt = 8 := by decide
  rcases (show i.toInt = 2 ∨ i.toInt = 3 ∨ i.toInt = 4 ∨ i.toInt = 5 ∨ i.toInt = 6 ∨ i.toInt = 7 by omega) with k | k | k | k | k | k
  · rw [f 3 (by omega), g 2 (by omega)]; decide +kernel
  · rw [f 4 (by omega), g 3 (by omega)]; decide +kernel
  · rw [f 5 (by omega), g 4 (by omega)]; decide +kernel
  · rw [f 6 (by omega), g 5 (by omega)]; decide +kernel
  · rw [f 7 (by omega), g 6 (by omega)]; decide +kernel
  · rw [f 8 (by omega), g 7 (by omega)]; decide +kernel
theorem nw_sh : gi_sh 2 4 2 4 z5_rowOf z5_colOf (mm_zs 32) (mm_zs 32) (mm_zs 64) (mm_zs 64) (mm_zs 64) (mm_zs 32) := ⟨(by decide), (by decide), (by decide), (by decide), (by decide), (by decide), (by decide), (by decide), (by decide +kernel), (by decide +kernel), (by decide +kernel), (by decide +kernel), (by decide +kernel), (by decide +kernel), (by decide +kernel), (by decide +kernel), (zn_len (by decide +kernel) _), (zn_len (by decide +kernel) _)⟩
theorem nw_ch : gi_ch 0 0 (mm_zs 40) (mm_zs 40) := ⟨(by decide), (by decide), (by decide), (by decide), (by decide +kernel), (by decide +kernel)⟩
theorem nw_la : gi_la 0 0 0 (mm_zs 120) (mm_zs 121) (mm_zs 121) (mm_zs 121) := ⟨(by decide), (by decide), (by decide), (by decide), (by decide), (by decide), (by decide +kernel), (by decide +kernel), (by decide +kernel), (by decide +kernel)⟩
theorem nw_pl : gi_pl 0 (mm_zs 12) (mm_zs 12) := ⟨(by decide), (by decide), (by decide +kernel), (by decide +kernel)⟩
theorem nw_sf : gi_sf 0 (mm_zl 60) := ⟨(by decide), (by decide), (by decide +kernel)⟩
theorem nw_se : gi_se 0 (mm_zs 3) (mm_zs 3) := ⟨(by decide), (by decide), (by decide +kernel), (by decide +kernel)⟩
theorem nw_st : gi_st (mm_zs 7) (mm_zs 680) (mm_zs 8) := ⟨(by decide +kernel), (by decide +kernel), (by decide +kernel), fnd_0⟩
theorem nw_fo : gi_fo 0 (mm_zs 50) (mm_zs 24) := ⟨(by decide), (by decide), (by decide +kernel), (by decide +kernel), (zn_len (by decide +kernel) _)⟩
theorem nw_gm_ch : gm_ch 0 0 z9_limit (mm_zs 40) (mm_zs 40) := ⟨(by decide), (by decide), (by decide), (by decide), (by decide +kernel), (by decide +kernel), (by decide +kernel), (by decide)⟩
theorem nw_gm_sh : gm_sh 2 4 false 0 0 z9_shapeRows z9_shapeColumns z9_row z9_column (mm_zs 192) (mm_zs 192) (mm_zs 384) (mm_zs 384) := ⟨(by decide), (by decide), (by decide), (by decide), (by decide +kernel), (by decide +kernel), (by decide +kernel), (by decide +kernel), (by decide +kernel), (by decide +kernel), (by decide +kernel), (by decide +kernel), ⟨by decide +kernel, by decide +kernel, by decide +kernel, by decide +kernel, zn_len (by decide +kernel) _, zn_len (by decide +kernel) _⟩, (fun h => absurd rfl h)⟩
theorem nw_gm_tx : gm_tx 0 (-1) (mm_zs 120) (mm_zs 120) (mm_zs 6) (mm_zs 64) (mm_zs 32) (mm_zs 32) (mm_zs 64) := ⟨(by decide), (by decide), (by decide), (by decide), (by decide +kernel), (by decide +kernel), (by decide +kernel), (by decide +kernel), (by decide +kernel), (by decide +kernel), (by decide +kernel)⟩
theorem nw_gm_pl : gm_pl 0 (mm_zs 12) (mm_zs 12) := ⟨(by decide), (by decide), (by decide +kernel), (by decide +kernel)⟩
theorem nw_gm_se : gm_se 0 (mm_zs 3) (mm_zs 3) := ⟨(by decide), (by decide), (by decide +kernel), (by decide +kernel)⟩
theorem nw_gm_or : gm_or (mm_zs 7) (mm_zs 7) := ⟨(by decide +kernel), (by decide +kernel)⟩
theorem nw_gm_bo : gm_bo 0 (mm_zs 50) (mm_zs 24) := ⟨(by decide), (by decide), (by decide +kernel), (by decide +kernel), (zn_len (by decide +kernel) _)⟩
theorem nw_gm_sf : gm_sf z9_shelf (mm_zs 6) (mm_zl 360) (mm_zl 60) := ⟨(by decide +kernel), (by decide +kernel), (by decide +kernel), (by decide +kernel), (zn_len (by decide +kernel) _)⟩
end
section
/-! limit, undo, redo: class and reference alike -/
theorem wp_get {α : Type} {o : Option α} {Q : α → Prop} {a : α} (h : wp o Q) (e : o = some a) : Q a := by
  obtain ⟨r, e1, q⟩ := h
  rw [e1] at e
  injection e with e
  rw [← e]
  exact q
theorem ck_t {α : Type} {c : Bool} {x : Option α} (h : c = true) : mm_ck c x = x := by
  unfold mm_ck
  rw [if_pos h]
theorem nm_eq {α β : Type} (x : α) (k : α → Option β) : mm_nm x k = k x := rfl
theorem bs_1 {α β : Type} (a : α) (k : α → Option β) : mm_bd1 (some a) k = k a := rfl
theorem bs_2 {α0 α1 β : Type} (a0 : α0) (a1 : α1) (k : α0 → α1 → Option β) : mm_bd2 (some (a0, a1)) k = k a0 a1 := rfl
theorem bs_3 {α0 α1 α2 β : Type} (a0 : α0) (a1 : α1) (a2 : α2) (k : α0 → α1 → α2 → Option β) : mm_bd3 (some (a0, a1, a2)) k = k a0 a1 a2 := rfl
def shf (l : List Int32) (k : Nat) : List Int32 := l.take (k - 1) ++ (l.drop k ++ l.drop 39)
theorem shf_step (l : List Int32) (j : Nat) (h : j + 1 < 40) (hl : l.length = 40) : shf (l.set j (l.getD (j + 1) 0)) (j + 2) = shf l (j + 1) := by
  unfold shf
  have h1 : (l.set j (l.getD (j + 1) 0)).take (j + 2 - 1) = l.take j ++ [l.getD (j + 1) 0] := by
    rw [show j + 2 - 1 = j + 1 by omega, List.take_add_one, List.take_set_of_le (Nat.le_refl j), List.getElem?_set_self (by omega)]
    rfl
  have h2 : l.drop (j + 1) = l.getD (j + 1) 0 :: l.drop (j + 2) := by
    rw [List.drop_eq_getElem_cons (by omega), List.getD_eq_getElem?_getD, List.getElem?_eq_getElem (by omega)]
    rfl
  rw [h1, h2, List.drop_set_of_lt (by omega), List.drop_set_of_lt (by omega), show j + 1 - 1 = j by omega, List.append_assoc]
  rfl
theorem shf_end (l : List Int32) (hl : l.length = 40) : shf l 40 = l := by
  unfold shf
  rw [List.drop_of_length_le (by omega), List.nil_append, show 40 - 1 = 39 by omega, List.take_append_drop]
theorem shf_cp (l : List Int32) (hl : l.length = 40) : mm_cp l l (1 : Int32) (0 : Int32) (39 : Int32) = shf l 1 := by
  unfold mm_cp shf
  rw [show (1 : Int32).toNatClampNeg = 1 by decide, show (0 : Int32).toNatClampNeg = 0 by decide, show (39 : Int32).toNatClampNeg = 39 by decide, List.take_of_length_le (l := l.drop 1) (by rw [List.length_drop]; omega)]
theorem shf_len (l : List Int32) (hl : l.length = 40) : (shf l 1).length = 40 := by
  unfold shf
  rw [List.length_append, List.length_append, List.length_take, List.length_drop, List.length_drop]
  omega
theorem li_39 (x1 x2 k d : Int32) (lim : List Int32) : ∀ (i n j : Nat) (x3 : Int32) (was is : List Int32), i + j = 39 → i < n → x3.toInt = j + 1 → was.length = 40 → is.length = 40 → fX9_limit_39 700 n x1 x2 x3 k d lim was is = fX9_limit_89 700 x1 x2 k (d - (1 : Int32)) lim (shf was (j + 1)) (shf is (j + 1)) := by
  have n40 : (40 : Int32).toInt = 40 := by decide
  have n1 : (1 : Int32).toInt = 1 := by decide
  intro i
  induction i with
  | zero =>
    intro n j x3 was is e hn hx h1 h2
    obtain ⟨n, rfl⟩ : ∃ m, n = m + 1 := ⟨n - 1, by omega⟩
    obtain rfl : j = 39 := by omega
    rw [shf_end _ h1, shf_end _ h2]
    show (if (40 : Int32) ≤ x3 then _ else _) = _
    rw [if_pos (by rw [Int32.le_iff_toInt_le]; omega)]
    rfl
  | succ i ih =>
    intro n j x3 was is e hn hx h1 h2
    obtain ⟨n, rfl⟩ : ∃ m, n = m + 1 := ⟨n - 1, by omega⟩
    have ea : (x3 - (1 : Int32)).toInt = j := by rw [i_subE rfl (by omega) (by omega)]; omega
    have eb : (x3 + (1 : Int32)).toInt = (j + 1 : Nat) + 1 := by rw [i_addE rfl (by omega) (by omega)]; omega
    have c3 : x3.toNatClampNeg = j + 1 := by show x3.toInt.toNat = _; omega
    have c2 : (x3 - (1 : Int32)).toNatClampNeg = j := by show (x3 - (1 : Int32)).toInt.toNat = _; omega
    have L := ih n (j + 1) (x3 + (1 : Int32)) (mm_is was (x3 - (1 : Int32)) (mm_ig was x3)) (mm_is is (x3 - (1 : Int32)) (mm_ig is x3)) (by omega) (by omega) eb (by rw [is_len]; exact h1) (by rw [is_len]; exact h2)
    have s1 : shf (mm_is was (x3 - (1 : Int32)) (mm_ig was x3)) (j + 1 + 1) = shf was (j + 1) := by
      unfold mm_is mm_ig
      rw [c2, c3]
      exact shf_step was j (by omega) h1
    have s2 : shf (mm_is is (x3 - (1 : Int32)) (mm_ig is x3)) (j + 1 + 1) = shf is (j + 1) := by
      unfold mm_is mm_ig
      rw [c2, c3]
      exact shf_step is j (by omega) h2
    rw [s1, s2] at L
    rw [← L]
    show (if (40 : Int32) ≤ x3 then _ else _) = _
    rw [if_neg (by rw [Int32.le_iff_toInt_le]; omega)]
    rw [ck_t (i_inb (by omega) (by omega)), nm_eq, ck_t (i_inb (by omega) (by omega)), nm_eq, ck_t (i_inb (by omega) (by omega)), nm_eq, ck_t (i_inb (by omega) (by omega)), nm_eq, nm_eq]
def rl_ch (v_value v_done v_size : Int32) (v_before v_after : List Int32) (m_keptMany m_done : Int32) (m_limit m_changeWas m_changeIs : List Int32) : Prop := m_keptMany = v_size ∧ m_done = v_done ∧ m_limit = [v_value] ∧ m_changeWas = v_before ∧ m_changeIs = v_after
theorem rl_same {v d s : Int32} {b a : List Int32} : rl_ch v d s b a s d [v] b a := ⟨rfl, rfl, rfl, rfl, rfl⟩
theorem li_89 (x v k d d' s : Int32) (b a : List Int32) (h0 : 0 ≤ d.toInt) (h1 : d.toInt < 40) (hb : b.length = 40) (ha : a.length = 40) : fX0_become_22 700 x v d s b a = some (x, d + (1 : Int32), d + (1 : Int32), mm_is b d v, mm_is a d x) ∧ fX9_limit_89 700 x v k d [v] b a = some (v, d + (1 : Int32), d + (1 : Int32), [x], mm_is b d v, mm_is a d x) := by
  unfold fX0_become_22 fX9_limit_89
  constructor
  · rw [ck_t (i_inb (by omega) (by omega)), nm_eq, ck_t (i_inb (by omega) (by omega)), nm_eq, nm_eq]
  · rw [ck_t (i_inb (by omega) (by omega)), nm_eq, ck_t (i_inb (by omega) (by omega)), nm_eq, nm_eq, ck_t (show mm_inb (0 : Int32) [v].length = true by rfl), nm_eq]
    rfl
theorem rc_limit {x v d s : Int32} {b a : List Int32} (g : gi_ch d s b a) : ∃ (r v' d' s' : Int32) (b' a' : List Int32), fX8_limit 700 x v d s b a = some (r, v', d', s', b', a') ∧ fX9_limit 700 x s d [v] b a = some (r, s', d', [v'], b', a') := by
  obtain ⟨a0, a1, a2, a3, a4, a5⟩ := g
  have n1 : (1 : Int32).toInt = 1 := by decide
  have n40 : (40 : Int32).toInt = 40 := by decide
  have n99 : (99 : Int32).toInt = 99 := by decide
  have m1 : (1 : Int64).toInt = 1 := by decide
  have m99 : (99 : Int64).toInt = 99 := by decide
  have mx := i_64 x
  unfold fX8_limit fX9_limit
  obtain ⟨w, ew, qw⟩ := sf_X9_within (Nat.le_refl 700) (x0 := x.toInt64) (x2 := 1) (x4 := 99)
  rw [ew]
  rcases qw with ⟨rfl, q0, q1⟩ | ⟨rfl, q0⟩
  · rw [if_neg (by rw [Int32.lt_iff_toInt_lt]; omega), if_pos (by rw [Int32.le_iff_toInt_le]; omega)]
    unfold fX0_become
    rw [bs_1, if_neg (show ¬ (true = false) by decide), ck_t (show mm_inb (0 : Int32) [v].length = true by rfl), nm_eq, show mm_ig [v] (0 : Int32) = v from rfl]
    by_cases e : x = v
    · rw [if_pos e, if_pos e.symm]
      exact ⟨_, _, _, _, _, _, rfl, rfl⟩
    · rw [if_neg e, if_neg (show ¬ v = x from fun h => e h.symm)]
      by_cases e4 : d = (40 : Int32)
      · rw [if_pos e4, if_pos e4]
        have hd : (d - (1 : Int32)).toInt = 39 := by rw [i_subE rfl (by rw [e4]; omega) (by rw [e4]; omega), e4]; omega
        obtain ⟨k1, k2⟩ := li_89 x v s (d - (1 : Int32)) d s (shf b 1) (shf a 1) (by omega) (by omega) (shf_len b a4) (shf_len a a5)
        rw [show fX0_forgetOldest 700 d b a = some (d - (1 : Int32), shf b 1, shf a 1) by
          unfold fX0_forgetOldest
          rw [a4, ck_t (by decide), nm_eq, a5, ck_t (by decide), nm_eq, nm_eq, shf_cp b a4, shf_cp a a5]]
        rw [li_39 x v s d [v] 39 700 0 1 b a (by omega) (by omega) (by omega) a4 a5]
        rw [bs_3, k1, k2]
        exact ⟨_, _, _, _, _, _, rfl, rfl⟩
      · rw [if_neg e4, if_neg e4]
        have hd : d.toInt < 40 := by
          have : d.toInt ≠ 40 := fun h => e4 (Int32.toInt_inj.mp (by omega))
          omega
        obtain ⟨k1, k2⟩ := li_89 x v s d d s b a a0 hd a4 a5
        rw [k1, k2]
        exact ⟨_, _, _, _, _, _, rfl, rfl⟩
  · refine ⟨(-1 : Int32), v, d, s, b, a, ?_, rfl⟩
    by_cases c : x < (1 : Int32)
    · rw [if_pos c]
    · rw [if_neg c, if_neg (by rw [Int32.lt_iff_toInt_lt] at c; rw [Int32.le_iff_toInt_le]; omega)]
theorem rc_undo {v d s : Int32} {b a : List Int32} (g : gi_ch d s b a) : ∃ (r v' d' : Int32), fX8_undo 700 v d b = some (r, v', d') ∧ fX9_undo 700 d [v] b = some (r, d', [v']) := by
  obtain ⟨a0, a1, a2, a3, a4, a5⟩ := g
  have n1 : (1 : Int32).toInt = 1 := by decide
  have n0 : (0 : Int32).toInt = 0 := by decide
  unfold fX8_undo fX9_undo fX0_stepBack
  by_cases e : d = 0
  · rw [if_pos e, if_pos e]
    exact ⟨_, _, _, rfl, rfl⟩
  · rw [if_neg e, if_neg e]
    have hd : 0 < d.toInt := by
      have : d.toInt ≠ 0 := fun h => e (Int32.toInt_inj.mp (by omega))
      omega
    have ed : (d - (1 : Int32)).toInt = d.toInt - 1 := by rw [i_subE rfl (by omega) (by omega)]; omega
    rw [if_neg (by rw [Int32.le_iff_toInt_le]; omega)]
    rw [nm_eq, nm_eq, ck_t (i_inb (by omega) (by omega)), bs_2, nm_eq, ck_t (i_inb (by omega) (by omega)), nm_eq, ck_t (show mm_inb (0 : Int32) [v].length = true by rfl), nm_eq]
    exact ⟨_, _, _, rfl, rfl⟩
theorem rc_redo {v d s : Int32} {b a : List Int32} (g : gi_ch d s b a) (h : d.toInt ≤ s.toInt) : ∃ (r v' d' : Int32), fX8_redo 700 v d s a = some (r, v', d') ∧ fX9_redo 700 s d [v] a = some (r, d', [v']) := by
  obtain ⟨a0, a1, a2, a3, a4, a5⟩ := g
  have n1 : (1 : Int32).toInt = 1 := by decide
  unfold fX8_redo fX9_redo fX0_stepOn
  by_cases e : d = s
  · rw [if_pos e, if_pos e]
    exact ⟨_, _, _, rfl, rfl⟩
  · rw [if_neg e, if_neg e]
    have hd : d.toInt < s.toInt := by
      have : d.toInt ≠ s.toInt := fun h => e (Int32.toInt_inj.mp h)
      omega
    rw [if_neg (by rw [Int32.le_iff_toInt_le]; omega)]
    rw [ck_t (i_inb (by omega) (by omega)), nm_eq, nm_eq, bs_2, ck_t (i_inb (by omega) (by omega)), nm_eq, ck_t (show mm_inb (0 : Int32) [v].length = true by rfl), nm_eq, nm_eq]
    exact ⟨_, _, _, rfl, rfl⟩
end
section
/-! limit, undo, redo: one step -/
theorem rs_limit {x1 v_changes_value v_changes_done v_changes_size : Int32} {v_changes_before v_changes_after : List Int32} {m_keptMany m_done : Int32} {m_limit m_changeWas m_changeIs : List Int32} (g8 : gi_ch v_changes_done v_changes_size v_changes_before v_changes_after) (g9 : gm_ch m_keptMany m_done m_limit m_changeWas m_changeIs) (hr : rl_ch v_changes_value v_changes_done v_changes_size v_changes_before v_changes_after m_keptMany m_done m_limit m_changeWas m_changeIs) : ∃ (r p_value p_done p_size : Int32) (p_before p_after : List Int32) (q_keptMany q_done : Int32) (q_limit q_changeWas q_changeIs : List Int32), fX8_limit 700 x1 v_changes_value v_changes_done v_changes_size v_changes_before v_changes_after = some (r, p_value, p_done, p_size, p_before, p_after) ∧ fX9_limit 700 x1 m_keptMany m_done m_limit m_changeWas m_changeIs = some (r, q_keptMany, q_done, q_limit, q_changeWas, q_changeIs) ∧ gi_ch p_done p_size p_before p_after ∧ gm_ch q_keptMany q_done q_limit q_changeWas q_changeIs ∧ rl_ch p_value p_done p_size p_before p_after q_keptMany q_done q_limit q_changeWas q_changeIs := by
  obtain ⟨rfl, rfl, rfl, rfl, rfl⟩ := hr
  obtain ⟨r, v', d', s', b', a', e8, e9⟩ := rc_limit (x := x1) (v := v_changes_value) g8
  have q8 := wp_get (st8_limit (v_changes_value := v_changes_value) g8) e8
  have q9 := wp_get (st9_limit g9) e9
  exact ⟨_, _, _, _, _, _, _, _, _, _, _, e8, e9, q8, q9, rl_same⟩
theorem rs_undo {v_changes_value v_changes_done v_changes_size : Int32} {v_changes_before v_changes_after : List Int32} {m_keptMany m_done : Int32} {m_limit m_changeWas m_changeIs : List Int32} (g8 : gi_ch v_changes_done v_changes_size v_changes_before v_changes_after) (g9 : gm_ch m_keptMany m_done m_limit m_changeWas m_changeIs) (hr : rl_ch v_changes_value v_changes_done v_changes_size v_changes_before v_changes_after m_keptMany m_done m_limit m_changeWas m_changeIs) : ∃ (r p_value p_done q_done : Int32) (q_limit : List Int32), fX8_undo 700 v_changes_value v_changes_done v_changes_before = some (r, p_value, p_done) ∧ fX9_undo 700 m_done m_limit m_changeWas = some (r, q_done, q_limit) ∧ gi_ch p_done v_changes_size v_changes_before v_changes_after ∧ gm_ch m_keptMany q_done q_limit m_changeWas m_changeIs ∧ rl_ch p_value p_done v_changes_size v_changes_before v_changes_after m_keptMany q_done q_limit m_changeWas m_changeIs := by
  obtain ⟨rfl, rfl, rfl, rfl, rfl⟩ := hr
  obtain ⟨r, v', d', e8, e9⟩ := rc_undo (v := v_changes_value) g8
  have q8 := wp_get (st8_undo (v_changes_value := v_changes_value) g8) e8
  have q9 := wp_get (st9_undo g9) e9
  exact ⟨_, _, _, _, _, e8, e9, q8, q9, rl_same⟩
theorem rs_redo {v_changes_value v_changes_done v_changes_size : Int32} {v_changes_before v_changes_after : List Int32} {m_keptMany m_done : Int32} {m_limit m_changeWas m_changeIs : List Int32} (g8 : gi_ch v_changes_done v_changes_size v_changes_before v_changes_after) (g9 : gm_ch m_keptMany m_done m_limit m_changeWas m_changeIs) (hr : rl_ch v_changes_value v_changes_done v_changes_size v_changes_before v_changes_after m_keptMany m_done m_limit m_changeWas m_changeIs) : ∃ (r p_value p_done q_done : Int32) (q_limit : List Int32), fX8_redo 700 v_changes_value v_changes_done v_changes_size v_changes_after = some (r, p_value, p_done) ∧ fX9_redo 700 m_keptMany m_done m_limit m_changeIs = some (r, q_done, q_limit) ∧ gi_ch p_done v_changes_size v_changes_before v_changes_after ∧ gm_ch m_keptMany q_done q_limit m_changeWas m_changeIs ∧ rl_ch p_value p_done v_changes_size v_changes_before v_changes_after m_keptMany q_done q_limit m_changeWas m_changeIs := by
  obtain ⟨rfl, rfl, rfl, rfl, rfl⟩ := hr
  obtain ⟨c0, c1, c2, c3, c4, c5, c6, c7⟩ := id g9
  obtain ⟨r, v', d', e8, e9⟩ := rc_redo (v := v_changes_value) g8 (by assumption)
  have q8 := wp_get (st8_redo (v_changes_value := v_changes_value) g8) e8
  have q9 := wp_get (st9_redo g9) e9
  exact ⟨_, _, _, _, _, e8, e9, q8, q9, rl_same⟩
theorem nw_ch9 : rl_ch 20 0 0 (mm_zs 40) (mm_zs 40) 0 0 z9_limit (mm_zs 40) (mm_zs 40) := ⟨rfl, rfl, by decide +kernel, rfl, rfl⟩
end
section
/-! feed, body, act, trace: class and reference alike -/
theorem wp_and {α : Type} {o : Option α} {P Q : α → Prop} (h : wp o P) (k : wp o Q) : wp o (fun a => P a ∧ Q a) := by
  obtain ⟨r, e, q⟩ := h
  exact ⟨r, e, q, wp_get k e⟩
theorem rc_feed {x s : Int32} {t : List Int32} (h0 : 0 ≤ s.toInt) (h1 : s.toInt ≤ 120) (ht : t.length = 120) : ∃ (r s' : Int32) (t' : List Int32), fX8_feed 700 x s t = some (r, s', t') ∧ fX9_feed 700 x s t = some (r, s', t') := by
  have n255 : (255 : Int32).toInt = 255 := by decide
  have n120 : (120 : Int32).toInt = 120 := by decide
  have n0 : (0 : Int32).toInt = 0 := by decide
  have m0 : (0 : Int64).toInt = 0 := by decide
  have m255 : (255 : Int64).toInt = 255 := by decide
  have mx := i_64 x
  unfold fX8_feed fX9_feed
  obtain ⟨w, ew, qw⟩ := sf_X9_within (Nat.le_refl 700) (x0 := x.toInt64) (x2 := 0) (x4 := 255)
  rw [ew, bs_1]
  rcases qw with ⟨rfl, q0, q1⟩ | ⟨rfl, q0⟩
  · rw [if_neg (show ¬ x < 0 by rw [Int32.lt_iff_toInt_lt]; omega), if_pos (show x ≤ (255 : Int32) by rw [Int32.le_iff_toInt_le]; omega), if_neg (show ¬ (true = false) by decide)]
    unfold fX2_write
    by_cases e : s = (120 : Int32)
    · rw [if_pos e, if_neg (show ¬ s < (120 : Int32) by rw [Int32.lt_iff_toInt_lt, e]; omega), bs_3, if_pos rfl]
      exact ⟨_, _, _, rfl, rfl⟩
    · have hs : s.toInt < 120 := by
        have : s.toInt ≠ 120 := fun h => e (Int32.toInt_inj.mp (by omega))
        omega
      rw [if_neg e, if_pos (show s < (120 : Int32) by rw [Int32.lt_iff_toInt_lt]; omega), ck_t (i_inb (by omega) (by omega)), nm_eq, nm_eq, bs_3, if_neg (show ¬ (true = false) by decide), ck_t (i_inb (by omega) (by omega)), nm_eq, nm_eq]
      exact ⟨_, _, _, rfl, rfl⟩
  · rw [if_pos rfl]
    by_cases c : x < 0
    · rw [if_pos c]
      exact ⟨_, _, _, rfl, rfl⟩
    · rw [if_neg c, if_neg (show ¬ x ≤ (255 : Int32) by rw [Int32.lt_iff_toInt_lt] at c; rw [Int32.le_iff_toInt_le]; omega)]
      exact ⟨_, _, _, rfl, rfl⟩
theorem rc_body {x s : Int32} {t : List Int32} (h0 : 0 ≤ s.toInt) (h1 : s.toInt ≤ 50) (ht : t.length = 50) : ∃ (r s' : Int32) (t' : List Int32), fX8_body 700 x s t = some (r, s', t') ∧ fX9_body 700 x s t = some (r, s', t') ∧ s.toInt ≤ s'.toInt := by
  have n8 : (8 : Int32).toInt = 8 := by decide
  have n1 : (1 : Int32).toInt = 1 := by decide
  have n50 : (50 : Int32).toInt = 50 := by decide
  have n0 : (0 : Int32).toInt = 0 := by decide
  have m0 : (0 : Int64).toInt = 0 := by decide
  have m7 : (7 : Int64).toInt = 7 := by decide
  have mx := i_64 x
  unfold fX8_body fX9_body
  obtain ⟨w, ew, qw⟩ := sf_X9_within (Nat.le_refl 700) (x0 := x.toInt64) (x2 := 0) (x4 := 7)
  rw [ew, bs_1]
  rcases qw with ⟨rfl, q0, q1⟩ | ⟨rfl, q0⟩
  · rw [if_neg (show ¬ x < 0 by rw [Int32.lt_iff_toInt_lt]; omega), if_pos (show x < (8 : Int32) by rw [Int32.lt_iff_toInt_lt]; omega), if_neg (show ¬ (true = false) by decide)]
    unfold fX1_make
    by_cases e : s = (50 : Int32)
    · rw [if_pos e, if_neg (show ¬ s < (50 : Int32) by rw [Int32.lt_iff_toInt_lt, e]; omega), bs_3, if_pos rfl]
      exact ⟨_, _, _, rfl, rfl, Int.le_refl _⟩
    · have hs : s.toInt < 50 := by
        have : s.toInt ≠ 50 := fun h => e (Int32.toInt_inj.mp (by omega))
        omega
      rw [if_neg e, if_pos (show s < (50 : Int32) by rw [Int32.lt_iff_toInt_lt]; omega), ck_t (i_inb (by omega) (by omega)), nm_eq, nm_eq, bs_3, if_neg (show ¬ (true = false) by decide), ck_t (i_inb (by omega) (by omega)), nm_eq, nm_eq]
      exact ⟨_, _, _, rfl, rfl, by rw [i_addE rfl (by rw [n1]; omega) (by rw [n1]; omega), n1]; omega⟩
  · rw [if_pos rfl]
    by_cases c : x < 0
    · rw [if_pos c]
      exact ⟨_, _, _, rfl, rfl, Int.le_refl _⟩
    · rw [if_neg c, if_neg (show ¬ x < (8 : Int32) by rw [Int32.lt_iff_toInt_lt] at c ⊢; omega)]
      exact ⟨_, _, _, rfl, rfl, Int.le_refl _⟩
theorem rc_trace {x n : Int32} {t : List Int32} (ht : t.length = 24) : ∃ r : Int32, fX8_trace 700 x n t = some r ∧ fX9_trace 700 x n t = some r := by
  have n24 : (24 : Int32).toInt = 24 := by decide
  have n0 : (0 : Int32).toInt = 0 := by decide
  unfold fX8_trace fX9_trace fX1_traced
  by_cases c : x < 0
  · rw [if_pos c, if_pos c, bs_1]
    exact ⟨_, rfl, rfl⟩
  · rw [if_neg c, if_neg c]
    by_cases d : (24 : Int32) ≤ x
    · rw [if_pos d, if_pos d, bs_1]
      by_cases e : n ≤ x
      · rw [if_pos e]
        exact ⟨_, rfl, rfl⟩
      · rw [if_neg e]
        exact ⟨_, rfl, rfl⟩
    · rw [if_neg d, if_neg d]
      by_cases e : n ≤ x
      · rw [if_pos e, bs_1]
        exact ⟨_, rfl, rfl⟩
      · have k : mm_inb x t.length = true := i_inb (by rw [Int32.lt_iff_toInt_lt] at c; omega) (by rw [Int32.le_iff_toInt_le] at d; omega)
        rw [if_neg e, ck_t k, bs_1]
        exact ⟨_, rfl, rfl⟩
theorem rc_act {x1 x2 x3 s ran number own num : Int32} {kinds trace : List Int32} (g : gi_fo s kinds trace) : ∃ (r c n k b : Int32) (t : List Int32), fX8_act 700 x1 x2 x3 s ran number kinds trace = some (r, c, n, t) ∧ fX9_act 700 x1 x2 x3 s ran own num kinds trace = some (r, c, k, b, t) := by
  obtain ⟨a_0, a_1, a_2, a_3, a_4⟩ := g
  have n4 : (4 : Int32).toInt = 4 := by decide
  have n0 : (0 : Int32).toInt = 0 := by decide
  have n1 : (1 : Int32).toInt = 1 := by decide
  have n2 : (2 : Int32).toInt = 2 := by decide
  have n3 : (3 : Int32).toInt = 3 := by decide
  obtain ⟨w8, e8, q8⟩ := sf_X1_has (Nat.le_refl 700) (x1 := x1) a_0 a_1
  obtain ⟨w9, e9, q9⟩ := sb_X9_isBody (x1 := x1) a_0 a_1
  have hw : w8 = w9 := by
    have f8 : fX1_has 700 x1 s = some (decide (0 ≤ x1.toInt ∧ x1.toInt < s.toInt)) := by
      unfold fX1_has
      by_cases c : x1 < 0
      · rw [if_pos c, decide_eq_false (by rw [Int32.lt_iff_toInt_lt] at c; omega)]
      · rw [if_neg c]
        by_cases d : s ≤ x1
        · rw [if_pos d, decide_eq_false (by rw [Int32.le_iff_toInt_le] at d; omega)]
        · rw [if_neg d, decide_eq_true (by rw [Int32.lt_iff_toInt_lt] at c; rw [Int32.le_iff_toInt_le] at d; omega)]
    have f9 : fX9_isBody 700 x1 s = some (decide (0 ≤ x1.toInt ∧ x1.toInt < s.toInt)) := by
      unfold fX9_isBody
      have m_1 := i_64 x1
      have m_2 : (0 : Int64).toInt = 0 := by decide
      have m_3 := i_64 (s - (1 : Int32))
      have e := i_subE (rfl : s - (1 : Int32) = _) (by omega) (by omega)
      obtain ⟨w, ew, qw⟩ := sf_X9_within (Nat.le_refl 700) (x0 := x1.toInt64) (x2 := 0) (x4 := (s - (1 : Int32)).toInt64)
      rw [ew, bs_1]
      rw [m_1, m_2, m_3, e, n1] at qw
      rcases qw with ⟨rfl, q0, q1⟩ | ⟨rfl, q0⟩
      · rw [decide_eq_true (by omega)]
      · rw [decide_eq_false (by omega)]
    rw [f8] at e8
    rw [f9] at e9
    injection e8 with e8
    injection e9 with e9
    rw [← e8, ← e9]
  subst hw
  unfold fX8_act fX1_perform fX9_act
  rw [e8, e9, bs_1, bs_1]
  rcases q8 with ⟨rfl, q0, q1⟩ | ⟨rfl, -⟩
  · rw [if_neg (show ¬ (true = false) by decide), if_neg (show ¬ (true = false) by decide)]
    have hk : mm_inb x1 kinds.length = true := i_inb (by omega) (by omega)
    rw [ck_t hk, ck_t hk, ck_t hk, nm_eq]
    have z := zn_get a_4 q0 q0 q1 (by omega)
    by_cases c1 : x2 < 0
    · rw [Int32.lt_iff_toInt_lt] at c1
      rw [if_pos (show x2 < 0 by rw [Int32.lt_iff_toInt_lt]; exact c1), if_neg (fun h => by rw [h] at c1; omega), if_neg (fun h => by rw [h] at c1; omega), if_neg (fun h => by rw [h] at c1; omega), if_neg (fun h => by rw [h] at c1; omega)]
      exact ⟨_, _, _, _, _, _, rfl, rfl⟩
    · rw [if_neg c1]
      by_cases c2 : x2 < (4 : Int32)
      · rw [if_pos c2]
        have d1 : 0 ≤ x2.toInt := by rw [Int32.lt_iff_toInt_lt] at c1; omega
        have d2 : x2.toInt < 4 := by rw [Int32.lt_iff_toInt_lt] at c2; omega
        rcases k4 d1 d2 with rfl | rfl | rfl | rfl
        · obtain ⟨r, c, t, f1, f2, -⟩ := ac_0 z.1 z.2 x3 x1 trace a_3
          rw [f1, if_pos rfl, f2]
          exact ⟨_, _, _, _, _, _, rfl, rfl⟩
        · obtain ⟨r, c, t, f1, f2, -⟩ := ac_1 z.1 z.2 x3 x1 trace a_3
          rw [f1, if_neg (show ¬ (1 : Int32) = 0 by decide), if_pos rfl, f2]
          exact ⟨_, _, _, _, _, _, rfl, rfl⟩
        · obtain ⟨r, c, t, f1, f2, -⟩ := ac_2 z.1 z.2 x3 x1 trace a_3
          rw [f1, if_neg (show ¬ (2 : Int32) = 0 by decide), if_neg (show ¬ (2 : Int32) = 1 by decide), if_pos rfl, f2]
          exact ⟨_, _, _, _, _, _, rfl, rfl⟩
        · obtain ⟨r, c, t, f1, f2, -⟩ := ac_3 z.1 z.2 x3 x1 trace a_3
          rw [f1, if_neg (show ¬ (3 : Int32) = 0 by decide), if_neg (show ¬ (3 : Int32) = 1 by decide), if_neg (show ¬ (3 : Int32) = 2 by decide), if_pos rfl, f2]
          exact ⟨_, _, _, _, _, _, rfl, rfl⟩
      · rw [Int32.lt_iff_toInt_lt] at c2
        rw [if_neg (show ¬ x2 < (4 : Int32) by rw [Int32.lt_iff_toInt_lt]; exact c2), if_neg (fun h => by rw [h] at c2; omega), if_neg (fun h => by rw [h] at c2; omega), if_neg (fun h => by rw [h] at c2; omega), if_neg (fun h => by rw [h] at c2; omega)]
        exact ⟨_, _, _, _, _, _, rfl, rfl⟩
  · rw [if_pos rfl, if_pos rfl]
    exact ⟨_, _, _, _, _, _, rfl, rfl⟩
def rl_tp (v_wearing_size : Int32) (v_wearing_tape : List Int32) (m_tapeMany : Int32) (m_tape : List Int32) : Prop := m_tapeMany = v_wearing_size ∧ m_tape = v_wearing_tape
def rl_bo (v_foldings_size : Int32) (v_foldings_kinds : List Int32) (m_bodies : Int32) (m_bodyKind : List Int32) : Prop := m_bodies = v_foldings_size ∧ m_bodyKind = v_foldings_kinds
def rl_tr (v_foldings_ran : Int32) (v_foldings_trace : List Int32) (m_ran : Int32) (m_trace : List Int32) : Prop := m_ran = v_foldings_ran ∧ m_trace = v_foldings_trace
theorem rs_feed {x1 : Int32} {v_wearing_size : Int32} {v_wearing_tape : List Int32} {v_wearing_stepCount : Int32} {v_wearing_draftCount : Int32} {v_wearing_steps : List Int32} {v_wearing_draft : List Int32} {v_wearing_stack : List Int32} {m_tapeMany : Int32} {m_tape : List Int32} {m_textMany : Int32} {m_text : List Int32} {m_names : List Int32} {m_bends : List Int32} {m_high : List Int32} {m_to : List Int32} {m_pileSize : List Int32} (g8_0 : gi_la v_wearing_size v_wearing_stepCount v_wearing_draftCount v_wearing_tape v_wearing_steps v_wearing_draft v_wearing_stack) (g9_0 : gm_tx m_tapeMany m_textMany m_tape m_text m_names m_bends m_high m_to m_pileSize) (hr_0 : rl_tp v_wearing_size v_wearing_tape m_tapeMany m_tape) : ∃ (r : Int32) (p_wearing_size : Int32) (p_wearing_tape : List Int32) (q_tapeMany : Int32) (q_tape : List Int32), fX8_feed 700 x1 v_wearing_size v_wearing_tape = some (r, p_wearing_size, p_wearing_tape) ∧ fX9_feed 700 x1 m_tapeMany m_tape = some (r, q_tapeMany, q_tape) ∧ gi_la p_wearing_size v_wearing_stepCount v_wearing_draftCount p_wearing_tape v_wearing_steps v_wearing_draft v_wearing_stack ∧ gm_tx q_tapeMany m_textMany q_tape m_text m_names m_bends m_high m_to m_pileSize ∧ rl_tp p_wearing_size p_wearing_tape q_tapeMany q_tape := by
  obtain ⟨rfl, rfl⟩ := hr_0
  obtain ⟨a0, a1, -, -, -, -, a6, -⟩ := id g8_0
  obtain ⟨r, s', t', e8, e9⟩ := rc_feed (x := x1) a0 a1 a6
  have k8 := wp_get (st8_feed g8_0) e8
  have k9 := wp_get (st9_feed g9_0) e9
  exact ⟨_, _, _, _, _, e8, e9, k8, k9, rfl, rfl⟩
theorem rs_body {x1 : Int32} {v_foldings_size : Int32} {v_foldings_kinds : List Int32} {v_foldings_trace : List Int32} {m_bodies : Int32} {m_bodyKind : List Int32} {m_trace : List Int32} (g8_0 : gi_fo v_foldings_size v_foldings_kinds v_foldings_trace) (g9_0 : gm_bo m_bodies m_bodyKind m_trace) (hr_0 : rl_bo v_foldings_size v_foldings_kinds m_bodies m_bodyKind) : ∃ (r : Int32) (p_foldings_size : Int32) (p_foldings_kinds : List Int32) (q_bodies : Int32) (q_bodyKind : List Int32), fX8_body 700 x1 v_foldings_size v_foldings_kinds = some (r, p_foldings_size, p_foldings_kinds) ∧ fX9_body 700 x1 m_bodies m_bodyKind = some (r, q_bodies, q_bodyKind) ∧ gi_fo p_foldings_size p_foldings_kinds v_foldings_trace ∧ gm_bo q_bodies q_bodyKind m_trace ∧ rl_bo p_foldings_size p_foldings_kinds q_bodies q_bodyKind := by
  obtain ⟨rfl, rfl⟩ := hr_0
  obtain ⟨a0, a1, a2, -, -⟩ := id g8_0
  obtain ⟨r, s', t', e8, e9, -⟩ := rc_body (x := x1) a0 a1 a2
  have k8 := wp_get (st8_body g8_0) e8
  have k9 := wp_get (st9_body g9_0) e9
  exact ⟨_, _, _, _, _, e8, e9, k8, k9, rfl, rfl⟩
theorem rs_act {x1 : Int32} {x2 : Int32} {x3 : Int32} {v_foldings_size : Int32} {v_foldings_ran : Int32} {v_foldings_number : Int32} {v_foldings_kinds : List Int32} {v_foldings_trace : List Int32} {m_bodies : Int32} {m_ran : Int32} {m_ownKind : Int32} {m_ownNumber : Int32} {m_bodyKind : List Int32} {m_trace : List Int32} (g8_0 : gi_fo v_foldings_size v_foldings_kinds v_foldings_trace) (g9_0 : gm_bo m_bodies m_bodyKind m_trace) (hr_0 : rl_bo v_foldings_size v_foldings_kinds m_bodies m_bodyKind) (hr_1 : rl_tr v_foldings_ran v_foldings_trace m_ran m_trace) : ∃ (r : Int32) (p_foldings_ran : Int32) (p_foldings_number : Int32) (p_foldings_trace : List Int32) (q_ran : Int32) (q_ownKind : Int32) (q_ownNumber : Int32) (q_trace : List Int32), fX8_act 700 x1 x2 x3 v_foldings_size v_foldings_ran v_foldings_number v_foldings_kinds v_foldings_trace = some (r, p_foldings_ran, p_foldings_number, p_foldings_trace) ∧ fX9_act 700 x1 x2 x3 m_bodies m_ran m_ownKind m_ownNumber m_bodyKind m_trace = some (r, q_ran, q_ownKind, q_ownNumber, q_trace) ∧ gi_fo v_foldings_size v_foldings_kinds p_foldings_trace ∧ gm_bo m_bodies m_bodyKind q_trace ∧ rl_bo v_foldings_size v_foldings_kinds m_bodies m_bodyKind ∧ rl_tr p_foldings_ran p_foldings_trace q_ran q_trace := by
  obtain ⟨rfl, rfl⟩ := hr_0
  obtain ⟨rfl, rfl⟩ := hr_1
  obtain ⟨r, c, n, k, b, t, e8, e9⟩ := rc_act (x1 := x1) (x2 := x2) (x3 := x3) (ran := m_ran) (number := v_foldings_number) (own := m_ownKind) (num := m_ownNumber) g8_0
  have k8 := wp_get (st8_act g8_0) e8
  have k9 := wp_get (st9_act g9_0) e9
  exact ⟨_, _, _, _, _, _, _, _, e8, e9, k8, k9, ⟨rfl, rfl⟩, rfl, rfl⟩
theorem rs_trace {x1 : Int32} {v_foldings_ran : Int32} {v_foldings_trace : List Int32} {v_foldings_size : Int32} {v_foldings_kinds : List Int32} {m_ran : Int32} {m_trace : List Int32} {m_bodies : Int32} {m_bodyKind : List Int32} (g8_0 : gi_fo v_foldings_size v_foldings_kinds v_foldings_trace) (g9_0 : gm_bo m_bodies m_bodyKind m_trace) (hr_0 : rl_tr v_foldings_ran v_foldings_trace m_ran m_trace) : ∃ (r : Int32), fX8_trace 700 x1 v_foldings_ran v_foldings_trace = some r ∧ fX9_trace 700 x1 m_ran m_trace = some r ∧ rl_tr v_foldings_ran v_foldings_trace m_ran m_trace := by
  obtain ⟨rfl, rfl⟩ := hr_0
  obtain ⟨-, -, -, a3, -⟩ := id g8_0
  obtain ⟨r, e8, e9⟩ := rc_trace (x := x1) (n := m_ran) a3
  exact ⟨r, e8, e9, rfl, rfl⟩
end
section
/-! The tape behind law; the sheet behind sheet -/
theorem i_dneg {x y : Int32} (h : y = x / (10 : Int32)) (hx : x.toInt < 0) : y.toInt ≤ 0 := by
  rw [h, Int32.toInt_div_of_ne_right x (10 : Int32) (by decide), show (10 : Int32).toInt = 10 by decide]
  have e : x.toInt = -(-x.toInt) := by omega
  rw [e, Int.neg_tdiv]
  have k : 0 ≤ (-x.toInt).tdiv 10 := Int.tdiv_nonneg (by omega) (by omega)
  omega
set_option maxHeartbeats 4000000 in
set_option maxRecDepth 20000 in
theorem sz_X2_readTape_21 {N : Nat} (hN : 700 ≤ N)  : ∀ (n : Nat) (x1 : Int32) (v_size : Int32) (v_stepCount : Int32) (v_draftCount : Int32) (v_place : Int32) (v_fault : Int32) (v_tape : List Int32) (v_steps : List Int32) (v_draft : List Int32), 0 ≤ v_size.toInt → v_size.toInt ≤ 120 → 0 ≤ v_stepCount.toInt → v_stepCount.toInt ≤ 121 → 0 ≤ v_draftCount.toInt → v_draftCount.toInt ≤ 121 → v_tape.length = 120 → v_steps.length = 121 → v_draft.length = 121 → 0 ≤ v_place.toInt → v_place.toInt ≤ v_size.toInt → 0 ≤ x1.toInt → x1.toInt ≤ 120 → (120 - x1.toInt).toNat < n → wp (fX2_readTape_21 N n x1 v_size v_stepCount v_draftCount v_place v_fault v_tape v_steps v_draft) (cu8 (fun (r : Int32) (wv_size : Int32) (wv_stepCount : Int32) (wv_draftCount : Int32) (wv_place : Int32) (wv_fault : Int32) (wv_steps : List Int32) (wv_draft : List Int32) => 0 ≤ wv_size.toInt ∧ wv_size.toInt ≤ 120 ∧ 0 ≤ wv_stepCount.toInt ∧ wv_stepCount.toInt ≤ 121 ∧ 0 ≤ wv_draftCount.toInt ∧ wv_draftCount.toInt ≤ 121 ∧ wv_steps.length = 121 ∧ wv_draft.length = 121 ∧ wv_size.toInt = 0)) := by
  intro n
  induction n with
  | zero =>
    intro x1 v_size v_stepCount v_draftCount v_place v_fault v_tape v_steps v_draft h_0 h_1 h_2 h_3 h_4 h_5 h_6 h_7 h_8 h_9 h_10 h_11 h_12 hm
    exact absurd hm (by omega)
  | succ n ih =>
    intro x1 v_size v_stepCount v_draftCount v_place v_fault v_tape v_steps v_draft h_0 h_1 h_2 h_3 h_4 h_5 h_6 h_7 h_8 h_9 h_10 h_11 h_12 hm
    refine wp_of (uf_X2_readTape_21 _ _ _ _ _ _ _ _ _ _ _) ?_
    have n_2 : (120 : Int32).toInt = 120 := by decide
    refine wp_if (fun c_1 => ?_) (fun c_1 => ?_)
    ·
      have dc_1 := i_le c_1
      refine wp_of (uf_X2_readTape_56 _ _ _ _ _ _ _ _ _) ?_
      refine wp_if (fun c_3 => ?_) (fun c_3 => ?_)
      ·
        have dc_3 := i_le c_3
        refine wp_of (uf_X2_readTape_71 _ _ _ _ _ _ _ _ _) ?_
        have n_5 : (0 : Int32).toInt = 0 := by decide
        refine wp_if (fun c_4 => ?_) (fun c_4 => ?_)
        ·
          have dc_4 := i_le c_4
          refine wp_of (uf_X2_readTape_108 _ _ _ _ _ _ _ _ _) ?_
          exact wp_so8 ⟨(by omega), (by omega), h_2, h_3, h_4, h_5, h_7, h_8, (by omega)⟩
        ·
          have dc_4 := i_nle c_4
          have hc_6 : (mm_cok (0 : Int32) (0 : Int32) v_draftCount v_draft.length v_steps.length) = true := i_cok (by omega) (by omega) (by omega) (by omega) (by omega)
          refine wp_ck hc_6 ?_
          refine wp_nm (fun l_22 h_l_22 => ?_)
          have nl_l_22 : l_22.length = 121 := by rw [h_l_22, cp_len hc_6]; assumption
          refine wp_of (uf_X2_readTape_108 _ _ _ _ _ _ _ _ _) ?_
          exact wp_so8 ⟨(by omega), (by omega), h_4, h_5, h_4, h_5, nl_l_22, h_8, (by omega)⟩
      ·
        have dc_3 := i_nle c_3
        refine wp_bd1 (sf_X2_fail hN ) (fun w_18 _ => ?_)
        refine wp_of (uf_X2_readTape_71 _ _ _ _ _ _ _ _ _) ?_
        have n_8 : (0 : Int32).toInt = 0 := by decide
        refine wp_if (fun c_7 => ?_) (fun c_7 => ?_)
        ·
          have dc_7 := i_le c_7
          refine wp_of (uf_X2_readTape_108 _ _ _ _ _ _ _ _ _) ?_
          exact wp_so8 ⟨(by omega), (by omega), h_2, h_3, h_4, h_5, h_7, h_8, (by omega)⟩
        ·
          have dc_7 := i_nle c_7
          have hc_9 : (mm_cok (0 : Int32) (0 : Int32) v_draftCount v_draft.length v_steps.length) = true := i_cok (by omega) (by omega) (by omega) (by omega) (by omega)
          refine wp_ck hc_9 ?_
          refine wp_nm (fun l_22__10 h_l_22__10 => ?_)
          have nl_l_22__10 : l_22__10.length = 121 := by rw [h_l_22__10, cp_len hc_9]; assumption
          refine wp_of (uf_X2_readTape_108 _ _ _ _ _ _ _ _ _) ?_
          exact wp_so8 ⟨(by omega), (by omega), h_4, h_5, h_4, h_5, nl_l_22__10, h_8, (by omega)⟩
    ·
      have dc_1 := i_nle c_1
      have n_11 : (59 : Int32).toInt = 59 := by decide
      refine wp_bd1 (sf_X2_meets hN h_0 h_1 h_6 h_9 (by omega)) (fun r_7 q_12 => ?_)
      rcases q_12 with ⟨rfl, q_12⟩ | ⟨rfl, q_12⟩
      ·
        refine wp_ifn (by decide) ?_
        have n_13 : (1 : Int32).toInt = 1 := by decide
        refine wp_nm (fun y_10 h_y_10 => ?_)
        have e_14 := i_addE h_y_10.symm (by omega) (by omega)
        refine wp_bd4 (sf_X2_readLine hN h_0 h_1 h_4 h_5 h_6 h_8 (by omega) (by omega)) (fun w_11 w_12 w_13 w_14 ⟨q_15, q_16, q_17, q_18, q_19⟩ => ?_)
        refine wp_nm (fun y_16 h_y_16 => ?_)
        have e_20 := i_addE h_y_16.symm (by omega) (by omega)
        exact ih _ _ _ _ _ _ _ _ _ h_0 h_1 h_2 h_3 q_15 q_16 h_6 h_7 q_17 (by omega) q_19 (by omega) (by omega) (by omega)
      ·
        refine wp_ifp (by decide) ?_
        refine wp_of (uf_X2_readTape_56 _ _ _ _ _ _ _ _ _) ?_
        refine wp_if (fun c_21 => ?_) (fun c_21 => ?_)
        ·
          have dc_21 := i_le c_21
          refine wp_of (uf_X2_readTape_71 _ _ _ _ _ _ _ _ _) ?_
          have n_23 : (0 : Int32).toInt = 0 := by decide
          refine wp_if (fun c_22 => ?_) (fun c_22 => ?_)
          ·
            have dc_22 := i_le c_22
            refine wp_of (uf_X2_readTape_108 _ _ _ _ _ _ _ _ _) ?_
            exact wp_so8 ⟨(by omega), (by omega), h_2, h_3, h_4, h_5, h_7, h_8, (by omega)⟩
          ·
            have dc_22 := i_nle c_22
            have hc_24 : (mm_cok (0 : Int32) (0 : Int32) v_draftCount v_draft.length v_steps.length) = true := i_cok (by omega) (by omega) (by omega) (by omega) (by omega)
            refine wp_ck hc_24 ?_
            refine wp_nm (fun l_22__25 h_l_22__25 => ?_)
            have nl_l_22__25 : l_22__25.length = 121 := by rw [h_l_22__25, cp_len hc_24]; assumption
            refine wp_of (uf_X2_readTape_108 _ _ _ _ _ _ _ _ _) ?_
            exact wp_so8 ⟨(by omega), (by omega), h_4, h_5, h_4, h_5, nl_l_22__25, h_8, (by omega)⟩
        ·
          have dc_21 := i_nle c_21
          refine wp_bd1 (sf_X2_fail hN ) (fun w_18__26 _ => ?_)
          refine wp_of (uf_X2_readTape_71 _ _ _ _ _ _ _ _ _) ?_
          have n_28 : (0 : Int32).toInt = 0 := by decide
          refine wp_if (fun c_27 => ?_) (fun c_27 => ?_)
          ·
            have dc_27 := i_le c_27
            refine wp_of (uf_X2_readTape_108 _ _ _ _ _ _ _ _ _) ?_
            exact wp_so8 ⟨(by omega), (by omega), h_2, h_3, h_4, h_5, h_7, h_8, (by omega)⟩
          ·
            have dc_27 := i_nle c_27
            have hc_29 : (mm_cok (0 : Int32) (0 : Int32) v_draftCount v_draft.length v_steps.length) = true := i_cok (by omega) (by omega) (by omega) (by omega) (by omega)
            refine wp_ck hc_29 ?_
            refine wp_nm (fun l_22__30 h_l_22__30 => ?_)
            have nl_l_22__30 : l_22__30.length = 121 := by rw [h_l_22__30, cp_len hc_29]; assumption
            refine wp_of (uf_X2_readTape_108 _ _ _ _ _ _ _ _ _) ?_
            exact wp_so8 ⟨(by omega), (by omega), h_4, h_5, h_4, h_5, nl_l_22__30, h_8, (by omega)⟩
set_option maxHeartbeats 4000000 in
set_option maxRecDepth 20000 in
theorem sz_X2_readTape {N : Nat} (hN : 700 ≤ N) {v_size : Int32} {v_stepCount : Int32} {v_draftCount : Int32} {v_place : Int32} {v_fault : Int32} {v_tape : List Int32} {v_steps : List Int32} {v_draft : List Int32} (h_0 : 0 ≤ v_size.toInt) (h_1 : v_size.toInt ≤ 120) (h_2 : 0 ≤ v_stepCount.toInt) (h_3 : v_stepCount.toInt ≤ 121) (h_4 : 0 ≤ v_draftCount.toInt) (h_5 : v_draftCount.toInt ≤ 121) (h_6 : v_tape.length = 120) (h_7 : v_steps.length = 121) (h_8 : v_draft.length = 121) : wp (fX2_readTape N v_size v_stepCount v_draftCount v_place v_fault v_tape v_steps v_draft) (cu8 (fun (r : Int32) (wv_size : Int32) (wv_stepCount : Int32) (wv_draftCount : Int32) (wv_place : Int32) (wv_fault : Int32) (wv_steps : List Int32) (wv_draft : List Int32) => 0 ≤ wv_size.toInt ∧ wv_size.toInt ≤ 120 ∧ 0 ≤ wv_stepCount.toInt ∧ wv_stepCount.toInt ≤ 121 ∧ 0 ≤ wv_draftCount.toInt ∧ wv_draftCount.toInt ≤ 121 ∧ wv_steps.length = 121 ∧ wv_draft.length = 121 ∧ wv_size.toInt = 0)) := by
  refine wp_of (uf_X2_readTape _ _ _ _ _ _ _ _ _) ?_
  have n_1 : (0 : Int32).toInt = 0 := by decide
  refine wp_bd4 (sf_X2_readLine hN h_0 h_1 (by omega) (by omega) h_6 h_8 (by omega) (by omega)) (fun w_1 w_2 w_3 w_4 ⟨q_2, q_3, q_4, q_5, q_6⟩ => ?_)
  exact sz_X2_readTape_21 hN _ _ _ _ _ _ _ _ _ _ h_0 h_1 h_2 h_3 q_2 q_3 h_6 h_7 q_4 (by omega) q_6 (by omega) (by omega) (by omega)
set_option maxHeartbeats 4000000 in
set_option maxRecDepth 20000 in
theorem sz_X8_law {N : Nat} (hN : 700 ≤ N) {v_wearing_size : Int32} {v_wearing_stepCount : Int32} {v_wearing_draftCount : Int32} {v_wearing_place : Int32} {v_wearing_fault : Int32} {v_wearing_tape : List Int32} {v_wearing_steps : List Int32} {v_wearing_draft : List Int32} (h_0 : 0 ≤ v_wearing_size.toInt) (h_1 : v_wearing_size.toInt ≤ 120) (h_2 : 0 ≤ v_wearing_stepCount.toInt) (h_3 : v_wearing_stepCount.toInt ≤ 121) (h_4 : 0 ≤ v_wearing_draftCount.toInt) (h_5 : v_wearing_draftCount.toInt ≤ 121) (h_6 : v_wearing_tape.length = 120) (h_7 : v_wearing_steps.length = 121) (h_8 : v_wearing_draft.length = 121) : wp (fX8_law N v_wearing_size v_wearing_stepCount v_wearing_draftCount v_wearing_place v_wearing_fault v_wearing_tape v_wearing_steps v_wearing_draft) (cu8 (fun (r : Int32) (wv_wearing_size : Int32) (wv_wearing_stepCount : Int32) (wv_wearing_draftCount : Int32) (wv_wearing_place : Int32) (wv_wearing_fault : Int32) (wv_wearing_steps : List Int32) (wv_wearing_draft : List Int32) => 0 ≤ wv_wearing_size.toInt ∧ wv_wearing_size.toInt ≤ 120 ∧ 0 ≤ wv_wearing_stepCount.toInt ∧ wv_wearing_stepCount.toInt ≤ 121 ∧ 0 ≤ wv_wearing_draftCount.toInt ∧ wv_wearing_draftCount.toInt ≤ 121 ∧ wv_wearing_steps.length = 121 ∧ wv_wearing_draft.length = 121 ∧ wv_wearing_size.toInt = 0)) := by
  refine wp_of (uf_X8_law _ _ _ _ _ _ _ _ _) ?_
  refine wp_bd8 (sz_X2_readTape hN h_0 h_1 h_2 h_3 h_4 h_5 h_6 h_7 h_8) (fun r_1 w_2 w_3 w_4 w_5 w_6 w_7 w_8 ⟨q_1, q_2, q_3, q_4, q_5, q_6, q_7, q_8, q_9⟩ => ?_)
  have n_11 : (0 : Int32).toInt = 0 := by decide
  refine wp_if (fun c_10 => ?_) (fun c_10 => ?_)
  ·
    have dc_10 := i_le c_10
    exact wp_so8 ⟨q_1, q_2, q_3, q_4, q_5, q_6, q_7, q_8, q_9⟩
  ·
    have dc_10 := i_nle c_10
    exact wp_so8 ⟨q_1, q_2, q_3, q_4, q_5, q_6, q_7, q_8, q_9⟩
set_option maxHeartbeats 4000000 in
set_option maxRecDepth 20000 in
theorem sz_X9_law_37 {N : Nat} (hN : 700 ≤ N)  : ∀ (n : Nat) (x2 : Int32) (x3 : Int32) (v_tapeMany : Int32) (v_textMany : Int32) (v_base : Int32) (v_at : Int32) (v_ends : Int32) (v_fault : Int32) (v_opened : Int32) (v_tape : List Int32) (v_text : List Int32) (v_names : List Int32), 0 ≤ v_tapeMany.toInt → v_tapeMany.toInt ≤ 120 → -1 ≤ v_textMany.toInt → v_textMany.toInt ≤ 120 → v_tape.length = 120 → v_text.length = 120 → v_names.length = 6 → 0 ≤ x2.toInt → x2.toInt ≤ 120 → 0 ≤ x3.toInt → x3.toInt ≤ 120 → v_tapeMany.toInt = 0 → (121 - x3.toInt).toNat < n → wp (fX9_law_37 N n x2 x3 v_tapeMany v_textMany v_base v_at v_ends v_fault v_opened v_tape v_text v_names) (cu9 (fun (r : Int32) (wv_tapeMany : Int32) (wv_textMany : Int32) (wv_base : Int32) (wv_at : Int32) (wv_ends : Int32) (wv_fault : Int32) (wv_opened : Int32) (wv_text : List Int32) => 0 ≤ wv_tapeMany.toInt ∧ wv_tapeMany.toInt ≤ 120 ∧ -1 ≤ wv_textMany.toInt ∧ wv_textMany.toInt ≤ 120 ∧ wv_text.length = 120 ∧ wv_tapeMany.toInt = 0)) := by
  intro n
  induction n with
  | zero =>
    intro x2 x3 v_tapeMany v_textMany v_base v_at v_ends v_fault v_opened v_tape v_text v_names h_0 h_1 h_2 h_3 h_4 h_5 h_6 h_7 h_8 h_9 h_10 h_11 hm
    exact absurd hm (by omega)
  | succ n ih =>
    intro x2 x3 v_tapeMany v_textMany v_base v_at v_ends v_fault v_opened v_tape v_text v_names h_0 h_1 h_2 h_3 h_4 h_5 h_6 h_7 h_8 h_9 h_10 h_11 hm
    refine wp_of (uf_X9_law_37 _ _ _ _ _ _ _ _ _ _ _ _ _ _) ?_
    refine wp_if (fun c_1 => ?_) (fun c_1 => ?_)
    ·
      have dc_1 := i_le c_1
      exact wp_so9 ⟨h_0, h_1, (by omega), h_8, h_5, h_11⟩
    ·
      have dc_1 := i_nle c_1
      refine wp_ck (i_inb (by omega) (by omega)) ?_
      refine wp_nm (fun y_11 h_y_11 => ?_)
      have t_y_11 : y_11.toInt = ((mm_ig v_tape x3)).toInt := by rw [h_y_11]
      refine wp_ck (i_inb (by omega) (by omega)) ?_
      refine wp_nm (fun l_13 h_l_13 => ?_)
      have nl_l_13 : l_13.length = 120 := by rw [h_l_13, is_len]; assumption
      have n_2 : (1 : Int32).toInt = 1 := by decide
      refine wp_nm (fun y_14 h_y_14 => ?_)
      have e_3 := i_addE h_y_14.symm (by omega) (by omega)
      exact ih _ _ _ _ _ _ _ _ _ _ _ _ h_0 h_1 h_2 h_3 h_4 nl_l_13 h_6 h_7 h_8 (by omega) (by omega) h_11 (by omega)
set_option maxHeartbeats 4000000 in
set_option maxRecDepth 20000 in
theorem sz_X9_law {N : Nat} (hN : 700 ≤ N) {v_tapeMany : Int32} {v_textMany : Int32} {v_base : Int32} {v_at : Int32} {v_ends : Int32} {v_fault : Int32} {v_opened : Int32} {v_tape : List Int32} {v_text : List Int32} {v_names : List Int32} (h_0 : 0 ≤ v_tapeMany.toInt) (h_1 : v_tapeMany.toInt ≤ 120) (h_2 : -1 ≤ v_textMany.toInt) (h_3 : v_textMany.toInt ≤ 120) (h_4 : v_tape.length = 120) (h_5 : v_text.length = 120) (h_6 : v_names.length = 6) : wp (fX9_law N v_tapeMany v_textMany v_base v_at v_ends v_fault v_opened v_tape v_text v_names) (cu9 (fun (r : Int32) (wv_tapeMany : Int32) (wv_textMany : Int32) (wv_base : Int32) (wv_at : Int32) (wv_ends : Int32) (wv_fault : Int32) (wv_opened : Int32) (wv_text : List Int32) => 0 ≤ wv_tapeMany.toInt ∧ wv_tapeMany.toInt ≤ 120 ∧ -1 ≤ wv_textMany.toInt ∧ wv_textMany.toInt ≤ 120 ∧ wv_text.length = 120 ∧ wv_tapeMany.toInt = 0)) := by
  refine wp_of (uf_X9_law _ _ _ _ _ _ _ _ _ _ _) ?_
  have n_1 : (-1 : Int32).toInt = -1 := by decide
  refine wp_bd6 (sf_X9_workOut hN h_4 h_5 h_6 (by omega) (by omega) h_0 h_1) (fun r_1 w_2 w_3 w_4 w_5 w_6 _ => ?_)
  have n_3 : (0 : Int32).toInt = 0 := by decide
  refine wp_if (fun c_2 => ?_) (fun c_2 => ?_)
  ·
    have dc_2 := i_lt c_2
    exact sz_X9_law_37 hN _ _ _ _ _ _ _ _ _ _ _ _ _ (by omega) (by omega) h_2 h_3 h_4 h_5 h_6 h_0 h_1 (by omega) (by omega) (by omega) (by omega)
  ·
    have dc_2 := i_nlt c_2
    exact wp_so9 ⟨(by omega), (by omega), h_2, h_3, h_5, (by omega)⟩
set_option maxHeartbeats 4000000 in
set_option maxRecDepth 20000 in
theorem sz_X9_isNew_17 {N : Nat} (hN : 700 ≤ N) {u_row : List Int32} {u_col : List Int32} {u_sR : List Int32} {u_sC : List Int32} {A : Int} {B9 : Int} {a9 : Int} {b9 : Int} {R0 : Int32} {C0 : Int32} : ∀ (n : Nat) (x3 : Int32) (v_rowsOf : Int32) (v_columnsOf : Int32) (v_folded : Int32) (v_wronged : Int32) (v_shapeRows : List Int32) (v_shapeColumns : List Int32) (v_row : List Int32) (v_column : List Int32) (v_below : List Int32) (v_face : List Int32) (v_worn : List Int32) (v_lastBend : List Int32), 1 ≤ v_rowsOf.toInt → v_rowsOf.toInt ≤ 4 → 1 ≤ v_columnsOf.toInt → v_columnsOf.toInt ≤ 8 → v_shapeRows.length = 6 → v_shapeColumns.length = 6 → v_row.length = 192 → v_column.length = 192 → v_below.length = 192 → v_face.length = 192 → v_worn.length = 384 → v_lastBend.length = 384 → fr u_row v_row A B9 → fr u_col v_column A B9 → fr u_sR v_shapeRows a9 b9 → fr u_sC v_shapeColumns a9 b9 → A ≤ 32 * (0 : Int32).toInt → 32 * (0 : Int32).toInt + 32 ≤ B9 → a9 ≤ (0 : Int32).toInt → (0 : Int32).toInt < b9 → lv9 v_rowsOf v_columnsOf v_shapeRows v_shapeColumns v_row v_column (0 : Int32) → 0 ≤ x3.toInt → x3.toInt ≤ 64 → v_rowsOf.toInt = R0.toInt → v_columnsOf.toInt = C0.toInt → (64 - x3.toInt).toNat < n → wp (fX9_isNew_17 N n x3 v_rowsOf v_columnsOf v_folded v_wronged v_shapeRows v_shapeColumns v_row v_column v_below v_face v_worn v_lastBend) (cu12 (fun (wv_rowsOf : Int32) (wv_columnsOf : Int32) (wv_folded : Int32) (wv_wronged : Int32) (wv_shapeRows : List Int32) (wv_shapeColumns : List Int32) (wv_row : List Int32) (wv_column : List Int32) (wv_below : List Int32) (wv_face : List Int32) (wv_worn : List Int32) (wv_lastBend : List Int32) => 1 ≤ wv_rowsOf.toInt ∧ wv_rowsOf.toInt ≤ 4 ∧ 1 ≤ wv_columnsOf.toInt ∧ wv_columnsOf.toInt ≤ 8 ∧ wv_shapeRows.length = 6 ∧ wv_shapeColumns.length = 6 ∧ wv_row.length = 192 ∧ wv_column.length = 192 ∧ wv_below.length = 192 ∧ wv_face.length = 192 ∧ wv_worn.length = 384 ∧ wv_lastBend.length = 384 ∧ fr u_row wv_row A B9 ∧ fr u_col wv_column A B9 ∧ fr u_sR wv_shapeRows a9 b9 ∧ fr u_sC wv_shapeColumns a9 b9 ∧ lv9 wv_rowsOf wv_columnsOf wv_shapeRows wv_shapeColumns wv_row wv_column (0 : Int32) ∧ wv_rowsOf.toInt = R0.toInt ∧ wv_columnsOf.toInt = C0.toInt)) := by
  intro n
  induction n with
  | zero =>
    intro x3 v_rowsOf v_columnsOf v_folded v_wronged v_shapeRows v_shapeColumns v_row v_column v_below v_face v_worn v_lastBend h_0 h_1 h_2 h_3 h_4 h_5 h_6 h_7 h_8 h_9 h_10 h_11 h_12 h_13 h_14 h_15 h_16 h_17 h_18 h_19 h_20 h_21 h_22 h_23 h_24 hm
    exact absurd hm (by omega)
  | succ n ih =>
    intro x3 v_rowsOf v_columnsOf v_folded v_wronged v_shapeRows v_shapeColumns v_row v_column v_below v_face v_worn v_lastBend h_0 h_1 h_2 h_3 h_4 h_5 h_6 h_7 h_8 h_9 h_10 h_11 h_12 h_13 h_14 h_15 h_16 h_17 h_18 h_19 h_20 h_21 h_22 h_23 h_24 hm
    refine wp_of (uf_X9_isNew_17 _ _ _ _ _ _ _ _ _ _ _ _ _ _ _) ?_
    have n_2 : (64 : Int32).toInt = 64 := by decide
    refine wp_if (fun c_1 => ?_) (fun c_1 => ?_)
    ·
      have dc_1 := i_le c_1
      exact wp_so12 ⟨h_0, h_1, h_2, h_3, h_4, h_5, h_6, h_7, h_8, h_9, h_10, h_11, h_12, h_13, h_14, h_15, h_20, h_23, h_24⟩
    ·
      have dc_1 := i_nle c_1
      refine wp_ck (i_inb (by omega) (by omega)) ?_
      have n_3 : (0 : Int32).toInt = 0 := by decide
      refine wp_nm (fun l_10 h_l_10 => ?_)
      have nl_l_10 : l_10.length = 384 := by rw [h_l_10, is_len]; assumption
      refine wp_ck (i_inb (by omega) (by omega)) ?_
      refine wp_nm (fun l_12 h_l_12 => ?_)
      have nl_l_12 : l_12.length = 384 := by rw [h_l_12, is_len]; assumption
      have n_4 : (1 : Int32).toInt = 1 := by decide
      refine wp_nm (fun y_13 h_y_13 => ?_)
      have e_5 := i_addE h_y_13.symm (by omega) (by omega)
      exact ih _ _ _ _ _ _ _ _ _ _ _ _ _ h_0 h_1 h_2 h_3 h_4 h_5 h_6 h_7 h_8 h_9 nl_l_10 nl_l_12 h_12 h_13 h_14 h_15 h_16 h_17 h_18 h_19 h_20 (by omega) (by omega) h_23 h_24 (by omega)
set_option maxHeartbeats 4000000 in
set_option maxRecDepth 20000 in
theorem sz_X9_isNew {N : Nat} (hN : 700 ≤ N) {u_row : List Int32} {u_col : List Int32} {u_sR : List Int32} {u_sC : List Int32} {A : Int} {B9 : Int} {a9 : Int} {b9 : Int} {R0 : Int32} {C0 : Int32} {x1 : Int32} {x2 : Int32} {v_rowsOf : Int32} {v_columnsOf : Int32} {v_folded : Int32} {v_wronged : Int32} {v_shapeRows : List Int32} {v_shapeColumns : List Int32} {v_row : List Int32} {v_column : List Int32} {v_below : List Int32} {v_face : List Int32} {v_worn : List Int32} {v_lastBend : List Int32} (h_0 : 1 ≤ v_rowsOf.toInt) (h_1 : v_rowsOf.toInt ≤ 4) (h_2 : 1 ≤ v_columnsOf.toInt) (h_3 : v_columnsOf.toInt ≤ 8) (h_4 : v_shapeRows.length = 6) (h_5 : v_shapeColumns.length = 6) (h_6 : v_row.length = 192) (h_7 : v_column.length = 192) (h_8 : v_below.length = 192) (h_9 : v_face.length = 192) (h_10 : v_worn.length = 384) (h_11 : v_lastBend.length = 384) (h_12 : 1 ≤ x1.toInt) (h_13 : x1.toInt ≤ 4) (h_14 : 1 ≤ x2.toInt) (h_15 : x2.toInt ≤ 8) (h_16 : fr u_row v_row A B9) (h_17 : fr u_col v_column A B9) (h_18 : fr u_sR v_shapeRows a9 b9) (h_19 : fr u_sC v_shapeColumns a9 b9) (h_20 : A ≤ 32 * (0 : Int32).toInt) (h_21 : 32 * (0 : Int32).toInt + 32 ≤ B9) (h_22 : a9 ≤ (0 : Int32).toInt) (h_23 : (0 : Int32).toInt < b9) (h_24 : x1.toInt = R0.toInt) (h_25 : x2.toInt = C0.toInt) : wp (fX9_isNew N x1 x2 v_rowsOf v_columnsOf v_folded v_wronged v_shapeRows v_shapeColumns v_row v_column v_below v_face v_worn v_lastBend) (cu12 (fun (wv_rowsOf : Int32) (wv_columnsOf : Int32) (wv_folded : Int32) (wv_wronged : Int32) (wv_shapeRows : List Int32) (wv_shapeColumns : List Int32) (wv_row : List Int32) (wv_column : List Int32) (wv_below : List Int32) (wv_face : List Int32) (wv_worn : List Int32) (wv_lastBend : List Int32) => 1 ≤ wv_rowsOf.toInt ∧ wv_rowsOf.toInt ≤ 4 ∧ 1 ≤ wv_columnsOf.toInt ∧ wv_columnsOf.toInt ≤ 8 ∧ wv_shapeRows.length = 6 ∧ wv_shapeColumns.length = 6 ∧ wv_row.length = 192 ∧ wv_column.length = 192 ∧ wv_below.length = 192 ∧ wv_face.length = 192 ∧ wv_worn.length = 384 ∧ wv_lastBend.length = 384 ∧ fr u_row wv_row A B9 ∧ fr u_col wv_column A B9 ∧ fr u_sR wv_shapeRows a9 b9 ∧ fr u_sC wv_shapeColumns a9 b9 ∧ lv9 wv_rowsOf wv_columnsOf wv_shapeRows wv_shapeColumns wv_row wv_column (0 : Int32) ∧ wv_rowsOf.toInt = R0.toInt ∧ wv_columnsOf.toInt = C0.toInt)) := by
  refine wp_of (uf_X9_isNew _ _ _ _ _ _ _ _ _ _ _ _ _ _ _) ?_
  have n_1 : (0 : Int32).toInt = 0 := by decide
  refine wp_bd6 (sf_X9_liesFlat (u_row := u_row) (u_col := u_col) (u_sR := u_sR) (u_sC := u_sC) (A := A) (B9 := B9) (a9 := a9) (b9 := b9) hN h_12 h_13 h_14 h_15 h_4 h_5 h_6 h_7 h_8 h_9 (by omega) (by omega) h_16 h_17 h_18 h_19 h_20 h_21 h_22 h_23) (fun w_1 w_2 w_3 w_4 w_5 w_6 ⟨q_2, q_3, q_4, q_5, q_6, q_7, q_8, q_9, q_10, q_11, q_12⟩ => ?_)
  exact sz_X9_isNew_17 (u_row := u_row) (u_col := u_col) (u_sR := u_sR) (u_sC := u_sC) (A := A) (B9 := B9) (a9 := a9) (b9 := b9) (R0 := R0) (C0 := C0) hN _ _ _ _ _ _ _ _ _ _ _ _ _ _ h_12 h_13 h_14 h_15 q_2 q_3 q_4 q_5 q_6 q_7 h_10 h_11 q_8 q_9 q_10 q_11 h_20 h_21 h_22 h_23 q_12 (by omega) (by omega) h_24 h_25 (by omega)
set_option maxHeartbeats 4000000 in
set_option maxRecDepth 20000 in
theorem sz_X5_renew {N : Nat} (hN : 700 ≤ N) {x1 : Int32} {x2 : Int32} {v_rows : Int32} {v_cols : Int32} {v_high : Int32} {v_wide : Int32} {v_folds : Int32} {v_wrong : Int32} {v_more : Int32} {v_rowOf : List Int32} {v_colOf : List Int32} {v_below : List Int32} {v_face : List Int32} {v_worn : List Int32} {v_last : List Int32} (h_0 : 1 ≤ v_rows.toInt) (h_1 : v_rows.toInt ≤ 4) (h_2 : 1 ≤ v_cols.toInt) (h_3 : v_cols.toInt ≤ 8) (h_4 : 1 ≤ v_high.toInt) (h_5 : v_high.toInt ≤ 4) (h_6 : 1 ≤ v_wide.toInt) (h_7 : v_wide.toInt ≤ 8) (h_8 : v_rowOf.length = 32) (h_9 : v_colOf.length = 32) (h_10 : v_below.length = 32) (h_11 : v_face.length = 32) (h_12 : v_worn.length = 64) (h_13 : v_last.length = 64) (h_14 : 1 ≤ x1.toInt) (h_15 : x1.toInt ≤ 4) (h_16 : 1 ≤ x2.toInt) (h_17 : x2.toInt ≤ 8) : wp (fX5_renew N x1 x2 v_rows v_cols v_high v_wide v_folds v_wrong v_more v_rowOf v_colOf v_below v_face v_worn v_last) (cu13 (fun (wv_rows : Int32) (wv_cols : Int32) (wv_high : Int32) (wv_wide : Int32) (wv_folds : Int32) (wv_wrong : Int32) (wv_more : Int32) (wv_rowOf : List Int32) (wv_colOf : List Int32) (wv_below : List Int32) (wv_face : List Int32) (wv_worn : List Int32) (wv_last : List Int32) => 1 ≤ wv_rows.toInt ∧ wv_rows.toInt ≤ 4 ∧ 1 ≤ wv_cols.toInt ∧ wv_cols.toInt ≤ 8 ∧ 1 ≤ wv_high.toInt ∧ wv_high.toInt ≤ 4 ∧ 1 ≤ wv_wide.toInt ∧ wv_wide.toInt ≤ 8 ∧ wv_rowOf.length = 32 ∧ wv_colOf.length = 32 ∧ wv_below.length = 32 ∧ wv_face.length = 32 ∧ wv_worn.length = 64 ∧ wv_last.length = 64 ∧ zn wv_rowOf 0 (wv_rows.toInt * wv_cols.toInt) 0 wv_high.toInt ∧ zn wv_colOf 0 (wv_rows.toInt * wv_cols.toInt) 0 wv_wide.toInt ∧ wv_rows.toInt = x1.toInt ∧ wv_cols.toInt = x2.toInt)) := by
  refine wp_of (uf_X5_renew _ _ _ _ _ _ _ _ _ _ _ _ _ _ _ _) ?_
  refine wp_bd1 (sf_J7_fill_53178 hN (by first | assumption | omega | decide) (by first | assumption | omega | decide)) (fun w_1 q_1 => ?_)
  have nl_w_1 : w_1.length = 64 := by omega
  refine wp_bd1 (sf_J7_fill_53178 hN (by first | assumption | omega | decide) (by first | assumption | omega | decide)) (fun w_3 q_2 => ?_)
  have nl_w_3 : w_3.length = 64 := by omega
  refine wp_bd3 (sf_X5_forgetLed hN ) (fun w_5 w_6 w_7 _ => ?_)
  refine wp_bd6 (sf_X5_layOut hN h_14 h_15 h_16 h_17 h_4 h_5 h_6 h_7 h_8 h_9 h_10 h_11) (fun w_9 w_10 w_11 w_12 w_13 w_14 ⟨q_3, q_4, q_5, q_6, q_7, q_8, q_9, q_10, q_11, q_12⟩ => ?_)
  exact wp_so13 ⟨h_14, h_15, h_16, h_17, q_3, q_4, q_5, q_6, q_7, q_8, q_9, q_10, nl_w_1, nl_w_3, q_11, q_12, (by omega), (by omega)⟩
set_option maxHeartbeats 4000000 in
set_option maxRecDepth 20000 in
theorem sz_X8_sheet {N : Nat} (hN : 700 ≤ N) {x1 : Int32} {v_now_rows : Int32} {v_now_cols : Int32} {v_now_high : Int32} {v_now_wide : Int32} {v_now_folds : Int32} {v_now_wrong : Int32} {v_now_more : Int32} {v_now_rowOf : List Int32} {v_now_colOf : List Int32} {v_now_below : List Int32} {v_now_face : List Int32} {v_now_worn : List Int32} {v_now_last : List Int32} (h_0 : 1 ≤ v_now_rows.toInt) (h_1 : v_now_rows.toInt ≤ 4) (h_2 : 1 ≤ v_now_cols.toInt) (h_3 : v_now_cols.toInt ≤ 8) (h_4 : 1 ≤ v_now_high.toInt) (h_5 : v_now_high.toInt ≤ 4) (h_6 : 1 ≤ v_now_wide.toInt) (h_7 : v_now_wide.toInt ≤ 8) (h_8 : v_now_rowOf.length = 32) (h_9 : v_now_colOf.length = 32) (h_10 : v_now_below.length = 32) (h_11 : v_now_face.length = 32) (h_12 : v_now_worn.length = 64) (h_13 : v_now_last.length = 64) (h_14 : zn v_now_rowOf 0 (v_now_rows.toInt * v_now_cols.toInt) 0 v_now_high.toInt) (h_15 : zn v_now_colOf 0 (v_now_rows.toInt * v_now_cols.toInt) 0 v_now_wide.toInt) (h_16 : -2147483648 ≤ x1.toInt) : wp (fX8_sheet N x1 v_now_rows v_now_cols v_now_high v_now_wide v_now_folds v_now_wrong v_now_more v_now_rowOf v_now_colOf v_now_below v_now_face v_now_worn v_now_last) (cu14 (fun (r : Int32) (wv_now_rows : Int32) (wv_now_cols : Int32) (wv_now_high : Int32) (wv_now_wide : Int32) (wv_now_folds : Int32) (wv_now_wrong : Int32) (wv_now_more : Int32) (wv_now_rowOf : List Int32) (wv_now_colOf : List Int32) (wv_now_below : List Int32) (wv_now_face : List Int32) (wv_now_worn : List Int32) (wv_now_last : List Int32) => 1 ≤ wv_now_rows.toInt ∧ wv_now_rows.toInt ≤ 4 ∧ 1 ≤ wv_now_cols.toInt ∧ wv_now_cols.toInt ≤ 8 ∧ 1 ≤ wv_now_high.toInt ∧ wv_now_high.toInt ≤ 4 ∧ 1 ≤ wv_now_wide.toInt ∧ wv_now_wide.toInt ≤ 8 ∧ wv_now_rowOf.length = 32 ∧ wv_now_colOf.length = 32 ∧ wv_now_below.length = 32 ∧ wv_now_face.length = 32 ∧ wv_now_worn.length = 64 ∧ wv_now_last.length = 64 ∧ zn wv_now_rowOf 0 (wv_now_rows.toInt * wv_now_cols.toInt) 0 wv_now_high.toInt ∧ zn wv_now_colOf 0 (wv_now_rows.toInt * wv_now_cols.toInt) 0 wv_now_wide.toInt ∧ (((r.toInt = -1 ∧ wv_now_rows.toInt = v_now_rows.toInt ∧ wv_now_cols.toInt = v_now_cols.toInt ∧ ¬ (0 ≤ x1.toInt ∧ 1 ≤ x1.toInt / 10 ∧ x1.toInt / 10 ≤ 4 ∧ 1 ≤ x1.toInt % 10 ∧ x1.toInt % 10 ≤ 8)) ∨ (r.toInt = 10 * v_now_rows.toInt + v_now_cols.toInt ∧ wv_now_rows.toInt = x1.toInt / 10 ∧ wv_now_cols.toInt = x1.toInt % 10 ∧ (0 ≤ x1.toInt ∧ 1 ≤ x1.toInt / 10 ∧ x1.toInt / 10 ≤ 4 ∧ 1 ≤ x1.toInt % 10 ∧ x1.toInt % 10 ≤ 8)))))) := by
  refine wp_of (uf_X8_sheet _ _ _ _ _ _ _ _ _ _ _ _ _ _ _) ?_
  have n_1 : (10 : Int32).toInt = 10 := by decide
  refine wp_ck (i_nz (by omega)) ?_
  refine wp_nm (fun y_2 h_y_2 => ?_)
  have e_2 := i_divL (c := 10) (by decide) (by decide) h_y_2.symm
  have dn_2 : x1.toInt < 0 → y_2.toInt ≤ 0 := fun h => i_dneg (by assumption) h
  refine wp_ck (i_nz (by omega)) ?_
  refine wp_nm (fun y_4 h_y_4 => ?_)
  have e_3 := i_remL (c := 10) (by decide) (by decide) h_y_4.symm
  have n_5 : (1 : Int32).toInt = 1 := by decide
  refine wp_if (fun c_4 => ?_) (fun c_4 => ?_)
  ·
    have dc_4 := i_lt c_4
    have n_6 : (-1 : Int32).toInt = -1 := by decide
    exact wp_so14 ⟨h_0, h_1, h_2, h_3, h_4, h_5, h_6, h_7, h_8, h_9, h_10, h_11, h_12, h_13, h_14, h_15, (by omega)⟩
  ·
    have dc_4 := i_nlt c_4
    have n_8 : (4 : Int32).toInt = 4 := by decide
    refine wp_if (fun c_7 => ?_) (fun c_7 => ?_)
    ·
      have dc_7 := i_lt c_7
      have n_9 : (-1 : Int32).toInt = -1 := by decide
      exact wp_so14 ⟨h_0, h_1, h_2, h_3, h_4, h_5, h_6, h_7, h_8, h_9, h_10, h_11, h_12, h_13, h_14, h_15, (by omega)⟩
    ·
      have dc_7 := i_nlt c_7
      refine wp_if (fun c_10 => ?_) (fun c_10 => ?_)
      ·
        have dc_10 := i_lt c_10
        have n_11 : (-1 : Int32).toInt = -1 := by decide
        exact wp_so14 ⟨h_0, h_1, h_2, h_3, h_4, h_5, h_6, h_7, h_8, h_9, h_10, h_11, h_12, h_13, h_14, h_15, (by omega)⟩
      ·
        have dc_10 := i_nlt c_10
        have n_13 : (8 : Int32).toInt = 8 := by decide
        refine wp_if (fun c_12 => ?_) (fun c_12 => ?_)
        ·
          have dc_12 := i_le c_12
          generalize hz_z : ((10 : Int32) * v_now_rows) = z
          have e_14 := i_mulLE (c := 10) (by decide) hz_z (by omega) (by omega)
          refine wp_nm (fun y_9 h_y_9 => ?_)
          have e_15 := i_addE h_y_9.symm (by omega) (by omega)
          refine wp_bd13 (sz_X5_renew hN h_0 h_1 h_2 h_3 h_4 h_5 h_6 h_7 h_8 h_9 h_10 h_11 h_12 h_13 (by omega) (by omega) (by omega) (by omega)) (fun w_10 w_11 w_12 w_13 w_14 w_15 w_16 w_17 w_18 w_19 w_20 w_21 w_22 ⟨q_16, q_17, q_18, q_19, q_20, q_21, q_22, q_23, q_24, q_25, q_26, q_27, q_28, q_29, q_30, q_31, q_32, q_33⟩ => ?_)
          exact wp_so14 ⟨q_16, q_17, q_18, q_19, q_20, q_21, q_22, q_23, q_24, q_25, q_26, q_27, q_28, q_29, q_30, q_31, (by omega)⟩
        ·
          have dc_12 := i_nle c_12
          have n_34 : (-1 : Int32).toInt = -1 := by decide
          exact wp_so14 ⟨h_0, h_1, h_2, h_3, h_4, h_5, h_6, h_7, h_8, h_9, h_10, h_11, h_12, h_13, h_14, h_15, (by omega)⟩
set_option maxHeartbeats 4000000 in
set_option maxRecDepth 20000 in
theorem sz_X9_sheet {N : Nat} (hN : 700 ≤ N) {u_row : List Int32} {u_col : List Int32} {u_sR : List Int32} {u_sC : List Int32} {A : Int} {B9 : Int} {a9 : Int} {b9 : Int} {x1 : Int32} {v_rowsOf : Int32} {v_columnsOf : Int32} {v_folded : Int32} {v_wronged : Int32} {v_shapeRows : List Int32} {v_shapeColumns : List Int32} {v_row : List Int32} {v_column : List Int32} {v_below : List Int32} {v_face : List Int32} {v_worn : List Int32} {v_lastBend : List Int32} (h_0 : 1 ≤ v_rowsOf.toInt) (h_1 : v_rowsOf.toInt ≤ 4) (h_2 : 1 ≤ v_columnsOf.toInt) (h_3 : v_columnsOf.toInt ≤ 8) (h_4 : v_shapeRows.length = 6) (h_5 : v_shapeColumns.length = 6) (h_6 : v_row.length = 192) (h_7 : v_column.length = 192) (h_8 : v_below.length = 192) (h_9 : v_face.length = 192) (h_10 : v_worn.length = 384) (h_11 : v_lastBend.length = 384) (h_12 : fr u_row v_row A B9) (h_13 : fr u_col v_column A B9) (h_14 : fr u_sR v_shapeRows a9 b9) (h_15 : fr u_sC v_shapeColumns a9 b9) (h_16 : A ≤ 32 * (0 : Int32).toInt) (h_17 : 32 * (0 : Int32).toInt + 32 ≤ B9) (h_18 : a9 ≤ (0 : Int32).toInt) (h_19 : (0 : Int32).toInt < b9) (h_20 : lv9 v_rowsOf v_columnsOf v_shapeRows v_shapeColumns v_row v_column (0 : Int32)) : wp (fX9_sheet N x1 v_rowsOf v_columnsOf v_folded v_wronged v_shapeRows v_shapeColumns v_row v_column v_below v_face v_worn v_lastBend) (cu13 (fun (r : Int32) (wv_rowsOf : Int32) (wv_columnsOf : Int32) (wv_folded : Int32) (wv_wronged : Int32) (wv_shapeRows : List Int32) (wv_shapeColumns : List Int32) (wv_row : List Int32) (wv_column : List Int32) (wv_below : List Int32) (wv_face : List Int32) (wv_worn : List Int32) (wv_lastBend : List Int32) => 1 ≤ wv_rowsOf.toInt ∧ wv_rowsOf.toInt ≤ 4 ∧ 1 ≤ wv_columnsOf.toInt ∧ wv_columnsOf.toInt ≤ 8 ∧ wv_shapeRows.length = 6 ∧ wv_shapeColumns.length = 6 ∧ wv_row.length = 192 ∧ wv_column.length = 192 ∧ wv_below.length = 192 ∧ wv_face.length = 192 ∧ wv_worn.length = 384 ∧ wv_lastBend.length = 384 ∧ fr u_row wv_row A B9 ∧ fr u_col wv_column A B9 ∧ fr u_sR wv_shapeRows a9 b9 ∧ fr u_sC wv_shapeColumns a9 b9 ∧ lv9 wv_rowsOf wv_columnsOf wv_shapeRows wv_shapeColumns wv_row wv_column (0 : Int32) ∧ (((r.toInt = -1 ∧ wv_rowsOf.toInt = v_rowsOf.toInt ∧ wv_columnsOf.toInt = v_columnsOf.toInt ∧ ¬ (0 ≤ x1.toInt ∧ 1 ≤ x1.toInt / 10 ∧ x1.toInt / 10 ≤ 4 ∧ 1 ≤ x1.toInt % 10 ∧ x1.toInt % 10 ≤ 8)) ∨ (r.toInt = 10 * v_rowsOf.toInt + v_columnsOf.toInt ∧ wv_rowsOf.toInt = x1.toInt / 10 ∧ wv_columnsOf.toInt = x1.toInt % 10 ∧ (0 ≤ x1.toInt ∧ 1 ≤ x1.toInt / 10 ∧ x1.toInt / 10 ≤ 4 ∧ 1 ≤ x1.toInt % 10 ∧ x1.toInt % 10 ≤ 8)))))) := by
  refine wp_of (uf_X9_sheet _ _ _ _ _ _ _ _ _ _ _ _ _ _) ?_
  have n_2 : (0 : Int32).toInt = 0 := by decide
  refine wp_if (fun c_1 => ?_) (fun c_1 => ?_)
  ·
    have dc_1 := i_lt c_1
    have n_3 : (-1 : Int32).toInt = -1 := by decide
    exact wp_so13 ⟨h_0, h_1, h_2, h_3, h_4, h_5, h_6, h_7, h_8, h_9, h_10, h_11, h_12, h_13, h_14, h_15, h_20, (by omega)⟩
  ·
    have dc_1 := i_nlt c_1
    have n_4 : (10 : Int32).toInt = 10 := by decide
    refine wp_ck (i_nz (by omega)) ?_
    generalize hz_z : (x1 / (10 : Int32)) = z
    have e_5 := i_divL (c := 10) (by decide) (by decide) hz_z
    have n_6 := i_64 z
    have n_7 : (1 : Int64).toInt = 1 := by decide
    have n_8 : (4 : Int64).toInt = 4 := by decide
    refine wp_bd1 (sf_X9_within hN ) (fun r_3 q_9 => ?_)
    rcases q_9 with ⟨rfl, q_9⟩ | ⟨rfl, q_9⟩
    ·
      refine wp_ifn (by decide) ?_
      refine wp_ck (i_nz (by omega)) ?_
      generalize hz_z__10 : (mm_rem x1 (10 : Int32)) = z__10
      have e_11 := i_remL (c := 10) (by decide) (by decide) hz_z__10
      have n_12 := i_64 z__10
      have n_13 : (8 : Int64).toInt = 8 := by decide
      refine wp_bd1 (sf_X9_within hN ) (fun r_7 q_14 => ?_)
      rcases q_14 with ⟨rfl, q_14⟩ | ⟨rfl, q_14⟩
      ·
        refine wp_ifn (by decide) ?_
        generalize hz_z__15 : ((10 : Int32) * v_rowsOf) = z__15
        have e_16 := i_mulLE (c := 10) (by decide) hz_z__15 (by omega) (by omega)
        refine wp_nm (fun y_10 h_y_10 => ?_)
        have e_17 := i_addE h_y_10.symm (by omega) (by omega)
        refine wp_ck (i_nz (by omega)) ?_
        refine wp_ck (i_nz (by omega)) ?_
        refine wp_bd12 (sz_X9_isNew (u_row := u_row) (u_col := u_col) (u_sR := u_sR) (u_sC := u_sC) (A := A) (B9 := B9) (a9 := a9) (b9 := b9) (R0 := z) (C0 := z__10) hN h_0 h_1 h_2 h_3 h_4 h_5 h_6 h_7 h_8 h_9 h_10 h_11 (by omega) (by omega) (by omega) (by omega) h_12 h_13 h_14 h_15 h_16 h_17 h_18 h_19 (by omega) (by omega)) (fun w_13 w_14 w_15 w_16 w_17 w_18 w_19 w_20 w_21 w_22 w_23 w_24 ⟨q_18, q_19, q_20, q_21, q_22, q_23, q_24, q_25, q_26, q_27, q_28, q_29, q_30, q_31, q_32, q_33, q_34, q_35, q_36⟩ => ?_)
        exact wp_so13 ⟨q_18, q_19, q_20, q_21, q_22, q_23, q_24, q_25, q_26, q_27, q_28, q_29, q_30, q_31, q_32, q_33, q_34, (by omega)⟩
      ·
        refine wp_ifp (by decide) ?_
        have n_37 : (-1 : Int32).toInt = -1 := by decide
        exact wp_so13 ⟨h_0, h_1, h_2, h_3, h_4, h_5, h_6, h_7, h_8, h_9, h_10, h_11, h_12, h_13, h_14, h_15, h_20, (by omega)⟩
    ·
      refine wp_ifp (by decide) ?_
      have n_38 : (-1 : Int32).toInt = -1 := by decide
      exact wp_so13 ⟨h_0, h_1, h_2, h_3, h_4, h_5, h_6, h_7, h_8, h_9, h_10, h_11, h_12, h_13, h_14, h_15, h_20, (by omega)⟩
theorem ti_eq {a b : Int32} (h : a.toInt = b.toInt) : a = b := Int32.toInt_inj.mp h
theorem bi_8 {α0 α1 α2 α3 α4 α5 α6 α7 β : Type} {x : Option (α0 × α1 × α2 × α3 × α4 × α5 × α6 × α7)} {k : α0 → α1 → α2 → α3 → α4 → α5 → α6 → α7 → Option β} {z : β} (h : mm_bd8 x k = some z) : ∃ t : α0 × α1 × α2 × α3 × α4 × α5 × α6 × α7, x = some t ∧ k t.1 t.2.1 t.2.2.1 t.2.2.2.1 t.2.2.2.2.1 t.2.2.2.2.2.1 t.2.2.2.2.2.2.1 t.2.2.2.2.2.2.2 = some z := by
  cases x with
  | none => exact absurd h (by intro h; cases h)
  | some t => exact ⟨t, rfl, h⟩
def rl_dm (v_now_rows v_now_cols : Int32) (v_hasImage : Bool) (v_kept_rows v_kept_cols m_rowsOf m_columnsOf : Int32) (m_isKept : Bool) (m_imageRows m_imageColumns : Int32) : Prop := m_rowsOf = v_now_rows ∧ m_columnsOf = v_now_cols ∧ m_isKept = v_hasImage ∧ (v_hasImage = true → m_imageRows = v_kept_rows ∧ m_imageColumns = v_kept_cols)
set_option maxHeartbeats 4000000 in
set_option maxRecDepth 20000 in
theorem sx8_law {v_wearing_size : Int32} {v_wearing_stepCount : Int32} {v_wearing_draftCount : Int32} {v_wearing_place : Int32} {v_wearing_fault : Int32} {v_wearing_tape : List Int32} {v_wearing_steps : List Int32} {v_wearing_draft : List Int32} {v_wearing_stack : List Int32} (g_0 : gi_la v_wearing_size v_wearing_stepCount v_wearing_draftCount v_wearing_tape v_wearing_steps v_wearing_draft v_wearing_stack) : wp (fX8_law 700 v_wearing_size v_wearing_stepCount v_wearing_draftCount v_wearing_place v_wearing_fault v_wearing_tape v_wearing_steps v_wearing_draft) (cu8 (fun (r : Int32) (wv_wearing_size : Int32) (wv_wearing_stepCount : Int32) (wv_wearing_draftCount : Int32) (wv_wearing_place : Int32) (wv_wearing_fault : Int32) (wv_wearing_steps : List Int32) (wv_wearing_draft : List Int32) => wv_wearing_size.toInt = 0)) := by
  obtain ⟨a_0_0, a_0_1, a_0_2, a_0_3, a_0_4, a_0_5, a_0_6, a_0_7, a_0_8, a_0_9⟩ := id g_0
  exact wp_cu8 (sz_X8_law (Nat.le_refl 700) a_0_0 a_0_1 a_0_2 a_0_3 a_0_4 a_0_5 a_0_6 a_0_7 a_0_8) (fun r wv_wearing_size wv_wearing_stepCount wv_wearing_draftCount wv_wearing_place wv_wearing_fault wv_wearing_steps wv_wearing_draft ⟨q_0, q_1, q_2, q_3, q_4, q_5, q_6, q_7, q_8⟩ => q_8)
set_option maxHeartbeats 4000000 in
set_option maxRecDepth 20000 in
theorem sx9_law {v_tapeMany : Int32} {v_textMany : Int32} {v_base : Int32} {v_at : Int32} {v_ends : Int32} {v_fault : Int32} {v_opened : Int32} {v_tape : List Int32} {v_text : List Int32} {v_names : List Int32} {v_bends : List Int32} {v_high : List Int32} {v_to : List Int32} {v_pileSize : List Int32} (g_0 : gm_tx v_tapeMany v_textMany v_tape v_text v_names v_bends v_high v_to v_pileSize) : wp (fX9_law 700 v_tapeMany v_textMany v_base v_at v_ends v_fault v_opened v_tape v_text v_names) (cu9 (fun (r : Int32) (wv_tapeMany : Int32) (wv_textMany : Int32) (wv_base : Int32) (wv_at : Int32) (wv_ends : Int32) (wv_fault : Int32) (wv_opened : Int32) (wv_text : List Int32) => wv_tapeMany.toInt = 0)) := by
  obtain ⟨a_0_0, a_0_1, a_0_2, a_0_3, a_0_4, a_0_5, a_0_6, a_0_7, a_0_8, a_0_9, a_0_10⟩ := id g_0
  exact wp_cu9 (sz_X9_law (Nat.le_refl 700) a_0_0 a_0_1 a_0_2 a_0_3 a_0_4 a_0_5 a_0_6) (fun r wv_tapeMany wv_textMany wv_base wv_at wv_ends wv_fault wv_opened wv_text ⟨q_0, q_1, q_2, q_3, q_4, q_5⟩ => q_5)
set_option maxHeartbeats 4000000 in
set_option maxRecDepth 20000 in
theorem sx8_sheet {x1 : Int32} {v_now_rows : Int32} {v_now_cols : Int32} {v_now_high : Int32} {v_now_wide : Int32} {v_now_folds : Int32} {v_now_wrong : Int32} {v_now_more : Int32} {v_now_rowOf : List Int32} {v_now_colOf : List Int32} {v_now_below : List Int32} {v_now_face : List Int32} {v_now_worn : List Int32} {v_now_last : List Int32} {v_now_bend : List Int32} {v_now_tall : List Int32} (g_0 : gi_sh v_now_rows v_now_cols v_now_high v_now_wide v_now_rowOf v_now_colOf v_now_below v_now_face v_now_worn v_now_last v_now_bend v_now_tall) : wp (fX8_sheet 700 x1 v_now_rows v_now_cols v_now_high v_now_wide v_now_folds v_now_wrong v_now_more v_now_rowOf v_now_colOf v_now_below v_now_face v_now_worn v_now_last) (cu14 (fun (r : Int32) (wv_now_rows : Int32) (wv_now_cols : Int32) (wv_now_high : Int32) (wv_now_wide : Int32) (wv_now_folds : Int32) (wv_now_wrong : Int32) (wv_now_more : Int32) (wv_now_rowOf : List Int32) (wv_now_colOf : List Int32) (wv_now_below : List Int32) (wv_now_face : List Int32) (wv_now_worn : List Int32) (wv_now_last : List Int32) => (((r.toInt = -1 ∧ wv_now_rows.toInt = v_now_rows.toInt ∧ wv_now_cols.toInt = v_now_cols.toInt ∧ ¬ (0 ≤ x1.toInt ∧ 1 ≤ x1.toInt / 10 ∧ x1.toInt / 10 ≤ 4 ∧ 1 ≤ x1.toInt % 10 ∧ x1.toInt % 10 ≤ 8)) ∨ (r.toInt = 10 * v_now_rows.toInt + v_now_cols.toInt ∧ wv_now_rows.toInt = x1.toInt / 10 ∧ wv_now_cols.toInt = x1.toInt % 10 ∧ (0 ≤ x1.toInt ∧ 1 ≤ x1.toInt / 10 ∧ x1.toInt / 10 ≤ 4 ∧ 1 ≤ x1.toInt % 10 ∧ x1.toInt % 10 ≤ 8)))))) := by
  obtain ⟨a_0_0, a_0_1, a_0_2, a_0_3, a_0_4, a_0_5, a_0_6, a_0_7, a_0_8, a_0_9, a_0_10, a_0_11, a_0_12, a_0_13, a_0_14, a_0_15, a_0_16, a_0_17⟩ := id g_0
  exact wp_cu14 (sz_X8_sheet (Nat.le_refl 700) a_0_0 a_0_1 a_0_2 a_0_3 a_0_4 a_0_5 a_0_6 a_0_7 a_0_8 a_0_9 a_0_10 a_0_11 a_0_12 a_0_13 a_0_16 a_0_17 (Int32.le_toInt _)) (fun r wv_now_rows wv_now_cols wv_now_high wv_now_wide wv_now_folds wv_now_wrong wv_now_more wv_now_rowOf wv_now_colOf wv_now_below wv_now_face wv_now_worn wv_now_last ⟨q_0, q_1, q_2, q_3, q_4, q_5, q_6, q_7, q_8, q_9, q_10, q_11, q_12, q_13, q_14, q_15, q_16⟩ => q_16)
set_option maxHeartbeats 4000000 in
set_option maxRecDepth 20000 in
theorem sx9_sheet {x1 : Int32} {v_rowsOf : Int32} {v_columnsOf : Int32} {v_folded : Int32} {v_wronged : Int32} {v_shapeRows : List Int32} {v_shapeColumns : List Int32} {v_row : List Int32} {v_column : List Int32} {v_below : List Int32} {v_face : List Int32} {v_worn : List Int32} {v_lastBend : List Int32} {v_isKept : Bool} {v_imageRows : Int32} {v_imageColumns : Int32} (g_0 : gm_sh v_rowsOf v_columnsOf v_isKept v_imageRows v_imageColumns v_shapeRows v_shapeColumns v_row v_column v_below v_face v_worn v_lastBend) : wp (fX9_sheet 700 x1 v_rowsOf v_columnsOf v_folded v_wronged v_shapeRows v_shapeColumns v_row v_column v_below v_face v_worn v_lastBend) (cu13 (fun (r : Int32) (wv_rowsOf : Int32) (wv_columnsOf : Int32) (wv_folded : Int32) (wv_wronged : Int32) (wv_shapeRows : List Int32) (wv_shapeColumns : List Int32) (wv_row : List Int32) (wv_column : List Int32) (wv_below : List Int32) (wv_face : List Int32) (wv_worn : List Int32) (wv_lastBend : List Int32) => (((r.toInt = -1 ∧ wv_rowsOf.toInt = v_rowsOf.toInt ∧ wv_columnsOf.toInt = v_columnsOf.toInt ∧ ¬ (0 ≤ x1.toInt ∧ 1 ≤ x1.toInt / 10 ∧ x1.toInt / 10 ≤ 4 ∧ 1 ≤ x1.toInt % 10 ∧ x1.toInt % 10 ≤ 8)) ∨ (r.toInt = 10 * v_rowsOf.toInt + v_columnsOf.toInt ∧ wv_rowsOf.toInt = x1.toInt / 10 ∧ wv_columnsOf.toInt = x1.toInt % 10 ∧ (0 ≤ x1.toInt ∧ 1 ≤ x1.toInt / 10 ∧ x1.toInt / 10 ≤ 4 ∧ 1 ≤ x1.toInt % 10 ∧ x1.toInt % 10 ≤ 8)))))) := by
  obtain ⟨a_0_0, a_0_1, a_0_2, a_0_3, a_0_4, a_0_5, a_0_6, a_0_7, a_0_8, a_0_9, a_0_10, a_0_11, a_0_12, a_0_13⟩ := id g_0
  have n0 : (0 : Int32).toInt = 0 := by decide
  have n5 : (5 : Int32).toInt = 5 := by decide
  exact wp_cu13 (sz_X9_sheet (u_row := v_row) (u_col := v_column) (u_sR := v_shapeRows) (u_sC := v_shapeColumns) (A := 0) (B9 := 32) (a9 := 0) (b9 := 1) (Nat.le_refl 700) a_0_0 a_0_1 a_0_2 a_0_3 a_0_4 a_0_5 a_0_6 a_0_7 a_0_8 a_0_9 a_0_10 a_0_11 (fr_refl _ _ _) (fr_refl _ _ _) (fr_refl _ _ _) (fr_refl _ _ _) (by omega) (by omega) (by omega) (by omega) a_0_12) (fun r wv_rowsOf wv_columnsOf wv_folded wv_wronged wv_shapeRows wv_shapeColumns wv_row wv_column wv_below wv_face wv_worn wv_lastBend ⟨q_0, q_1, q_2, q_3, q_4, q_5, q_6, q_7, q_8, q_9, q_10, q_11, q_12, q_13, q_14, q_15, q_16, q_17⟩ => q_17)
theorem rs_law_tp {v_wearing_size : Int32} {v_wearing_stepCount : Int32} {v_wearing_draftCount : Int32} {v_wearing_place : Int32} {v_wearing_fault : Int32} {v_wearing_tape : List Int32} {v_wearing_steps : List Int32} {v_wearing_draft : List Int32} {v_wearing_stack : List Int32} {m_tapeMany : Int32} {m_textMany : Int32} {m_base : Int32} {m_at : Int32} {m_ends : Int32} {m_fault : Int32} {m_opened : Int32} {m_tape : List Int32} {m_text : List Int32} {m_names : List Int32} {m_bends : List Int32} {m_high : List Int32} {m_to : List Int32} {m_pileSize : List Int32} (g8_0 : gi_la v_wearing_size v_wearing_stepCount v_wearing_draftCount v_wearing_tape v_wearing_steps v_wearing_draft v_wearing_stack) (g9_0 : gm_tx m_tapeMany m_textMany m_tape m_text m_names m_bends m_high m_to m_pileSize) (hr_0 : rl_tp v_wearing_size v_wearing_tape m_tapeMany m_tape) : ∃ (r8 : Int32) (p_wearing_size : Int32) (p_wearing_stepCount : Int32) (p_wearing_draftCount : Int32) (p_wearing_place : Int32) (p_wearing_fault : Int32) (p_wearing_steps : List Int32) (p_wearing_draft : List Int32) (r9 : Int32) (q_tapeMany : Int32) (q_textMany : Int32) (q_base : Int32) (q_at : Int32) (q_ends : Int32) (q_fault : Int32) (q_opened : Int32) (q_text : List Int32), fX8_law 700 v_wearing_size v_wearing_stepCount v_wearing_draftCount v_wearing_place v_wearing_fault v_wearing_tape v_wearing_steps v_wearing_draft = some (r8, p_wearing_size, p_wearing_stepCount, p_wearing_draftCount, p_wearing_place, p_wearing_fault, p_wearing_steps, p_wearing_draft) ∧ fX9_law 700 m_tapeMany m_textMany m_base m_at m_ends m_fault m_opened m_tape m_text m_names = some (r9, q_tapeMany, q_textMany, q_base, q_at, q_ends, q_fault, q_opened, q_text) ∧ gi_la p_wearing_size p_wearing_stepCount p_wearing_draftCount v_wearing_tape p_wearing_steps p_wearing_draft v_wearing_stack ∧ gm_tx q_tapeMany q_textMany m_tape q_text m_names m_bends m_high m_to m_pileSize ∧ rl_tp p_wearing_size v_wearing_tape q_tapeMany m_tape := by
  obtain ⟨rfl, rfl⟩ := hr_0
  obtain ⟨⟨r8, p0, p1, p2, p3, p4, p5, p6⟩, e8, h8⟩ := sx8_law (v_wearing_place := v_wearing_place) (v_wearing_fault := v_wearing_fault) g8_0
  obtain ⟨⟨r9, q0, q1, q2, q3, q4, q5, q6, q7⟩, e9, h9⟩ := sx9_law (v_base := m_base) (v_at := m_at) (v_ends := m_ends) (v_fault := m_fault) (v_opened := m_opened) g9_0
  have z8 : p0.toInt = 0 := h8
  have z9 : q0.toInt = 0 := h9
  have ez : q0 = p0 := ti_eq (by omega)
  have k8 := wp_get (st8_law g8_0) e8
  have k9 := wp_get (st9_law g9_0) e9
  exact ⟨_, _, _, _, _, _, _, _, _, _, _, _, _, _, _, _, _, e8, e9, k8, k9, ez, rfl⟩
set_option maxHeartbeats 4000000 in
set_option maxRecDepth 20000 in
theorem im8 {v_hasImage : Bool} {v_now_rows : Int32} {v_now_cols : Int32} {v_now_high : Int32} {v_now_wide : Int32} {v_now_folds : Int32} {v_now_wrong : Int32} {v_now_more : Int32} {v_now_rowOf : List Int32} {v_now_colOf : List Int32} {v_now_below : List Int32} {v_now_face : List Int32} {v_now_worn : List Int32} {v_now_last : List Int32} {v_kept_rows : Int32} {v_kept_cols : Int32} {v_kept_high : Int32} {v_kept_wide : Int32} {v_kept_folds : Int32} {v_kept_wrong : Int32} {v_kept_more : Int32} {v_kept_rowOf : List Int32} {v_kept_colOf : List Int32} {v_kept_below : List Int32} {v_kept_face : List Int32} {v_kept_worn : List Int32} {v_kept_last : List Int32} {v_now_bend : List Int32} {v_now_tall : List Int32} {v_kept_bend : List Int32} {v_kept_tall : List Int32} (g_0 : gi_sh v_now_rows v_now_cols v_now_high v_now_wide v_now_rowOf v_now_colOf v_now_below v_now_face v_now_worn v_now_last v_now_bend v_now_tall) (g_1 : gi_sh v_kept_rows v_kept_cols v_kept_high v_kept_wide v_kept_rowOf v_kept_colOf v_kept_below v_kept_face v_kept_worn v_kept_last v_kept_bend v_kept_tall) : wp (fX8_image 700 v_hasImage v_now_rows v_now_cols v_now_high v_now_wide v_now_folds v_now_wrong v_now_more v_now_rowOf v_now_colOf v_now_below v_now_face v_now_worn v_now_last v_kept_rows v_kept_cols v_kept_high v_kept_wide v_kept_folds v_kept_wrong v_kept_more v_kept_rowOf v_kept_colOf v_kept_below v_kept_face v_kept_worn v_kept_last) (cu15 (fun (r : Int32) (wv_hasImage : Bool) (wv_kept_rows : Int32) (wv_kept_cols : Int32) (wv_kept_high : Int32) (wv_kept_wide : Int32) (wv_kept_folds : Int32) (wv_kept_wrong : Int32) (wv_kept_more : Int32) (wv_kept_rowOf : List Int32) (wv_kept_colOf : List Int32) (wv_kept_below : List Int32) (wv_kept_face : List Int32) (wv_kept_worn : List Int32) (wv_kept_last : List Int32) => wv_hasImage = true ∧ wv_kept_rows = v_now_rows ∧ wv_kept_cols = v_now_cols)) := by
  obtain ⟨k0, k1, k2, k3, k4, k5, k6, k7, k8, k9, k10, k11, k12, k13, k14, k15, k16, k17⟩ := id g_1
  obtain ⟨n0, n1, n2, n3, n4, n5, n6, n7, n8, n9, n10, n11, n12, n13, n14, n15, n16, n17⟩ := id g_0
  unfold fX8_image
  exact wp_bd13 (sf_X5_copy (Nat.le_refl 700) k0 k1 k2 k3 k4 k5 k6 k7 k8 k9 k10 k11 k12 k13 n0 n1 n2 n3 n4 n5 n6 n7 n8 n9 n10 n11 n12 n13 n16 n17) (fun w0 w1 w2 w3 w4 w5 w6 w7 w8 w9 w10 w11 w12 ⟨_, _, _, _, _, _, _, _, _, _, _, _, _, _, _, _, j0, j1, _⟩ => wp_so15 ⟨rfl, ti_eq j0, ti_eq j1⟩)
set_option maxHeartbeats 4000000 in
set_option maxRecDepth 20000 in
theorem ba8 {v_hasImage : Bool} {v_now_rows : Int32} {v_now_cols : Int32} {v_now_high : Int32} {v_now_wide : Int32} {v_now_folds : Int32} {v_now_wrong : Int32} {v_now_more : Int32} {v_now_rowOf : List Int32} {v_now_colOf : List Int32} {v_now_below : List Int32} {v_now_face : List Int32} {v_now_worn : List Int32} {v_now_last : List Int32} {v_kept_rows : Int32} {v_kept_cols : Int32} {v_kept_high : Int32} {v_kept_wide : Int32} {v_kept_folds : Int32} {v_kept_wrong : Int32} {v_kept_more : Int32} {v_kept_rowOf : List Int32} {v_kept_colOf : List Int32} {v_kept_below : List Int32} {v_kept_face : List Int32} {v_kept_worn : List Int32} {v_kept_last : List Int32} {v_now_bend : List Int32} {v_now_tall : List Int32} {v_kept_bend : List Int32} {v_kept_tall : List Int32} (g_0 : gi_sh v_now_rows v_now_cols v_now_high v_now_wide v_now_rowOf v_now_colOf v_now_below v_now_face v_now_worn v_now_last v_now_bend v_now_tall) (g_1 : gi_sh v_kept_rows v_kept_cols v_kept_high v_kept_wide v_kept_rowOf v_kept_colOf v_kept_below v_kept_face v_kept_worn v_kept_last v_kept_bend v_kept_tall) : wp (fX8_back 700 v_hasImage v_now_rows v_now_cols v_now_high v_now_wide v_now_folds v_now_wrong v_now_more v_now_rowOf v_now_colOf v_now_below v_now_face v_now_worn v_now_last v_kept_rows v_kept_cols v_kept_high v_kept_wide v_kept_folds v_kept_wrong v_kept_more v_kept_rowOf v_kept_colOf v_kept_below v_kept_face v_kept_worn v_kept_last) (cu14 (fun (r : Int32) (wv_now_rows : Int32) (wv_now_cols : Int32) (wv_now_high : Int32) (wv_now_wide : Int32) (wv_now_folds : Int32) (wv_now_wrong : Int32) (wv_now_more : Int32) (wv_now_rowOf : List Int32) (wv_now_colOf : List Int32) (wv_now_below : List Int32) (wv_now_face : List Int32) (wv_now_worn : List Int32) (wv_now_last : List Int32) => (v_hasImage = false → wv_now_rows = v_now_rows ∧ wv_now_cols = v_now_cols) ∧ (v_hasImage = true → wv_now_rows = v_kept_rows ∧ wv_now_cols = v_kept_cols))) := by
  obtain ⟨k0, k1, k2, k3, k4, k5, k6, k7, k8, k9, k10, k11, k12, k13, k14, k15, k16, k17⟩ := id g_1
  obtain ⟨n0, n1, n2, n3, n4, n5, n6, n7, n8, n9, n10, n11, n12, n13, n14, n15, n16, n17⟩ := id g_0
  unfold fX8_back
  refine wp_if (fun c => wp_so14 ⟨fun _ => ⟨rfl, rfl⟩, fun h => absurd (c.symm.trans h) (by decide)⟩) (fun c => ?_)
  exact wp_bd13 (sf_X5_copy (Nat.le_refl 700) n0 n1 n2 n3 n4 n5 n6 n7 n8 n9 n10 n11 n12 n13 k0 k1 k2 k3 k4 k5 k6 k7 k8 k9 k10 k11 k12 k13 k16 k17) (fun w0 w1 w2 w3 w4 w5 w6 w7 w8 w9 w10 w11 w12 ⟨_, _, _, _, _, _, _, _, _, _, _, _, _, _, _, _, j0, j1, _⟩ => wp_so14 ⟨fun h => absurd h c, fun _ => ⟨ti_eq j0, ti_eq j1⟩⟩)
set_option maxHeartbeats 4000000 in
set_option maxRecDepth 20000 in
theorem im9 {v_rowsOf : Int32} {v_columnsOf : Int32} {v_folded : Int32} {v_wronged : Int32} {v_isKept : Bool} {v_imageRows : Int32} {v_imageColumns : Int32} {v_imageFolded : Int32} {v_imageWronged : Int32} {v_shapeRows : List Int32} {v_shapeColumns : List Int32} {v_row : List Int32} {v_column : List Int32} {v_below : List Int32} {v_face : List Int32} {v_worn : List Int32} {v_lastBend : List Int32} (g_0 : gm_sh v_rowsOf v_columnsOf v_isKept v_imageRows v_imageColumns v_shapeRows v_shapeColumns v_row v_column v_below v_face v_worn v_lastBend) : wp (fX9_image 700 v_rowsOf v_columnsOf v_folded v_wronged v_isKept v_imageRows v_imageColumns v_imageFolded v_imageWronged v_shapeRows v_shapeColumns v_row v_column v_below v_face v_worn v_lastBend) (cu14 (fun (r : Int32) (wv_isKept : Bool) (wv_imageRows : Int32) (wv_imageColumns : Int32) (wv_imageFolded : Int32) (wv_imageWronged : Int32) (wv_shapeRows : List Int32) (wv_shapeColumns : List Int32) (wv_row : List Int32) (wv_column : List Int32) (wv_below : List Int32) (wv_face : List Int32) (wv_worn : List Int32) (wv_lastBend : List Int32) => wv_isKept = true ∧ wv_imageRows = v_rowsOf ∧ wv_imageColumns = v_columnsOf)) := by
  obtain ⟨⟨r, a0, a1, a2, a3, a4, a5, a6, a7, a8, a9, a10, a11, a12⟩, e, -⟩ := st9_image (v_folded := v_folded) (v_wronged := v_wronged) (v_imageFolded := v_imageFolded) (v_imageWronged := v_imageWronged) g_0
  have e1 := e
  unfold fX9_image at e1
  obtain ⟨⟨b0, b1, b2, b3, b4, b5, b6, b7⟩, eb, e2⟩ := bi_8 e1
  injection e2 with e2
  injection e2 with c0 e2
  injection e2 with c1 e2
  injection e2 with c2 e2
  injection e2 with c3 e2
  exact ⟨_, e, c1.symm, c2.symm, c3.symm⟩
set_option maxHeartbeats 4000000 in
set_option maxRecDepth 20000 in
theorem ba9 {v_rowsOf : Int32} {v_columnsOf : Int32} {v_folded : Int32} {v_wronged : Int32} {v_isKept : Bool} {v_imageRows : Int32} {v_imageColumns : Int32} {v_imageFolded : Int32} {v_imageWronged : Int32} {v_shapeRows : List Int32} {v_shapeColumns : List Int32} {v_row : List Int32} {v_column : List Int32} {v_below : List Int32} {v_face : List Int32} {v_worn : List Int32} {v_lastBend : List Int32} (g_0 : gm_sh v_rowsOf v_columnsOf v_isKept v_imageRows v_imageColumns v_shapeRows v_shapeColumns v_row v_column v_below v_face v_worn v_lastBend) : wp (fX9_back 700 v_rowsOf v_columnsOf v_folded v_wronged v_isKept v_imageRows v_imageColumns v_imageFolded v_imageWronged v_shapeRows v_shapeColumns v_row v_column v_below v_face v_worn v_lastBend) (cu13 (fun (r : Int32) (wv_rowsOf : Int32) (wv_columnsOf : Int32) (wv_folded : Int32) (wv_wronged : Int32) (wv_shapeRows : List Int32) (wv_shapeColumns : List Int32) (wv_row : List Int32) (wv_column : List Int32) (wv_below : List Int32) (wv_face : List Int32) (wv_worn : List Int32) (wv_lastBend : List Int32) => (v_isKept = false → wv_rowsOf = v_rowsOf ∧ wv_columnsOf = v_columnsOf) ∧ (v_isKept = true → wv_rowsOf = v_imageRows ∧ wv_columnsOf = v_imageColumns))) := by
  obtain ⟨⟨r, a0, a1, a2, a3, a4, a5, a6, a7, a8, a9, a10, a11⟩, e, -⟩ := st9_back (v_folded := v_folded) (v_wronged := v_wronged) (v_imageFolded := v_imageFolded) (v_imageWronged := v_imageWronged) g_0
  have e1 := e
  unfold fX9_back at e1
  by_cases c : v_isKept = false
  · rw [if_pos c] at e1
    injection e1 with e2
    injection e2 with c0 e2
    injection e2 with c1 e2
    injection e2 with c2 e2
    exact ⟨_, e, fun _ => ⟨c1.symm, c2.symm⟩, fun h => absurd (c.symm.trans h) (by decide)⟩
  · rw [if_neg c] at e1
    obtain ⟨⟨b0, b1, b2, b3, b4, b5, b6, b7⟩, eb, e2⟩ := bi_8 e1
    injection e2 with e2
    injection e2 with c0 e2
    injection e2 with c1 e2
    injection e2 with c2 e2
    exact ⟨_, e, fun h => absurd h c, fun _ => ⟨c1.symm, c2.symm⟩⟩
theorem rs_sheet_dm {x1 : Int32} {v_now_rows : Int32} {v_now_cols : Int32} {v_now_high : Int32} {v_now_wide : Int32} {v_now_folds : Int32} {v_now_wrong : Int32} {v_now_more : Int32} {v_now_rowOf : List Int32} {v_now_colOf : List Int32} {v_now_below : List Int32} {v_now_face : List Int32} {v_now_worn : List Int32} {v_now_last : List Int32} {v_now_bend : List Int32} {v_now_tall : List Int32} {v_hasImage : Bool} {v_kept_rows : Int32} {v_kept_cols : Int32} {m_rowsOf : Int32} {m_columnsOf : Int32} {m_folded : Int32} {m_wronged : Int32} {m_shapeRows : List Int32} {m_shapeColumns : List Int32} {m_row : List Int32} {m_column : List Int32} {m_below : List Int32} {m_face : List Int32} {m_worn : List Int32} {m_lastBend : List Int32} {m_isKept : Bool} {m_imageRows : Int32} {m_imageColumns : Int32} (g8_0 : gi_sh v_now_rows v_now_cols v_now_high v_now_wide v_now_rowOf v_now_colOf v_now_below v_now_face v_now_worn v_now_last v_now_bend v_now_tall) (g9_0 : gm_sh m_rowsOf m_columnsOf m_isKept m_imageRows m_imageColumns m_shapeRows m_shapeColumns m_row m_column m_below m_face m_worn m_lastBend) (hr_0 : rl_dm v_now_rows v_now_cols v_hasImage v_kept_rows v_kept_cols m_rowsOf m_columnsOf m_isKept m_imageRows m_imageColumns) : ∃ (r : Int32) (p_now_rows : Int32) (p_now_cols : Int32) (p_now_high : Int32) (p_now_wide : Int32) (p_now_folds : Int32) (p_now_wrong : Int32) (p_now_more : Int32) (p_now_rowOf : List Int32) (p_now_colOf : List Int32) (p_now_below : List Int32) (p_now_face : List Int32) (p_now_worn : List Int32) (p_now_last : List Int32) (q_rowsOf : Int32) (q_columnsOf : Int32) (q_folded : Int32) (q_wronged : Int32) (q_shapeRows : List Int32) (q_shapeColumns : List Int32) (q_row : List Int32) (q_column : List Int32) (q_below : List Int32) (q_face : List Int32) (q_worn : List Int32) (q_lastBend : List Int32), fX8_sheet 700 x1 v_now_rows v_now_cols v_now_high v_now_wide v_now_folds v_now_wrong v_now_more v_now_rowOf v_now_colOf v_now_below v_now_face v_now_worn v_now_last = some (r, p_now_rows, p_now_cols, p_now_high, p_now_wide, p_now_folds, p_now_wrong, p_now_more, p_now_rowOf, p_now_colOf, p_now_below, p_now_face, p_now_worn, p_now_last) ∧ fX9_sheet 700 x1 m_rowsOf m_columnsOf m_folded m_wronged m_shapeRows m_shapeColumns m_row m_column m_below m_face m_worn m_lastBend = some (r, q_rowsOf, q_columnsOf, q_folded, q_wronged, q_shapeRows, q_shapeColumns, q_row, q_column, q_below, q_face, q_worn, q_lastBend) ∧ gi_sh p_now_rows p_now_cols p_now_high p_now_wide p_now_rowOf p_now_colOf p_now_below p_now_face p_now_worn p_now_last v_now_bend v_now_tall ∧ gm_sh q_rowsOf q_columnsOf m_isKept m_imageRows m_imageColumns q_shapeRows q_shapeColumns q_row q_column q_below q_face q_worn q_lastBend ∧ rl_dm p_now_rows p_now_cols v_hasImage v_kept_rows v_kept_cols q_rowsOf q_columnsOf m_isKept m_imageRows m_imageColumns := by
  obtain ⟨rfl, rfl, hk, hi⟩ := hr_0
  obtain ⟨⟨r8, p0, p1, p2, p3, p4, p5, p6, p7, p8, p9, p10, p11, p12⟩, e8, h8⟩ := sx8_sheet (x1 := x1) (v_now_folds := v_now_folds) (v_now_wrong := v_now_wrong) (v_now_more := v_now_more) g8_0
  obtain ⟨⟨r9, q0, q1, q2, q3, q4, q5, q6, q7, q8, q9, q10, q11⟩, e9, h9⟩ := sx9_sheet (x1 := x1) (v_folded := m_folded) (v_wronged := m_wronged) g9_0
  simp only [cu14] at h8
  simp only [cu13] at h9
  have er : r9 = r8 := ti_eq (by omega)
  have e1 : q0 = p0 := ti_eq (by omega)
  have e2 : q1 = p1 := ti_eq (by omega)
  subst er
  have k8 := wp_get (st8_sheet g8_0) e8
  have k9 := wp_get (st9_sheet g9_0) e9
  exact ⟨_, _, _, _, _, _, _, _, _, _, _, _, _, _, _, _, _, _, _, _, _, _, _, _, _, _, e8, e9, k8, k9, e1, e2, hk, hi⟩
theorem rs_image_dm {v_hasImage : Bool} {v_now_rows : Int32} {v_now_cols : Int32} {v_now_high : Int32} {v_now_wide : Int32} {v_now_folds : Int32} {v_now_wrong : Int32} {v_now_more : Int32} {v_now_rowOf : List Int32} {v_now_colOf : List Int32} {v_now_below : List Int32} {v_now_face : List Int32} {v_now_worn : List Int32} {v_now_last : List Int32} {v_kept_rows : Int32} {v_kept_cols : Int32} {v_kept_high : Int32} {v_kept_wide : Int32} {v_kept_folds : Int32} {v_kept_wrong : Int32} {v_kept_more : Int32} {v_kept_rowOf : List Int32} {v_kept_colOf : List Int32} {v_kept_below : List Int32} {v_kept_face : List Int32} {v_kept_worn : List Int32} {v_kept_last : List Int32} {v_now_bend : List Int32} {v_now_tall : List Int32} {v_kept_bend : List Int32} {v_kept_tall : List Int32} {m_rowsOf : Int32} {m_columnsOf : Int32} {m_folded : Int32} {m_wronged : Int32} {m_isKept : Bool} {m_imageRows : Int32} {m_imageColumns : Int32} {m_imageFolded : Int32} {m_imageWronged : Int32} {m_shapeRows : List Int32} {m_shapeColumns : List Int32} {m_row : List Int32} {m_column : List Int32} {m_below : List Int32} {m_face : List Int32} {m_worn : List Int32} {m_lastBend : List Int32} (g8_0 : gi_sh v_now_rows v_now_cols v_now_high v_now_wide v_now_rowOf v_now_colOf v_now_below v_now_face v_now_worn v_now_last v_now_bend v_now_tall) (g8_1 : gi_sh v_kept_rows v_kept_cols v_kept_high v_kept_wide v_kept_rowOf v_kept_colOf v_kept_below v_kept_face v_kept_worn v_kept_last v_kept_bend v_kept_tall) (g9_0 : gm_sh m_rowsOf m_columnsOf m_isKept m_imageRows m_imageColumns m_shapeRows m_shapeColumns m_row m_column m_below m_face m_worn m_lastBend) (hr_0 : rl_dm v_now_rows v_now_cols v_hasImage v_kept_rows v_kept_cols m_rowsOf m_columnsOf m_isKept m_imageRows m_imageColumns) : ∃ (r8 : Int32) (p_hasImage : Bool) (p_kept_rows : Int32) (p_kept_cols : Int32) (p_kept_high : Int32) (p_kept_wide : Int32) (p_kept_folds : Int32) (p_kept_wrong : Int32) (p_kept_more : Int32) (p_kept_rowOf : List Int32) (p_kept_colOf : List Int32) (p_kept_below : List Int32) (p_kept_face : List Int32) (p_kept_worn : List Int32) (p_kept_last : List Int32) (r9 : Int32) (q_isKept : Bool) (q_imageRows : Int32) (q_imageColumns : Int32) (q_imageFolded : Int32) (q_imageWronged : Int32) (q_shapeRows : List Int32) (q_shapeColumns : List Int32) (q_row : List Int32) (q_column : List Int32) (q_below : List Int32) (q_face : List Int32) (q_worn : List Int32) (q_lastBend : List Int32), fX8_image 700 v_hasImage v_now_rows v_now_cols v_now_high v_now_wide v_now_folds v_now_wrong v_now_more v_now_rowOf v_now_colOf v_now_below v_now_face v_now_worn v_now_last v_kept_rows v_kept_cols v_kept_high v_kept_wide v_kept_folds v_kept_wrong v_kept_more v_kept_rowOf v_kept_colOf v_kept_below v_kept_face v_kept_worn v_kept_last = some (r8, p_hasImage, p_kept_rows, p_kept_cols, p_kept_high, p_kept_wide, p_kept_folds, p_kept_wrong, p_kept_more, p_kept_rowOf, p_kept_colOf, p_kept_below, p_kept_face, p_kept_worn, p_kept_last) ∧ fX9_image 700 m_rowsOf m_columnsOf m_folded m_wronged m_isKept m_imageRows m_imageColumns m_imageFolded m_imageWronged m_shapeRows m_shapeColumns m_row m_column m_below m_face m_worn m_lastBend = some (r9, q_isKept, q_imageRows, q_imageColumns, q_imageFolded, q_imageWronged, q_shapeRows, q_shapeColumns, q_row, q_column, q_below, q_face, q_worn, q_lastBend) ∧ gi_sh p_kept_rows p_kept_cols p_kept_high p_kept_wide p_kept_rowOf p_kept_colOf p_kept_below p_kept_face p_kept_worn p_kept_last v_kept_bend v_kept_tall ∧ gm_sh m_rowsOf m_columnsOf q_isKept q_imageRows q_imageColumns q_shapeRows q_shapeColumns q_row q_column q_below q_face q_worn q_lastBend ∧ rl_dm v_now_rows v_now_cols p_hasImage p_kept_rows p_kept_cols m_rowsOf m_columnsOf q_isKept q_imageRows q_imageColumns := by
  obtain ⟨e_r, e_c, hk, hi⟩ := hr_0
  obtain ⟨⟨r8, p0, p1, p2, p3, p4, p5, p6, p7, p8, p9, p10, p11, p12, p13⟩, e8, h8⟩ := im8 (v_hasImage := v_hasImage) (v_now_folds := v_now_folds) (v_now_wrong := v_now_wrong) (v_now_more := v_now_more) (v_kept_folds := v_kept_folds) (v_kept_wrong := v_kept_wrong) (v_kept_more := v_kept_more) g8_0 g8_1
  obtain ⟨⟨r9, q0, q1, q2, q3, q4, q5, q6, q7, q8, q9, q10, q11, q12⟩, e9, h9⟩ := im9 (v_folded := m_folded) (v_wronged := m_wronged) (v_imageFolded := m_imageFolded) (v_imageWronged := m_imageWronged) g9_0
  have j8 : p0 = true ∧ p1 = v_now_rows ∧ p2 = v_now_cols := h8
  have j9 : q0 = true ∧ q1 = m_rowsOf ∧ q2 = m_columnsOf := h9
  have k8 := wp_get (st8_image g8_0 g8_1) e8
  have k9 := wp_get (st9_image g9_0) e9
  exact ⟨_, _, _, _, _, _, _, _, _, _, _, _, _, _, _, _, _, _, _, _, _, _, _, _, _, _, _, _, _, e8, e9, k8, k9, e_r, e_c, by rw [j8.1, j9.1], fun _ => ⟨by rw [j8.2.1, j9.2.1, e_r], by rw [j8.2.2, j9.2.2, e_c]⟩⟩
theorem rs_back_dm {v_hasImage : Bool} {v_now_rows : Int32} {v_now_cols : Int32} {v_now_high : Int32} {v_now_wide : Int32} {v_now_folds : Int32} {v_now_wrong : Int32} {v_now_more : Int32} {v_now_rowOf : List Int32} {v_now_colOf : List Int32} {v_now_below : List Int32} {v_now_face : List Int32} {v_now_worn : List Int32} {v_now_last : List Int32} {v_kept_rows : Int32} {v_kept_cols : Int32} {v_kept_high : Int32} {v_kept_wide : Int32} {v_kept_folds : Int32} {v_kept_wrong : Int32} {v_kept_more : Int32} {v_kept_rowOf : List Int32} {v_kept_colOf : List Int32} {v_kept_below : List Int32} {v_kept_face : List Int32} {v_kept_worn : List Int32} {v_kept_last : List Int32} {v_now_bend : List Int32} {v_now_tall : List Int32} {v_kept_bend : List Int32} {v_kept_tall : List Int32} {m_rowsOf : Int32} {m_columnsOf : Int32} {m_folded : Int32} {m_wronged : Int32} {m_isKept : Bool} {m_imageRows : Int32} {m_imageColumns : Int32} {m_imageFolded : Int32} {m_imageWronged : Int32} {m_shapeRows : List Int32} {m_shapeColumns : List Int32} {m_row : List Int32} {m_column : List Int32} {m_below : List Int32} {m_face : List Int32} {m_worn : List Int32} {m_lastBend : List Int32} (g8_0 : gi_sh v_now_rows v_now_cols v_now_high v_now_wide v_now_rowOf v_now_colOf v_now_below v_now_face v_now_worn v_now_last v_now_bend v_now_tall) (g8_1 : gi_sh v_kept_rows v_kept_cols v_kept_high v_kept_wide v_kept_rowOf v_kept_colOf v_kept_below v_kept_face v_kept_worn v_kept_last v_kept_bend v_kept_tall) (g9_0 : gm_sh m_rowsOf m_columnsOf m_isKept m_imageRows m_imageColumns m_shapeRows m_shapeColumns m_row m_column m_below m_face m_worn m_lastBend) (hr_0 : rl_dm v_now_rows v_now_cols v_hasImage v_kept_rows v_kept_cols m_rowsOf m_columnsOf m_isKept m_imageRows m_imageColumns) : ∃ (r8 : Int32) (p_now_rows : Int32) (p_now_cols : Int32) (p_now_high : Int32) (p_now_wide : Int32) (p_now_folds : Int32) (p_now_wrong : Int32) (p_now_more : Int32) (p_now_rowOf : List Int32) (p_now_colOf : List Int32) (p_now_below : List Int32) (p_now_face : List Int32) (p_now_worn : List Int32) (p_now_last : List Int32) (r9 : Int32) (q_rowsOf : Int32) (q_columnsOf : Int32) (q_folded : Int32) (q_wronged : Int32) (q_shapeRows : List Int32) (q_shapeColumns : List Int32) (q_row : List Int32) (q_column : List Int32) (q_below : List Int32) (q_face : List Int32) (q_worn : List Int32) (q_lastBend : List Int32), fX8_back 700 v_hasImage v_now_rows v_now_cols v_now_high v_now_wide v_now_folds v_now_wrong v_now_more v_now_rowOf v_now_colOf v_now_below v_now_face v_now_worn v_now_last v_kept_rows v_kept_cols v_kept_high v_kept_wide v_kept_folds v_kept_wrong v_kept_more v_kept_rowOf v_kept_colOf v_kept_below v_kept_face v_kept_worn v_kept_last = some (r8, p_now_rows, p_now_cols, p_now_high, p_now_wide, p_now_folds, p_now_wrong, p_now_more, p_now_rowOf, p_now_colOf, p_now_below, p_now_face, p_now_worn, p_now_last) ∧ fX9_back 700 m_rowsOf m_columnsOf m_folded m_wronged m_isKept m_imageRows m_imageColumns m_imageFolded m_imageWronged m_shapeRows m_shapeColumns m_row m_column m_below m_face m_worn m_lastBend = some (r9, q_rowsOf, q_columnsOf, q_folded, q_wronged, q_shapeRows, q_shapeColumns, q_row, q_column, q_below, q_face, q_worn, q_lastBend) ∧ gi_sh p_now_rows p_now_cols p_now_high p_now_wide p_now_rowOf p_now_colOf p_now_below p_now_face p_now_worn p_now_last v_now_bend v_now_tall ∧ gm_sh q_rowsOf q_columnsOf m_isKept m_imageRows m_imageColumns q_shapeRows q_shapeColumns q_row q_column q_below q_face q_worn q_lastBend ∧ rl_dm p_now_rows p_now_cols v_hasImage v_kept_rows v_kept_cols q_rowsOf q_columnsOf m_isKept m_imageRows m_imageColumns := by
  obtain ⟨e_r, e_c, hk, hi⟩ := hr_0
  obtain ⟨⟨r8, p0, p1, p2, p3, p4, p5, p6, p7, p8, p9, p10, p11, p12⟩, e8, h8⟩ := ba8 (v_hasImage := v_hasImage) (v_now_folds := v_now_folds) (v_now_wrong := v_now_wrong) (v_now_more := v_now_more) (v_kept_folds := v_kept_folds) (v_kept_wrong := v_kept_wrong) (v_kept_more := v_kept_more) g8_0 g8_1
  obtain ⟨⟨r9, q0, q1, q2, q3, q4, q5, q6, q7, q8, q9, q10, q11⟩, e9, h9⟩ := ba9 (v_folded := m_folded) (v_wronged := m_wronged) (v_imageFolded := m_imageFolded) (v_imageWronged := m_imageWronged) g9_0
  have j8 : (v_hasImage = false → p0 = v_now_rows ∧ p1 = v_now_cols) ∧ (v_hasImage = true → p0 = v_kept_rows ∧ p1 = v_kept_cols) := h8
  have j9 : (m_isKept = false → q0 = m_rowsOf ∧ q1 = m_columnsOf) ∧ (m_isKept = true → q0 = m_imageRows ∧ q1 = m_imageColumns) := h9
  have J : q0 = p0 ∧ q1 = p1 := by
    cases hb : v_hasImage with
    | false =>
      obtain ⟨x0, x1⟩ := j8.1 hb
      obtain ⟨y0, y1⟩ := j9.1 (by rw [hk, hb])
      exact ⟨by rw [x0, y0, e_r], by rw [x1, y1, e_c]⟩
    | true =>
      obtain ⟨x0, x1⟩ := j8.2 hb
      obtain ⟨y0, y1⟩ := j9.2 (by rw [hk, hb])
      obtain ⟨z0, z1⟩ := hi hb
      exact ⟨by rw [x0, y0, z0], by rw [x1, y1, z1]⟩
  have k8 := wp_get (st8_back g8_0 g8_1) e8
  have k9 := wp_get (st9_back g9_0) e9
  exact ⟨_, _, _, _, _, _, _, _, _, _, _, _, _, _, _, _, _, _, _, _, _, _, _, _, _, _, _, e8, e9, k8, k9, J.1, J.2, hk, hi⟩
end
section
/-! What keep and row answer -/
set_option maxHeartbeats 4000000 in
set_option maxRecDepth 20000 in
theorem sz_X1_has {N : Nat} (hN : 700 ≤ N) {x1 : Int32} {v_size : Int32} (h_0 : 0 ≤ v_size.toInt) (h_1 : v_size.toInt ≤ 50) : wp (fX1_has N x1 v_size) (fun (r : Bool) => ((r = true ∧ 0 ≤ x1.toInt ∧ x1.toInt < v_size.toInt) ∨ (r = false ∧ (x1.toInt < 0 ∨ v_size.toInt ≤ x1.toInt)))) := by
  refine wp_of (uf_X1_has _ _ _) ?_
  have n_2 : (0 : Int32).toInt = 0 := by decide
  refine wp_if (fun c_1 => ?_) (fun c_1 => ?_)
  ·
    have dc_1 := i_lt c_1
    exact wp_so1 (by first | exact Or.inl ⟨rfl, by first | trivial | omega⟩ | exact Or.inr ⟨rfl, by first | trivial | omega⟩)
  ·
    have dc_1 := i_nlt c_1
    refine wp_if (fun c_3 => ?_) (fun c_3 => ?_)
    ·
      have dc_3 := i_le c_3
      exact wp_so1 (by first | exact Or.inl ⟨rfl, by first | trivial | omega⟩ | exact Or.inr ⟨rfl, by first | trivial | omega⟩)
    ·
      have dc_3 := i_nle c_3
      exact wp_so1 (by first | exact Or.inl ⟨rfl, by first | trivial | omega⟩ | exact Or.inr ⟨rfl, by first | trivial | omega⟩)
set_option maxHeartbeats 4000000 in
set_option maxRecDepth 20000 in
theorem sz_X9_isBody {N : Nat} (hN : 700 ≤ N) {x1 : Int32} {v_bodies : Int32} (h_0 : 0 ≤ v_bodies.toInt) (h_1 : v_bodies.toInt ≤ 50) : wp (fX9_isBody N x1 v_bodies) (fun (r : Bool) => ((r = true ∧ 0 ≤ x1.toInt ∧ x1.toInt < v_bodies.toInt) ∨ (r = false ∧ (x1.toInt < 0 ∨ v_bodies.toInt ≤ x1.toInt)))) := by
  refine wp_of (uf_X9_isBody _ _ _) ?_
  have n_1 := i_64 x1
  have n_2 : (0 : Int64).toInt = 0 := by decide
  have n_3 : (1 : Int32).toInt = 1 := by decide
  generalize hz_z : (v_bodies - (1 : Int32)) = z
  have e_4 := i_subE hz_z (by omega) (by omega)
  have n_5 := i_64 z
  refine wp_bd1 (sf_X9_within hN ) (fun r_1 q_6 => ?_)
  rcases q_6 with ⟨rfl, q_6⟩ | ⟨rfl, q_6⟩
  ·
    exact wp_so1 (by first | exact Or.inl ⟨rfl, by first | trivial | omega⟩ | exact Or.inr ⟨rfl, by first | trivial | omega⟩)
  ·
    exact wp_so1 (by first | exact Or.inl ⟨rfl, by first | trivial | omega⟩ | exact Or.inr ⟨rfl, by first | trivial | omega⟩)
set_option maxHeartbeats 4000000 in
set_option maxRecDepth 20000 in
theorem sz_X9_isShelf {N : Nat} (hN : 700 ≤ N) {x0 : Int32}  : wp (fX9_isShelf N x0) (fun (r : Bool) => ((r = true ∧ 0 ≤ x0.toInt ∧ x0.toInt ≤ 5) ∨ (r = false ∧ (x0.toInt < 0 ∨ 5 < x0.toInt)))) := by
  refine wp_of (uf_X9_isShelf _ _) ?_
  have n_1 := i_64 x0
  have n_2 : (0 : Int64).toInt = 0 := by decide
  have n_3 : (5 : Int64).toInt = 5 := by decide
  refine wp_bd1 (sf_X9_within hN ) (fun r_1 q_4 => ?_)
  rcases q_4 with ⟨rfl, q_4⟩ | ⟨rfl, q_4⟩
  ·
    exact wp_so1 (by first | exact Or.inl ⟨rfl, by first | trivial | omega⟩ | exact Or.inr ⟨rfl, by first | trivial | omega⟩)
  ·
    exact wp_so1 (by first | exact Or.inl ⟨rfl, by first | trivial | omega⟩ | exact Or.inr ⟨rfl, by first | trivial | omega⟩)
set_option maxHeartbeats 4000000 in
set_option maxRecDepth 20000 in
theorem sz_X8_keep {N : Nat} (hN : 700 ≤ N) {x1 : Int32} {x2 : Int32} {v_foldings_size : Int32} {v_shelves0_holds : Int32} {v_shelves0_body : Int32} {v_shelves1_holds : Int32} {v_shelves1_body : Int32} {v_shelves2_holds : Int32} {v_shelves2_body : Int32} {v_shelves3_holds : Int32} {v_shelves3_body : Int32} {v_shelves4_holds : Int32} {v_shelves4_body : Int32} {v_shelves5_holds : Int32} {v_shelves5_body : Int32} (h_0 : 0 ≤ v_foldings_size.toInt) (h_1 : v_foldings_size.toInt ≤ 50) : wp (fX8_keep N x1 x2 v_foldings_size v_shelves0_holds v_shelves0_body v_shelves1_holds v_shelves1_body v_shelves2_holds v_shelves2_body v_shelves3_holds v_shelves3_body v_shelves4_holds v_shelves4_body v_shelves5_holds v_shelves5_body) (cu13 (fun (r : Int32) (wv_shelves0_holds : Int32) (wv_shelves0_body : Int32) (wv_shelves1_holds : Int32) (wv_shelves1_body : Int32) (wv_shelves2_holds : Int32) (wv_shelves2_body : Int32) (wv_shelves3_holds : Int32) (wv_shelves3_body : Int32) (wv_shelves4_holds : Int32) (wv_shelves4_body : Int32) (wv_shelves5_holds : Int32) (wv_shelves5_body : Int32) => ((((0 ≤ x1.toInt ∧ x1.toInt ≤ 5 ∧ (x2.toInt = -1 ∨ (0 ≤ x2.toInt ∧ x2.toInt < v_foldings_size.toInt))) ∧ r.toInt = 1) ∨ (¬ (0 ≤ x1.toInt ∧ x1.toInt ≤ 5 ∧ (x2.toInt = -1 ∨ (0 ≤ x2.toInt ∧ x2.toInt < v_foldings_size.toInt))) ∧ r.toInt = -1))))) := by
  have hb1 : -2147483648 ≤ x1.toInt := Int32.le_toInt x1
  have hb2 : -2147483648 ≤ x2.toInt := Int32.le_toInt x2
  refine wp_of (uf_X8_keep _ _ _ _ _ _ _ _ _ _ _ _ _ _ _ _) ?_
  refine wp_in1 ?_
  refine wp_of (uf_X8_isShelf _ _) ?_
  have n_2 : (0 : Int32).toInt = 0 := by decide
  refine wp_if (fun c_1 => ?_) (fun c_1 => ?_)
  ·
    have dc_1 := i_lt c_1
    refine wp_so1 ?_
    show wp _ _
    refine wp_ifp (by decide) ?_
    have n_3 : (-1 : Int32).toInt = -1 := by decide
    exact wp_so13 (by omega)
  ·
    have dc_1 := i_nlt c_1
    have n_5 : (6 : Int32).toInt = 6 := by decide
    refine wp_if (fun c_4 => ?_) (fun c_4 => ?_)
    ·
      have dc_4 := i_le c_4
      refine wp_so1 ?_
      show wp _ _
      refine wp_ifp (by decide) ?_
      have n_6 : (-1 : Int32).toInt = -1 := by decide
      exact wp_so13 (by omega)
    ·
      have dc_4 := i_nle c_4
      refine wp_so1 ?_
      show wp _ _
      refine wp_ifn (by decide) ?_
      have n_8 : (-1 : Int32).toInt = -1 := by decide
      refine wp_if (fun c_7 => ?_) (fun c_7 => ?_)
      ·
        have dc_7 := i_eq c_7
        refine wp_of (uf_X8_keep_25 _ _ _ _ _ _ _ _ _ _ _ _ _ _ _ _) ?_
        refine wp_ifp c_7 ?_
        refine wp_if (fun c_9 => ?_) (fun c_9 => ?_)
        ·
          have dc_9 := i_eq c_9
          have n_10 : (1 : Int32).toInt = 1 := by decide
          exact wp_so13 (by omega)
        ·
          have dc_9 := i_ne c_9
          have n_12 : (1 : Int32).toInt = 1 := by decide
          refine wp_if (fun c_11 => ?_) (fun c_11 => ?_)
          ·
            have dc_11 := i_eq c_11
            exact wp_so13 (by omega)
          ·
            have dc_11 := i_ne c_11
            have n_14 : (2 : Int32).toInt = 2 := by decide
            refine wp_if (fun c_13 => ?_) (fun c_13 => ?_)
            ·
              have dc_13 := i_eq c_13
              exact wp_so13 (by omega)
            ·
              have dc_13 := i_ne c_13
              have n_16 : (3 : Int32).toInt = 3 := by decide
              refine wp_if (fun c_15 => ?_) (fun c_15 => ?_)
              ·
                have dc_15 := i_eq c_15
                exact wp_so13 (by omega)
              ·
                have dc_15 := i_ne c_15
                have n_18 : (4 : Int32).toInt = 4 := by decide
                refine wp_if (fun c_17 => ?_) (fun c_17 => ?_)
                ·
                  have dc_17 := i_eq c_17
                  exact wp_so13 (by omega)
                ·
                  have dc_17 := i_ne c_17
                  have n_20 : (5 : Int32).toInt = 5 := by decide
                  refine wp_if (fun c_19 => ?_) (fun c_19 => ?_)
                  ·
                    have dc_19 := i_eq c_19
                    exact wp_so13 (by omega)
                  ·
                    have dc_19 := i_ne c_19
                    exact (show False by omega).elim
      ·
        have dc_7 := i_ne c_7
        refine wp_bd1 (sz_X1_has hN h_0 h_1) (fun r_5 q_21 => ?_)
        rcases q_21 with ⟨rfl, q_21⟩ | ⟨rfl, q_21⟩
        ·
          refine wp_ifn (by decide) ?_
          refine wp_of (uf_X8_keep_25 _ _ _ _ _ _ _ _ _ _ _ _ _ _ _ _) ?_
          refine wp_ifn c_7 ?_
          refine wp_if (fun c_22 => ?_) (fun c_22 => ?_)
          ·
            have dc_22 := i_eq c_22
            refine wp_bd2 (sf_X6_holdFolding hN ) (fun w_10 w_11 _ => ?_)
            have n_23 : (1 : Int32).toInt = 1 := by decide
            exact wp_so13 (by omega)
          ·
            have dc_22 := i_ne c_22
            have n_25 : (1 : Int32).toInt = 1 := by decide
            refine wp_if (fun c_24 => ?_) (fun c_24 => ?_)
            ·
              have dc_24 := i_eq c_24
              refine wp_bd2 (sf_X6_holdFolding hN ) (fun w_14 w_15 _ => ?_)
              exact wp_so13 (by omega)
            ·
              have dc_24 := i_ne c_24
              have n_27 : (2 : Int32).toInt = 2 := by decide
              refine wp_if (fun c_26 => ?_) (fun c_26 => ?_)
              ·
                have dc_26 := i_eq c_26
                refine wp_bd2 (sf_X6_holdFolding hN ) (fun w_18 w_19 _ => ?_)
                exact wp_so13 (by omega)
              ·
                have dc_26 := i_ne c_26
                have n_29 : (3 : Int32).toInt = 3 := by decide
                refine wp_if (fun c_28 => ?_) (fun c_28 => ?_)
                ·
                  have dc_28 := i_eq c_28
                  refine wp_bd2 (sf_X6_holdFolding hN ) (fun w_22 w_23 _ => ?_)
                  exact wp_so13 (by omega)
                ·
                  have dc_28 := i_ne c_28
                  have n_31 : (4 : Int32).toInt = 4 := by decide
                  refine wp_if (fun c_30 => ?_) (fun c_30 => ?_)
                  ·
                    have dc_30 := i_eq c_30
                    refine wp_bd2 (sf_X6_holdFolding hN ) (fun w_26 w_27 _ => ?_)
                    exact wp_so13 (by omega)
                  ·
                    have dc_30 := i_ne c_30
                    have n_33 : (5 : Int32).toInt = 5 := by decide
                    refine wp_if (fun c_32 => ?_) (fun c_32 => ?_)
                    ·
                      have dc_32 := i_eq c_32
                      refine wp_bd2 (sf_X6_holdFolding hN ) (fun w_30 w_31 _ => ?_)
                      exact wp_so13 (by omega)
                    ·
                      have dc_32 := i_ne c_32
                      exact (show False by omega).elim
        ·
          refine wp_ifp (by decide) ?_
          exact wp_so13 (by omega)
set_option maxHeartbeats 4000000 in
set_option maxRecDepth 20000 in
theorem sz_X9_keep {N : Nat} (hN : 700 ≤ N) {x1 : Int32} {x2 : Int32} {v_bodies : Int32} {v_shelf : List Int32} {v_many : List Int32} (h_0 : 0 ≤ v_bodies.toInt) (h_1 : v_bodies.toInt ≤ 50) (h_2 : v_shelf.length = 6) (h_3 : v_many.length = 6) (h_4 : zn v_many 0 6 0 61) : wp (fX9_keep N x1 x2 v_bodies v_shelf v_many) (cu3 (fun (r : Int32) (wv_shelf : List Int32) (wv_many : List Int32) => wv_shelf.length = 6 ∧ wv_many.length = 6 ∧ zn wv_many 0 6 0 61 ∧ ((((0 ≤ x1.toInt ∧ x1.toInt ≤ 5 ∧ (x2.toInt = -1 ∨ (0 ≤ x2.toInt ∧ x2.toInt < v_bodies.toInt))) ∧ r.toInt = 1) ∨ (¬ (0 ≤ x1.toInt ∧ x1.toInt ≤ 5 ∧ (x2.toInt = -1 ∨ (0 ≤ x2.toInt ∧ x2.toInt < v_bodies.toInt))) ∧ r.toInt = -1))))) := by
  have hb1 : -2147483648 ≤ x1.toInt := Int32.le_toInt x1
  have hb2 : -2147483648 ≤ x2.toInt := Int32.le_toInt x2
  refine wp_of (uf_X9_keep _ _ _ _ _ _) ?_
  refine wp_bd1 (sz_X9_isShelf hN ) (fun r_1 q_1 => ?_)
  rcases q_1 with ⟨rfl, q_1⟩ | ⟨rfl, q_1⟩
  ·
    refine wp_ifn (by decide) ?_
    have n_3 : (-1 : Int32).toInt = -1 := by decide
    refine wp_if (fun c_2 => ?_) (fun c_2 => ?_)
    ·
      have dc_2 := i_eq c_2
      refine wp_of (uf_X9_keep_22 _ _ _ _ _ _) ?_
      refine wp_ck (i_inb (by omega) (by omega)) ?_
      refine wp_nm (fun l_9 h_l_9 => ?_)
      have nl_l_9 : l_9.length = 6 := by rw [h_l_9, is_len]; assumption
      refine wp_ck (i_inb (by omega) (by omega)) ?_
      have n_4 : (0 : Int32).toInt = 0 := by decide
      refine wp_nm (fun l_11 h_l_11 => ?_)
      have nl_l_11 : l_11.length = 6 := by rw [h_l_11, is_len]; assumption
      have n_5 : (1 : Int32).toInt = 1 := by decide
      exact wp_so3 ⟨nl_l_9, nl_l_11, (by first | assumption | exact zn_nil (by omega) | (rw [h_l_11]; first | exact zn_out h_4 (by omega) (by omega) | exact zn_in h_4 (by omega) (by omega) (by omega) | exact zn_ext h_4 (by omega) (by omega) (by omega) (by omega) (by omega) | exact zn_out (zn_sub h_4 (by omega) (by omega) (by omega) (by omega)) (by omega) (by omega)) | (exfalso; omega)), (by omega)⟩
    ·
      have dc_2 := i_ne c_2
      refine wp_bd1 (sz_X9_isBody hN h_0 h_1) (fun r_5 q_6 => ?_)
      rcases q_6 with ⟨rfl, q_6⟩ | ⟨rfl, q_6⟩
      ·
        refine wp_ifn (by decide) ?_
        refine wp_of (uf_X9_keep_22 _ _ _ _ _ _) ?_
        refine wp_ck (i_inb (by omega) (by omega)) ?_
        refine wp_nm (fun l_9__7 h_l_9__7 => ?_)
        have nl_l_9__7 : l_9__7.length = 6 := by rw [h_l_9__7, is_len]; assumption
        refine wp_ck (i_inb (by omega) (by omega)) ?_
        have n_9 : (0 : Int32).toInt = 0 := by decide
        refine wp_nm (fun l_11__8 h_l_11__8 => ?_)
        have nl_l_11__8 : l_11__8.length = 6 := by rw [h_l_11__8, is_len]; assumption
        have n_10 : (1 : Int32).toInt = 1 := by decide
        exact wp_so3 ⟨nl_l_9__7, nl_l_11__8, (by first | assumption | exact zn_nil (by omega) | (rw [h_l_11__8]; first | exact zn_out h_4 (by omega) (by omega) | exact zn_in h_4 (by omega) (by omega) (by omega) | exact zn_ext h_4 (by omega) (by omega) (by omega) (by omega) (by omega) | exact zn_out (zn_sub h_4 (by omega) (by omega) (by omega) (by omega)) (by omega) (by omega)) | (exfalso; omega)), (by omega)⟩
      ·
        refine wp_ifp (by decide) ?_
        exact wp_so3 ⟨h_2, h_3, h_4, (by omega)⟩
  ·
    refine wp_ifp (by decide) ?_
    have n_11 : (-1 : Int32).toInt = -1 := by decide
    exact wp_so3 ⟨h_2, h_3, h_4, (by omega)⟩
set_option maxHeartbeats 4000000 in
set_option maxRecDepth 20000 in
theorem sz_X8_row {N : Nat} (hN : 700 ≤ N) {x1 : Int32} {x2 : Int32} {x3 : Int32} {v_shelves0_holds : Int32} {v_shelves0_sort : Int32} {v_shelves0_size : Int32} {v_shelves0_items : List Int64} {v_shelves1_holds : Int32} {v_shelves1_sort : Int32} {v_shelves1_size : Int32} {v_shelves1_items : List Int64} {v_shelves2_holds : Int32} {v_shelves2_sort : Int32} {v_shelves2_size : Int32} {v_shelves2_items : List Int64} {v_shelves3_holds : Int32} {v_shelves3_sort : Int32} {v_shelves3_size : Int32} {v_shelves3_items : List Int64} {v_shelves4_holds : Int32} {v_shelves4_sort : Int32} {v_shelves4_size : Int32} {v_shelves4_items : List Int64} {v_shelves5_holds : Int32} {v_shelves5_sort : Int32} {v_shelves5_size : Int32} {v_shelves5_items : List Int64} (h_0 : 0 ≤ v_shelves0_size.toInt) (h_1 : v_shelves0_size.toInt ≤ 60) (h_2 : v_shelves0_items.length = 60) (h_3 : 0 ≤ v_shelves1_size.toInt) (h_4 : v_shelves1_size.toInt ≤ 60) (h_5 : v_shelves1_items.length = 60) (h_6 : 0 ≤ v_shelves2_size.toInt) (h_7 : v_shelves2_size.toInt ≤ 60) (h_8 : v_shelves2_items.length = 60) (h_9 : 0 ≤ v_shelves3_size.toInt) (h_10 : v_shelves3_size.toInt ≤ 60) (h_11 : v_shelves3_items.length = 60) (h_12 : 0 ≤ v_shelves4_size.toInt) (h_13 : v_shelves4_size.toInt ≤ 60) (h_14 : v_shelves4_items.length = 60) (h_15 : 0 ≤ v_shelves5_size.toInt) (h_16 : v_shelves5_size.toInt ≤ 60) (h_17 : v_shelves5_items.length = 60) : wp (fX8_row N x1 x2 x3 v_shelves0_holds v_shelves0_sort v_shelves0_size v_shelves0_items v_shelves1_holds v_shelves1_sort v_shelves1_size v_shelves1_items v_shelves2_holds v_shelves2_sort v_shelves2_size v_shelves2_items v_shelves3_holds v_shelves3_sort v_shelves3_size v_shelves3_items v_shelves4_holds v_shelves4_sort v_shelves4_size v_shelves4_items v_shelves5_holds v_shelves5_sort v_shelves5_size v_shelves5_items) (cu25 (fun (r : Int32) (wv_shelves0_holds : Int32) (wv_shelves0_sort : Int32) (wv_shelves0_size : Int32) (wv_shelves0_items : List Int64) (wv_shelves1_holds : Int32) (wv_shelves1_sort : Int32) (wv_shelves1_size : Int32) (wv_shelves1_items : List Int64) (wv_shelves2_holds : Int32) (wv_shelves2_sort : Int32) (wv_shelves2_size : Int32) (wv_shelves2_items : List Int64) (wv_shelves3_holds : Int32) (wv_shelves3_sort : Int32) (wv_shelves3_size : Int32) (wv_shelves3_items : List Int64) (wv_shelves4_holds : Int32) (wv_shelves4_sort : Int32) (wv_shelves4_size : Int32) (wv_shelves4_items : List Int64) (wv_shelves5_holds : Int32) (wv_shelves5_sort : Int32) (wv_shelves5_size : Int32) (wv_shelves5_items : List Int64) => 0 ≤ wv_shelves0_size.toInt ∧ wv_shelves0_size.toInt ≤ 60 ∧ wv_shelves0_items.length = 60 ∧ 0 ≤ wv_shelves1_size.toInt ∧ wv_shelves1_size.toInt ≤ 60 ∧ wv_shelves1_items.length = 60 ∧ 0 ≤ wv_shelves2_size.toInt ∧ wv_shelves2_size.toInt ≤ 60 ∧ wv_shelves2_items.length = 60 ∧ 0 ≤ wv_shelves3_size.toInt ∧ wv_shelves3_size.toInt ≤ 60 ∧ wv_shelves3_items.length = 60 ∧ 0 ≤ wv_shelves4_size.toInt ∧ wv_shelves4_size.toInt ≤ 60 ∧ wv_shelves4_items.length = 60 ∧ 0 ≤ wv_shelves5_size.toInt ∧ wv_shelves5_size.toInt ≤ 60 ∧ wv_shelves5_items.length = 60 ∧ ((((0 ≤ x1.toInt ∧ x1.toInt ≤ 5 ∧ 0 ≤ x2.toInt ∧ x2.toInt ≤ 4 ∧ x3.toInt ≤ 60) ∧ 0 ≤ x3.toInt ∧ r.toInt = 1) ∨ ((0 ≤ x1.toInt ∧ x1.toInt ≤ 5 ∧ 0 ≤ x2.toInt ∧ x2.toInt ≤ 4 ∧ x3.toInt ≤ 60) ∧ x3.toInt < 0 ∧ r.toInt = -14) ∨ (¬ (0 ≤ x1.toInt ∧ x1.toInt ≤ 5 ∧ 0 ≤ x2.toInt ∧ x2.toInt ≤ 4 ∧ x3.toInt ≤ 60) ∧ r.toInt = -1))))) := by
  have hb1 : -2147483648 ≤ x1.toInt := Int32.le_toInt x1
  have hb2 : -2147483648 ≤ x2.toInt := Int32.le_toInt x2
  have hb3 : -2147483648 ≤ x3.toInt := Int32.le_toInt x3
  refine wp_of (uf_X8_row _ _ _ _ _ _ _ _ _ _ _ _ _ _ _ _ _ _ _ _ _ _ _ _ _ _ _ _) ?_
  refine wp_in1 ?_
  refine wp_of (uf_X8_isShelf _ _) ?_
  have n_2 : (0 : Int32).toInt = 0 := by decide
  refine wp_if (fun c_1 => ?_) (fun c_1 => ?_)
  ·
    have dc_1 := i_lt c_1
    refine wp_so1 ?_
    show wp _ _
    refine wp_ifp (by decide) ?_
    have n_3 : (-1 : Int32).toInt = -1 := by decide
    exact wp_so25 ⟨h_0, h_1, h_2, h_3, h_4, h_5, h_6, h_7, h_8, h_9, h_10, h_11, h_12, h_13, h_14, h_15, h_16, h_17, (by omega)⟩
  ·
    have dc_1 := i_nlt c_1
    have n_5 : (6 : Int32).toInt = 6 := by decide
    refine wp_if (fun c_4 => ?_) (fun c_4 => ?_)
    ·
      have dc_4 := i_le c_4
      refine wp_so1 ?_
      show wp _ _
      refine wp_ifp (by decide) ?_
      have n_6 : (-1 : Int32).toInt = -1 := by decide
      exact wp_so25 ⟨h_0, h_1, h_2, h_3, h_4, h_5, h_6, h_7, h_8, h_9, h_10, h_11, h_12, h_13, h_14, h_15, h_16, h_17, (by omega)⟩
    ·
      have dc_4 := i_nle c_4
      refine wp_so1 ?_
      show wp _ _
      refine wp_ifn (by decide) ?_
      refine wp_if (fun c_7 => ?_) (fun c_7 => ?_)
      ·
        have dc_7 := i_lt c_7
        have n_8 : (-1 : Int32).toInt = -1 := by decide
        exact wp_so25 ⟨h_0, h_1, h_2, h_3, h_4, h_5, h_6, h_7, h_8, h_9, h_10, h_11, h_12, h_13, h_14, h_15, h_16, h_17, (by omega)⟩
      ·
        have dc_7 := i_nlt c_7
        have n_10 : (5 : Int32).toInt = 5 := by decide
        refine wp_if (fun c_9 => ?_) (fun c_9 => ?_)
        ·
          have dc_9 := i_le c_9
          have n_11 : (-1 : Int32).toInt = -1 := by decide
          exact wp_so25 ⟨h_0, h_1, h_2, h_3, h_4, h_5, h_6, h_7, h_8, h_9, h_10, h_11, h_12, h_13, h_14, h_15, h_16, h_17, (by omega)⟩
        ·
          have dc_9 := i_nle c_9
          have n_13 : (60 : Int32).toInt = 60 := by decide
          refine wp_if (fun c_12 => ?_) (fun c_12 => ?_)
          ·
            have dc_12 := i_le c_12
            refine wp_if (fun c_14 => ?_) (fun c_14 => ?_)
            ·
              have dc_14 := i_le c_14
              refine wp_if (fun c_15 => ?_) (fun c_15 => ?_)
              ·
                have dc_15 := i_eq c_15
                refine wp_bd4 (sf_X6_holdRow hN h_0 h_1 h_2 (by omega) (by omega)) (fun w_9 w_10 w_11 w_12 ⟨q_16, q_17, q_18⟩ => ?_)
                have n_19 : (1 : Int32).toInt = 1 := by decide
                exact wp_so25 ⟨q_16, q_17, q_18, h_3, h_4, h_5, h_6, h_7, h_8, h_9, h_10, h_11, h_12, h_13, h_14, h_15, h_16, h_17, (by omega)⟩
              ·
                have dc_15 := i_ne c_15
                have n_21 : (1 : Int32).toInt = 1 := by decide
                refine wp_if (fun c_20 => ?_) (fun c_20 => ?_)
                ·
                  have dc_20 := i_eq c_20
                  refine wp_bd4 (sf_X6_holdRow hN h_3 h_4 h_5 (by omega) (by omega)) (fun w_15 w_16 w_17 w_18 ⟨q_22, q_23, q_24⟩ => ?_)
                  exact wp_so25 ⟨h_0, h_1, h_2, q_22, q_23, q_24, h_6, h_7, h_8, h_9, h_10, h_11, h_12, h_13, h_14, h_15, h_16, h_17, (by omega)⟩
                ·
                  have dc_20 := i_ne c_20
                  have n_26 : (2 : Int32).toInt = 2 := by decide
                  refine wp_if (fun c_25 => ?_) (fun c_25 => ?_)
                  ·
                    have dc_25 := i_eq c_25
                    refine wp_bd4 (sf_X6_holdRow hN h_6 h_7 h_8 (by omega) (by omega)) (fun w_21 w_22 w_23 w_24 ⟨q_27, q_28, q_29⟩ => ?_)
                    exact wp_so25 ⟨h_0, h_1, h_2, h_3, h_4, h_5, q_27, q_28, q_29, h_9, h_10, h_11, h_12, h_13, h_14, h_15, h_16, h_17, (by omega)⟩
                  ·
                    have dc_25 := i_ne c_25
                    have n_31 : (3 : Int32).toInt = 3 := by decide
                    refine wp_if (fun c_30 => ?_) (fun c_30 => ?_)
                    ·
                      have dc_30 := i_eq c_30
                      refine wp_bd4 (sf_X6_holdRow hN h_9 h_10 h_11 (by omega) (by omega)) (fun w_27 w_28 w_29 w_30 ⟨q_32, q_33, q_34⟩ => ?_)
                      exact wp_so25 ⟨h_0, h_1, h_2, h_3, h_4, h_5, h_6, h_7, h_8, q_32, q_33, q_34, h_12, h_13, h_14, h_15, h_16, h_17, (by omega)⟩
                    ·
                      have dc_30 := i_ne c_30
                      have n_36 : (4 : Int32).toInt = 4 := by decide
                      refine wp_if (fun c_35 => ?_) (fun c_35 => ?_)
                      ·
                        have dc_35 := i_eq c_35
                        refine wp_bd4 (sf_X6_holdRow hN h_12 h_13 h_14 (by omega) (by omega)) (fun w_33 w_34 w_35 w_36 ⟨q_37, q_38, q_39⟩ => ?_)
                        exact wp_so25 ⟨h_0, h_1, h_2, h_3, h_4, h_5, h_6, h_7, h_8, h_9, h_10, h_11, q_37, q_38, q_39, h_15, h_16, h_17, (by omega)⟩
                      ·
                        have dc_35 := i_ne c_35
                        refine wp_if (fun c_40 => ?_) (fun c_40 => ?_)
                        ·
                          have dc_40 := i_eq c_40
                          refine wp_bd4 (sf_X6_holdRow hN h_15 h_16 h_17 (by omega) (by omega)) (fun w_39 w_40 w_41 w_42 ⟨q_41, q_42, q_43⟩ => ?_)
                          exact wp_so25 ⟨h_0, h_1, h_2, h_3, h_4, h_5, h_6, h_7, h_8, h_9, h_10, h_11, h_12, h_13, h_14, q_41, q_42, q_43, (by omega)⟩
                        ·
                          have dc_40 := i_ne c_40
                          exact (show False by omega).elim
            ·
              have dc_14 := i_nle c_14
              have n_44 : (-14 : Int32).toInt = -14 := by decide
              exact wp_so25 ⟨h_0, h_1, h_2, h_3, h_4, h_5, h_6, h_7, h_8, h_9, h_10, h_11, h_12, h_13, h_14, h_15, h_16, h_17, (by omega)⟩
          ·
            have dc_12 := i_nle c_12
            have n_45 : (-1 : Int32).toInt = -1 := by decide
            exact wp_so25 ⟨h_0, h_1, h_2, h_3, h_4, h_5, h_6, h_7, h_8, h_9, h_10, h_11, h_12, h_13, h_14, h_15, h_16, h_17, (by omega)⟩
set_option maxHeartbeats 4000000 in
set_option maxRecDepth 20000 in
theorem sz_X9_row_57 {N : Nat} (hN : 700 ≤ N) {x2 : Int32} {x3 : Int32} : ∀ (n : Nat) (x1 : Int32) (x4 : Int32) (v_shelf : List Int32) (v_many : List Int32) (v_items : List Int64), v_shelf.length = 6 → v_many.length = 6 → v_items.length = 360 → zn v_many 0 6 0 61 → 0 ≤ x1.toInt → x1.toInt ≤ 5 → 60 * x1.toInt ≤ x4.toInt → x4.toInt ≤ 60 * x1.toInt + 60 → 0 ≤ x2.toInt → x2.toInt ≤ 4 → 0 ≤ x3.toInt → x3.toInt ≤ 60 → (60 * x1.toInt + 60 - x4.toInt).toNat < n → wp (fX9_row_57 N n x1 x4 v_shelf v_many v_items) (cu4 (fun (r : Int32) (wv_shelf : List Int32) (wv_many : List Int32) (wv_items : List Int64) => wv_shelf.length = 6 ∧ wv_many.length = 6 ∧ wv_items.length = 360 ∧ zn wv_many 0 6 0 61 ∧ ((((0 ≤ x1.toInt ∧ x1.toInt ≤ 5 ∧ 0 ≤ x2.toInt ∧ x2.toInt ≤ 4 ∧ x3.toInt ≤ 60) ∧ 0 ≤ x3.toInt ∧ r.toInt = 1) ∨ ((0 ≤ x1.toInt ∧ x1.toInt ≤ 5 ∧ 0 ≤ x2.toInt ∧ x2.toInt ≤ 4 ∧ x3.toInt ≤ 60) ∧ x3.toInt < 0 ∧ r.toInt = -14) ∨ (¬ (0 ≤ x1.toInt ∧ x1.toInt ≤ 5 ∧ 0 ≤ x2.toInt ∧ x2.toInt ≤ 4 ∧ x3.toInt ≤ 60) ∧ r.toInt = -1))))) := by
  intro n
  induction n with
  | zero =>
    intro x1 x4 v_shelf v_many v_items h_0 h_1 h_2 h_3 h_4 h_5 h_6 h_7 h_8 h_9 h_10 h_11 hm
    exact absurd hm (by omega)
  | succ n ih =>
    intro x1 x4 v_shelf v_many v_items h_0 h_1 h_2 h_3 h_4 h_5 h_6 h_7 h_8 h_9 h_10 h_11 hm
    refine wp_of (uf_X9_row_57 _ _ _ _ _ _ _) ?_
    have n_2 : (60 : Int32).toInt = 60 := by decide
    generalize hz_z : ((60 : Int32) * x1) = z
    have e_3 := i_mulLE (c := 60) (by decide) hz_z (by omega) (by omega)
    generalize hz_z__4 : (z + (60 : Int32)) = z__4
    have e_5 := i_addE hz_z__4 (by omega) (by omega)
    refine wp_if (fun c_1 => ?_) (fun c_1 => ?_)
    ·
      have dc_1 := i_le c_1
      have n_6 : (1 : Int32).toInt = 1 := by decide
      exact wp_so4 ⟨h_0, h_1, h_2, h_3, (by omega)⟩
    ·
      have dc_1 := i_nle c_1
      refine wp_ck (i_inb (by omega) (by omega)) ?_
      refine wp_nm (fun l_17 h_l_17 => ?_)
      have nl_l_17 : l_17.length = 360 := by rw [h_l_17, ls_len]; assumption
      have n_7 : (1 : Int32).toInt = 1 := by decide
      refine wp_nm (fun y_18 h_y_18 => ?_)
      first | have e_8 := i_addE h_y_18.symm (by omega) (by omega) | obtain ⟨k_8, e_8, e1_8, e2_8⟩ := i_addY h_y_18.symm
      exact ih _ _ _ _ _ h_0 h_1 nl_l_17 h_3 h_4 h_5 (by omega) (by omega) h_8 h_9 h_10 h_11 (by omega)
set_option maxHeartbeats 4000000 in
set_option maxRecDepth 20000 in
theorem sz_X9_row {N : Nat} (hN : 700 ≤ N) {x1 : Int32} {x2 : Int32} {x3 : Int32} {v_shelf : List Int32} {v_many : List Int32} {v_items : List Int64} (h_0 : v_shelf.length = 6) (h_1 : v_many.length = 6) (h_2 : v_items.length = 360) (h_3 : zn v_many 0 6 0 61) : wp (fX9_row N x1 x2 x3 v_shelf v_many v_items) (cu4 (fun (r : Int32) (wv_shelf : List Int32) (wv_many : List Int32) (wv_items : List Int64) => wv_shelf.length = 6 ∧ wv_many.length = 6 ∧ wv_items.length = 360 ∧ zn wv_many 0 6 0 61 ∧ ((((0 ≤ x1.toInt ∧ x1.toInt ≤ 5 ∧ 0 ≤ x2.toInt ∧ x2.toInt ≤ 4 ∧ x3.toInt ≤ 60) ∧ 0 ≤ x3.toInt ∧ r.toInt = 1) ∨ ((0 ≤ x1.toInt ∧ x1.toInt ≤ 5 ∧ 0 ≤ x2.toInt ∧ x2.toInt ≤ 4 ∧ x3.toInt ≤ 60) ∧ x3.toInt < 0 ∧ r.toInt = -14) ∨ (¬ (0 ≤ x1.toInt ∧ x1.toInt ≤ 5 ∧ 0 ≤ x2.toInt ∧ x2.toInt ≤ 4 ∧ x3.toInt ≤ 60) ∧ r.toInt = -1))))) := by
  have hb1 : -2147483648 ≤ x1.toInt := Int32.le_toInt x1
  have hb2 : -2147483648 ≤ x2.toInt := Int32.le_toInt x2
  have hb3 : -2147483648 ≤ x3.toInt := Int32.le_toInt x3
  refine wp_of (uf_X9_row _ _ _ _ _ _ _) ?_
  refine wp_bd1 (sz_X9_isShelf hN ) (fun r_1 q_1 => ?_)
  rcases q_1 with ⟨rfl, q_1⟩ | ⟨rfl, q_1⟩
  ·
    refine wp_ifn (by decide) ?_
    have n_2 := i_64 x2
    have n_3 : (0 : Int64).toInt = 0 := by decide
    have n_4 : (4 : Int64).toInt = 4 := by decide
    refine wp_bd1 (sf_X9_within hN ) (fun r_4 q_5 => ?_)
    rcases q_5 with ⟨rfl, q_5⟩ | ⟨rfl, q_5⟩
    ·
      refine wp_ifn (by decide) ?_
      have n_7 : (60 : Int32).toInt = 60 := by decide
      refine wp_if (fun c_6 => ?_) (fun c_6 => ?_)
      ·
        have dc_6 := i_le c_6
        have n_9 : (0 : Int32).toInt = 0 := by decide
        refine wp_if (fun c_8 => ?_) (fun c_8 => ?_)
        ·
          have dc_8 := i_le c_8
          refine wp_nm (fun y_9 _ => ?_)
          refine wp_ck (i_inb (by omega) (by omega)) ?_
          refine wp_nm (fun l_11 h_l_11 => ?_)
          have nl_l_11 : l_11.length = 6 := by rw [h_l_11, is_len]; assumption
          refine wp_ck (i_inb (by omega) (by omega)) ?_
          refine wp_nm (fun l_13 h_l_13 => ?_)
          have nl_l_13 : l_13.length = 6 := by rw [h_l_13, is_len]; assumption
          refine wp_nm (fun y_14 h_y_14 => ?_)
          first | have e_10 := i_mulLE (c := 60) (by decide) h_y_14.symm (by omega) (by omega) | obtain ⟨k_10, e_10, e1_10, e2_10⟩ := i_mulL (c := 60) (by decide) h_y_14.symm
          exact sz_X9_row_57 (x2 := x2) (x3 := x3) hN _ _ _ _ _ _ nl_l_11 nl_l_13 h_2 (by first | assumption | exact zn_nil (by omega) | (rw [h_l_13]; first | exact zn_out h_3 (by omega) (by omega) | exact zn_in h_3 (by omega) (by omega) (by omega) | exact zn_ext h_3 (by omega) (by omega) (by omega) (by omega) (by omega) | exact zn_out (zn_sub h_3 (by omega) (by omega) (by omega) (by omega)) (by omega) (by omega)) | (exfalso; omega)) (by omega) (by omega) (by omega) (by omega) (by omega) (by omega) (by omega) (by omega) (by omega)
        ·
          have dc_8 := i_nle c_8
          have n_11 : (-14 : Int32).toInt = -14 := by decide
          exact wp_so4 ⟨h_0, h_1, h_2, h_3, (by omega)⟩
      ·
        have dc_6 := i_nle c_6
        have n_12 : (-1 : Int32).toInt = -1 := by decide
        exact wp_so4 ⟨h_0, h_1, h_2, h_3, (by omega)⟩
    ·
      refine wp_ifp (by decide) ?_
      have n_13 : (-1 : Int32).toInt = -1 := by decide
      exact wp_so4 ⟨h_0, h_1, h_2, h_3, (by omega)⟩
  ·
    refine wp_ifp (by decide) ?_
    have n_14 : (-1 : Int32).toInt = -1 := by decide
    exact wp_so4 ⟨h_0, h_1, h_2, h_3, (by omega)⟩
set_option maxHeartbeats 4000000 in
set_option maxRecDepth 20000 in
theorem sx8_keep {x1 : Int32} {x2 : Int32} {v_foldings_size : Int32} {v_shelves0_holds : Int32} {v_shelves0_body : Int32} {v_shelves1_holds : Int32} {v_shelves1_body : Int32} {v_shelves2_holds : Int32} {v_shelves2_body : Int32} {v_shelves3_holds : Int32} {v_shelves3_body : Int32} {v_shelves4_holds : Int32} {v_shelves4_body : Int32} {v_shelves5_holds : Int32} {v_shelves5_body : Int32} {v_foldings_kinds : List Int32} {v_foldings_trace : List Int32} (g_0 : gi_fo v_foldings_size v_foldings_kinds v_foldings_trace) : wp (fX8_keep 700 x1 x2 v_foldings_size v_shelves0_holds v_shelves0_body v_shelves1_holds v_shelves1_body v_shelves2_holds v_shelves2_body v_shelves3_holds v_shelves3_body v_shelves4_holds v_shelves4_body v_shelves5_holds v_shelves5_body) (cu13 (fun (r : Int32) (wv_shelves0_holds : Int32) (wv_shelves0_body : Int32) (wv_shelves1_holds : Int32) (wv_shelves1_body : Int32) (wv_shelves2_holds : Int32) (wv_shelves2_body : Int32) (wv_shelves3_holds : Int32) (wv_shelves3_body : Int32) (wv_shelves4_holds : Int32) (wv_shelves4_body : Int32) (wv_shelves5_holds : Int32) (wv_shelves5_body : Int32) => ((((0 ≤ x1.toInt ∧ x1.toInt ≤ 5 ∧ (x2.toInt = -1 ∨ (0 ≤ x2.toInt ∧ x2.toInt < v_foldings_size.toInt))) ∧ r.toInt = 1) ∨ (¬ (0 ≤ x1.toInt ∧ x1.toInt ≤ 5 ∧ (x2.toInt = -1 ∨ (0 ≤ x2.toInt ∧ x2.toInt < v_foldings_size.toInt))) ∧ r.toInt = -1))))) := by
  obtain ⟨a_0_0, a_0_1, a_0_2, a_0_3, a_0_4⟩ := id g_0
  exact wp_cu13 (sz_X8_keep (Nat.le_refl 700) a_0_0 a_0_1) (fun r wv_shelves0_holds wv_shelves0_body wv_shelves1_holds wv_shelves1_body wv_shelves2_holds wv_shelves2_body wv_shelves3_holds wv_shelves3_body wv_shelves4_holds wv_shelves4_body wv_shelves5_holds wv_shelves5_body q_0 => q_0)
set_option maxHeartbeats 4000000 in
set_option maxRecDepth 20000 in
theorem sx9_keep {x1 : Int32} {x2 : Int32} {v_bodies : Int32} {v_shelf : List Int32} {v_many : List Int32} {v_bodyKind : List Int32} {v_trace : List Int32} {v_items : List Int64} {v_carried : List Int64} (g_0 : gm_bo v_bodies v_bodyKind v_trace) (g_1 : gm_sf v_shelf v_many v_items v_carried) : wp (fX9_keep 700 x1 x2 v_bodies v_shelf v_many) (cu3 (fun (r : Int32) (wv_shelf : List Int32) (wv_many : List Int32) => ((((0 ≤ x1.toInt ∧ x1.toInt ≤ 5 ∧ (x2.toInt = -1 ∨ (0 ≤ x2.toInt ∧ x2.toInt < v_bodies.toInt))) ∧ r.toInt = 1) ∨ (¬ (0 ≤ x1.toInt ∧ x1.toInt ≤ 5 ∧ (x2.toInt = -1 ∨ (0 ≤ x2.toInt ∧ x2.toInt < v_bodies.toInt))) ∧ r.toInt = -1))))) := by
  obtain ⟨a_0_0, a_0_1, a_0_2, a_0_3, a_0_4⟩ := id g_0
  obtain ⟨a_1_0, a_1_1, a_1_2, a_1_3, a_1_4⟩ := id g_1
  exact wp_cu3 (sz_X9_keep (Nat.le_refl 700) a_0_0 a_0_1 a_1_0 a_1_1 a_1_4) (fun r wv_shelf wv_many ⟨q_0, q_1, q_2, q_3⟩ => q_3)
set_option maxHeartbeats 4000000 in
set_option maxRecDepth 20000 in
theorem sx8_row {x1 : Int32} {x2 : Int32} {x3 : Int32} {v_shelves0_holds : Int32} {v_shelves0_sort : Int32} {v_shelves0_size : Int32} {v_shelves0_items : List Int64} {v_shelves1_holds : Int32} {v_shelves1_sort : Int32} {v_shelves1_size : Int32} {v_shelves1_items : List Int64} {v_shelves2_holds : Int32} {v_shelves2_sort : Int32} {v_shelves2_size : Int32} {v_shelves2_items : List Int64} {v_shelves3_holds : Int32} {v_shelves3_sort : Int32} {v_shelves3_size : Int32} {v_shelves3_items : List Int64} {v_shelves4_holds : Int32} {v_shelves4_sort : Int32} {v_shelves4_size : Int32} {v_shelves4_items : List Int64} {v_shelves5_holds : Int32} {v_shelves5_sort : Int32} {v_shelves5_size : Int32} {v_shelves5_items : List Int64} (g_0 : gi_sf v_shelves0_size v_shelves0_items) (g_1 : gi_sf v_shelves1_size v_shelves1_items) (g_2 : gi_sf v_shelves2_size v_shelves2_items) (g_3 : gi_sf v_shelves3_size v_shelves3_items) (g_4 : gi_sf v_shelves4_size v_shelves4_items) (g_5 : gi_sf v_shelves5_size v_shelves5_items) : wp (fX8_row 700 x1 x2 x3 v_shelves0_holds v_shelves0_sort v_shelves0_size v_shelves0_items v_shelves1_holds v_shelves1_sort v_shelves1_size v_shelves1_items v_shelves2_holds v_shelves2_sort v_shelves2_size v_shelves2_items v_shelves3_holds v_shelves3_sort v_shelves3_size v_shelves3_items v_shelves4_holds v_shelves4_sort v_shelves4_size v_shelves4_items v_shelves5_holds v_shelves5_sort v_shelves5_size v_shelves5_items) (cu25 (fun (r : Int32) (wv_shelves0_holds : Int32) (wv_shelves0_sort : Int32) (wv_shelves0_size : Int32) (wv_shelves0_items : List Int64) (wv_shelves1_holds : Int32) (wv_shelves1_sort : Int32) (wv_shelves1_size : Int32) (wv_shelves1_items : List Int64) (wv_shelves2_holds : Int32) (wv_shelves2_sort : Int32) (wv_shelves2_size : Int32) (wv_shelves2_items : List Int64) (wv_shelves3_holds : Int32) (wv_shelves3_sort : Int32) (wv_shelves3_size : Int32) (wv_shelves3_items : List Int64) (wv_shelves4_holds : Int32) (wv_shelves4_sort : Int32) (wv_shelves4_size : Int32) (wv_shelves4_items : List Int64) (wv_shelves5_holds : Int32) (wv_shelves5_sort : Int32) (wv_shelves5_size : Int32) (wv_shelves5_items : List Int64) => ((((0 ≤ x1.toInt ∧ x1.toInt ≤ 5 ∧ 0 ≤ x2.toInt ∧ x2.toInt ≤ 4 ∧ x3.toInt ≤ 60) ∧ 0 ≤ x3.toInt ∧ r.toInt = 1) ∨ ((0 ≤ x1.toInt ∧ x1.toInt ≤ 5 ∧ 0 ≤ x2.toInt ∧ x2.toInt ≤ 4 ∧ x3.toInt ≤ 60) ∧ x3.toInt < 0 ∧ r.toInt = -14) ∨ (¬ (0 ≤ x1.toInt ∧ x1.toInt ≤ 5 ∧ 0 ≤ x2.toInt ∧ x2.toInt ≤ 4 ∧ x3.toInt ≤ 60) ∧ r.toInt = -1))))) := by
  obtain ⟨a_0_0, a_0_1, a_0_2⟩ := id g_0
  obtain ⟨a_1_0, a_1_1, a_1_2⟩ := id g_1
  obtain ⟨a_2_0, a_2_1, a_2_2⟩ := id g_2
  obtain ⟨a_3_0, a_3_1, a_3_2⟩ := id g_3
  obtain ⟨a_4_0, a_4_1, a_4_2⟩ := id g_4
  obtain ⟨a_5_0, a_5_1, a_5_2⟩ := id g_5
  exact wp_cu25 (sz_X8_row (Nat.le_refl 700) a_0_0 a_0_1 a_0_2 a_1_0 a_1_1 a_1_2 a_2_0 a_2_1 a_2_2 a_3_0 a_3_1 a_3_2 a_4_0 a_4_1 a_4_2 a_5_0 a_5_1 a_5_2) (fun r wv_shelves0_holds wv_shelves0_sort wv_shelves0_size wv_shelves0_items wv_shelves1_holds wv_shelves1_sort wv_shelves1_size wv_shelves1_items wv_shelves2_holds wv_shelves2_sort wv_shelves2_size wv_shelves2_items wv_shelves3_holds wv_shelves3_sort wv_shelves3_size wv_shelves3_items wv_shelves4_holds wv_shelves4_sort wv_shelves4_size wv_shelves4_items wv_shelves5_holds wv_shelves5_sort wv_shelves5_size wv_shelves5_items ⟨q_0, q_1, q_2, q_3, q_4, q_5, q_6, q_7, q_8, q_9, q_10, q_11, q_12, q_13, q_14, q_15, q_16, q_17, q_18⟩ => q_18)
set_option maxHeartbeats 4000000 in
set_option maxRecDepth 20000 in
theorem sx9_row {x1 : Int32} {x2 : Int32} {x3 : Int32} {v_shelf : List Int32} {v_many : List Int32} {v_items : List Int64} {v_carried : List Int64} (g_0 : gm_sf v_shelf v_many v_items v_carried) : wp (fX9_row 700 x1 x2 x3 v_shelf v_many v_items) (cu4 (fun (r : Int32) (wv_shelf : List Int32) (wv_many : List Int32) (wv_items : List Int64) => ((((0 ≤ x1.toInt ∧ x1.toInt ≤ 5 ∧ 0 ≤ x2.toInt ∧ x2.toInt ≤ 4 ∧ x3.toInt ≤ 60) ∧ 0 ≤ x3.toInt ∧ r.toInt = 1) ∨ ((0 ≤ x1.toInt ∧ x1.toInt ≤ 5 ∧ 0 ≤ x2.toInt ∧ x2.toInt ≤ 4 ∧ x3.toInt ≤ 60) ∧ x3.toInt < 0 ∧ r.toInt = -14) ∨ (¬ (0 ≤ x1.toInt ∧ x1.toInt ≤ 5 ∧ 0 ≤ x2.toInt ∧ x2.toInt ≤ 4 ∧ x3.toInt ≤ 60) ∧ r.toInt = -1))))) := by
  obtain ⟨a_0_0, a_0_1, a_0_2, a_0_3, a_0_4⟩ := id g_0
  exact wp_cu4 (sz_X9_row (Nat.le_refl 700) a_0_0 a_0_1 a_0_2 a_0_4) (fun r wv_shelf wv_many wv_items ⟨q_0, q_1, q_2, q_3, q_4⟩ => q_4)
theorem rs_keep {x1 : Int32} {x2 : Int32} {v_foldings_size : Int32} {v_shelves0_holds : Int32} {v_shelves0_body : Int32} {v_shelves1_holds : Int32} {v_shelves1_body : Int32} {v_shelves2_holds : Int32} {v_shelves2_body : Int32} {v_shelves3_holds : Int32} {v_shelves3_body : Int32} {v_shelves4_holds : Int32} {v_shelves4_body : Int32} {v_shelves5_holds : Int32} {v_shelves5_body : Int32} {v_foldings_kinds : List Int32} {v_foldings_trace : List Int32} {m_bodies : Int32} {m_shelf : List Int32} {m_many : List Int32} {m_bodyKind : List Int32} {m_trace : List Int32} {m_items : List Int64} {m_carried : List Int64} (g8_0 : gi_fo v_foldings_size v_foldings_kinds v_foldings_trace) (g9_0 : gm_bo m_bodies m_bodyKind m_trace) (g9_1 : gm_sf m_shelf m_many m_items m_carried) (hr_0 : rl_bo v_foldings_size v_foldings_kinds m_bodies m_bodyKind) : ∃ (r : Int32) (p_shelves0_holds : Int32) (p_shelves0_body : Int32) (p_shelves1_holds : Int32) (p_shelves1_body : Int32) (p_shelves2_holds : Int32) (p_shelves2_body : Int32) (p_shelves3_holds : Int32) (p_shelves3_body : Int32) (p_shelves4_holds : Int32) (p_shelves4_body : Int32) (p_shelves5_holds : Int32) (p_shelves5_body : Int32) (q_shelf : List Int32) (q_many : List Int32), fX8_keep 700 x1 x2 v_foldings_size v_shelves0_holds v_shelves0_body v_shelves1_holds v_shelves1_body v_shelves2_holds v_shelves2_body v_shelves3_holds v_shelves3_body v_shelves4_holds v_shelves4_body v_shelves5_holds v_shelves5_body = some (r, p_shelves0_holds, p_shelves0_body, p_shelves1_holds, p_shelves1_body, p_shelves2_holds, p_shelves2_body, p_shelves3_holds, p_shelves3_body, p_shelves4_holds, p_shelves4_body, p_shelves5_holds, p_shelves5_body) ∧ fX9_keep 700 x1 x2 m_bodies m_shelf m_many = some (r, q_shelf, q_many) ∧ gm_sf q_shelf q_many m_items m_carried ∧ rl_bo v_foldings_size v_foldings_kinds m_bodies m_bodyKind := by
  obtain ⟨rfl, rfl⟩ := id hr_0
  obtain ⟨⟨r8, p0, p1, p2, p3, p4, p5, p6, p7, p8, p9, p10, p11⟩, e8, h8⟩ := sx8_keep (x1 := x1) (x2 := x2) (v_shelves0_holds := v_shelves0_holds) (v_shelves0_body := v_shelves0_body) (v_shelves1_holds := v_shelves1_holds) (v_shelves1_body := v_shelves1_body) (v_shelves2_holds := v_shelves2_holds) (v_shelves2_body := v_shelves2_body) (v_shelves3_holds := v_shelves3_holds) (v_shelves3_body := v_shelves3_body) (v_shelves4_holds := v_shelves4_holds) (v_shelves4_body := v_shelves4_body) (v_shelves5_holds := v_shelves5_holds) (v_shelves5_body := v_shelves5_body) g8_0
  obtain ⟨⟨r9, q0, q1⟩, e9, h9⟩ := sx9_keep (x1 := x1) (x2 := x2)  g9_0 g9_1
  simp only [cu13] at h8
  simp only [cu3] at h9
  have er : r9 = r8 := ti_eq (by omega)
  subst er
  have k8 := wp_get (st8_keep g8_0) e8
  have k9 := wp_get (st9_keep g9_0 g9_1) e9
  exact ⟨_, _, _, _, _, _, _, _, _, _, _, _, _, _, _, e8, e9, k9, hr_0⟩
theorem rs_row {x1 : Int32} {x2 : Int32} {x3 : Int32} {v_shelves0_holds : Int32} {v_shelves0_sort : Int32} {v_shelves0_size : Int32} {v_shelves0_items : List Int64} {v_shelves1_holds : Int32} {v_shelves1_sort : Int32} {v_shelves1_size : Int32} {v_shelves1_items : List Int64} {v_shelves2_holds : Int32} {v_shelves2_sort : Int32} {v_shelves2_size : Int32} {v_shelves2_items : List Int64} {v_shelves3_holds : Int32} {v_shelves3_sort : Int32} {v_shelves3_size : Int32} {v_shelves3_items : List Int64} {v_shelves4_holds : Int32} {v_shelves4_sort : Int32} {v_shelves4_size : Int32} {v_shelves4_items : List Int64} {v_shelves5_holds : Int32} {v_shelves5_sort : Int32} {v_shelves5_size : Int32} {v_shelves5_items : List Int64} {m_shelf : List Int32} {m_many : List Int32} {m_items : List Int64} {m_carried : List Int64} (g8_0 : gi_sf v_shelves0_size v_shelves0_items) (g8_1 : gi_sf v_shelves1_size v_shelves1_items) (g8_2 : gi_sf v_shelves2_size v_shelves2_items) (g8_3 : gi_sf v_shelves3_size v_shelves3_items) (g8_4 : gi_sf v_shelves4_size v_shelves4_items) (g8_5 : gi_sf v_shelves5_size v_shelves5_items) (g9_0 : gm_sf m_shelf m_many m_items m_carried) : ∃ (r : Int32) (p_shelves0_holds : Int32) (p_shelves0_sort : Int32) (p_shelves0_size : Int32) (p_shelves0_items : List Int64) (p_shelves1_holds : Int32) (p_shelves1_sort : Int32) (p_shelves1_size : Int32) (p_shelves1_items : List Int64) (p_shelves2_holds : Int32) (p_shelves2_sort : Int32) (p_shelves2_size : Int32) (p_shelves2_items : List Int64) (p_shelves3_holds : Int32) (p_shelves3_sort : Int32) (p_shelves3_size : Int32) (p_shelves3_items : List Int64) (p_shelves4_holds : Int32) (p_shelves4_sort : Int32) (p_shelves4_size : Int32) (p_shelves4_items : List Int64) (p_shelves5_holds : Int32) (p_shelves5_sort : Int32) (p_shelves5_size : Int32) (p_shelves5_items : List Int64) (q_shelf : List Int32) (q_many : List Int32) (q_items : List Int64), fX8_row 700 x1 x2 x3 v_shelves0_holds v_shelves0_sort v_shelves0_size v_shelves0_items v_shelves1_holds v_shelves1_sort v_shelves1_size v_shelves1_items v_shelves2_holds v_shelves2_sort v_shelves2_size v_shelves2_items v_shelves3_holds v_shelves3_sort v_shelves3_size v_shelves3_items v_shelves4_holds v_shelves4_sort v_shelves4_size v_shelves4_items v_shelves5_holds v_shelves5_sort v_shelves5_size v_shelves5_items = some (r, p_shelves0_holds, p_shelves0_sort, p_shelves0_size, p_shelves0_items, p_shelves1_holds, p_shelves1_sort, p_shelves1_size, p_shelves1_items, p_shelves2_holds, p_shelves2_sort, p_shelves2_size, p_shelves2_items, p_shelves3_holds, p_shelves3_sort, p_shelves3_size, p_shelves3_items, p_shelves4_holds, p_shelves4_sort, p_shelves4_size, p_shelves4_items, p_shelves5_holds, p_shelves5_sort, p_shelves5_size, p_shelves5_items) ∧ fX9_row 700 x1 x2 x3 m_shelf m_many m_items = some (r, q_shelf, q_many, q_items) ∧ gi_sf p_shelves0_size p_shelves0_items ∧ gi_sf p_shelves1_size p_shelves1_items ∧ gi_sf p_shelves2_size p_shelves2_items ∧ gi_sf p_shelves3_size p_shelves3_items ∧ gi_sf p_shelves4_size p_shelves4_items ∧ gi_sf p_shelves5_size p_shelves5_items ∧ gm_sf q_shelf q_many q_items m_carried := by
  obtain ⟨⟨r8, p0, p1, p2, p3, p4, p5, p6, p7, p8, p9, p10, p11, p12, p13, p14, p15, p16, p17, p18, p19, p20, p21, p22, p23⟩, e8, h8⟩ := sx8_row (x1 := x1) (x2 := x2) (x3 := x3) (v_shelves0_holds := v_shelves0_holds) (v_shelves0_sort := v_shelves0_sort) (v_shelves1_holds := v_shelves1_holds) (v_shelves1_sort := v_shelves1_sort) (v_shelves2_holds := v_shelves2_holds) (v_shelves2_sort := v_shelves2_sort) (v_shelves3_holds := v_shelves3_holds) (v_shelves3_sort := v_shelves3_sort) (v_shelves4_holds := v_shelves4_holds) (v_shelves4_sort := v_shelves4_sort) (v_shelves5_holds := v_shelves5_holds) (v_shelves5_sort := v_shelves5_sort) g8_0 g8_1 g8_2 g8_3 g8_4 g8_5
  obtain ⟨⟨r9, q0, q1, q2⟩, e9, h9⟩ := sx9_row (x1 := x1) (x2 := x2) (x3 := x3)  g9_0
  simp only [cu25] at h8
  simp only [cu4] at h9
  have er : r9 = r8 := ti_eq (by omega)
  subst er
  have k8 := wp_get (st8_row g8_0 g8_1 g8_2 g8_3 g8_4 g8_5) e8
  have k9 := wp_get (st9_row g9_0) e9
  exact ⟨_, _, _, _, _, _, _, _, _, _, _, _, _, _, _, _, _, _, _, _, _, _, _, _, _, _, _, _, e8, e9, k8.1, k8.2.1, k8.2.2.1, k8.2.2.2.1, k8.2.2.2.2.1, k8.2.2.2.2.2, k9⟩
end
section
/-! Shelves: what they hold, how many -/
def sc1 (i nb holds body sort size : Int32) (shelf many : List Int32) : Prop :=
  (holds = 0 ∧ mm_ig shelf i = (-1 : Int32)) ∨ (holds = 1 ∧ mm_ig shelf i = body ∧ 0 ≤ body.toInt ∧ body.toInt < nb.toInt ∧ body.toInt < 50) ∨ (holds = 2 ∧ mm_ig shelf i = (50 : Int32) + sort ∧ 0 ≤ sort.toInt ∧ sort.toInt ≤ 4 ∧ mm_ig many i = size)
theorem sc1_ne {i k nb h b s z v w : Int32} {shelf many : List Int32} (hs : shelf.length = 6) (hm : many.length = 6) (hi : 0 ≤ i.toInt) (hi6 : i.toInt < 6) (hk : 0 ≤ k.toInt) (ne : ¬ k.toInt = i.toInt) (H : sc1 i nb h b s z shelf many) : sc1 i nb h b s z (mm_is shelf k v) (mm_is many k w) := by
  unfold sc1
  rw [ig_is shelf k i v hi (by omega) hk, if_neg ne, ig_is many k i w hi (by omega) hk, if_neg ne]
  exact H
theorem sc1_nb {i nb nb' h b s z : Int32} {shelf many : List Int32} (e : nb.toInt ≤ nb'.toInt) (H : sc1 i nb h b s z shelf many) : sc1 i nb' h b s z shelf many := by
  rcases H with H | ⟨h1, h2, h3, h4, h5⟩ | H
  · exact Or.inl H
  · exact Or.inr (Or.inl ⟨h1, h2, h3, by omega, h5⟩)
  · exact Or.inr (Or.inr H)
theorem ig_eq {l : List Int32} {k v : Int32} (hk : 0 ≤ k.toInt) (hl : k.toInt < l.length) : mm_ig (mm_is l k v) k = v := by
  rw [ig_is l k k v hk hl hk, if_pos rfl]
theorem sh8_e (x : Int32) : fX8_isShelf 700 x = some (decide (0 ≤ x.toInt ∧ x.toInt ≤ 5)) := by
  have n0 : (0 : Int32).toInt = 0 := by decide
  have n6 : (6 : Int32).toInt = 6 := by decide
  have n5 : (5 : Int32).toInt = 5 := by decide
  unfold fX8_isShelf
  by_cases c : x < 0
  · rw [if_pos c, decide_eq_false (by rw [Int32.lt_iff_toInt_lt] at c; omega)]
  · rw [if_neg c]
    by_cases d : (6 : Int32) ≤ x
    · rw [if_pos d, decide_eq_false (by rw [Int32.le_iff_toInt_le] at d; omega)]
    · rw [if_neg d, decide_eq_true (by rw [Int32.lt_iff_toInt_lt] at c; rw [Int32.le_iff_toInt_le] at d; omega)]
theorem sh9_e (x : Int32) : fX9_isShelf 700 x = some (decide (0 ≤ x.toInt ∧ x.toInt ≤ 5)) := by
  unfold fX9_isShelf
  have m1 := i_64 x
  have m0 : (0 : Int64).toInt = 0 := by decide
  have m5 : (5 : Int64).toInt = 5 := by decide
  obtain ⟨w, ew, qw⟩ := sf_X9_within (Nat.le_refl 700) (x0 := x.toInt64) (x2 := 0) (x4 := 5)
  rw [ew, bs_1]
  rw [m1, m0, m5] at qw
  rcases qw with ⟨rfl, q0, q1⟩ | ⟨rfl, q0⟩
  · rw [decide_eq_true (by omega)]
  · rw [decide_eq_false (by omega)]
theorem hs8_e {x s : Int32} (h0 : 0 ≤ s.toInt) (h1 : s.toInt ≤ 50) : fX1_has 700 x s = some (decide (0 ≤ x.toInt ∧ x.toInt < s.toInt)) := by
  have n0 : (0 : Int32).toInt = 0 := by decide
  unfold fX1_has
  by_cases c : x < 0
  · rw [if_pos c, decide_eq_false (by rw [Int32.lt_iff_toInt_lt] at c; omega)]
  · rw [if_neg c]
    by_cases d : s ≤ x
    · rw [if_pos d, decide_eq_false (by rw [Int32.le_iff_toInt_le] at d; omega)]
    · rw [if_neg d, decide_eq_true (by rw [Int32.lt_iff_toInt_lt] at c; rw [Int32.le_iff_toInt_le] at d; omega)]
theorem hs9_e {x s : Int32} (h0 : 0 ≤ s.toInt) (h1 : s.toInt ≤ 50) : fX9_isBody 700 x s = some (decide (0 ≤ x.toInt ∧ x.toInt < s.toInt)) := by
  unfold fX9_isBody
  have m_1 := i_64 x
  have m_2 : (0 : Int64).toInt = 0 := by decide
  have n1 : (1 : Int32).toInt = 1 := by decide
  have m_3 := i_64 (s - (1 : Int32))
  have e := i_subE (rfl : s - (1 : Int32) = _) (by omega) (by omega)
  obtain ⟨w, ew, qw⟩ := sf_X9_within (Nat.le_refl 700) (x0 := x.toInt64) (x2 := 0) (x4 := (s - (1 : Int32)).toInt64)
  rw [ew, bs_1]
  rw [m_1, m_2, m_3, e, n1] at qw
  rcases qw with ⟨rfl, q0, q1⟩ | ⟨rfl, q0⟩
  · rw [decide_eq_true (by omega)]
  · rw [decide_eq_false (by omega)]
theorem k6 {z : Int32} (h0 : 0 ≤ z.toInt) (h1 : z.toInt ≤ 5) : z = 0 ∨ z = 1 ∨ z = 2 ∨ z = 3 ∨ z = 4 ∨ z = 5 := by
  have n6 : (6 : Int32).toInt = 6 := by decide
  have n7 : (7 : Int32).toInt = 7 := by decide
  rcases k8 h0 (by omega) with e | e | e | e | e | e | e | e
  · exact Or.inl e
  · exact Or.inr (Or.inl e)
  · exact Or.inr (Or.inr (Or.inl e))
  · exact Or.inr (Or.inr (Or.inr (Or.inl e)))
  · exact Or.inr (Or.inr (Or.inr (Or.inr (Or.inl e))))
  · exact Or.inr (Or.inr (Or.inr (Or.inr (Or.inr e))))
  all_goals (exfalso; rw [e] at h1; omega)
theorem bs_4 {α0 α1 α2 α3 β : Type} (a0 : α0) (a1 : α1) (a2 : α2) (a3 : α3) (k : α0 → α1 → α2 → α3 → Option β) : mm_bd4 (some (a0, a1, a2, a3)) k = k a0 a1 a2 a3 := rfl
def rl_sc (v_foldings_size : Int32) (v_shelves0_holds : Int32) (v_shelves0_body : Int32) (v_shelves0_sort : Int32) (v_shelves0_size : Int32) (v_shelves1_holds : Int32) (v_shelves1_body : Int32) (v_shelves1_sort : Int32) (v_shelves1_size : Int32) (v_shelves2_holds : Int32) (v_shelves2_body : Int32) (v_shelves2_sort : Int32) (v_shelves2_size : Int32) (v_shelves3_holds : Int32) (v_shelves3_body : Int32) (v_shelves3_sort : Int32) (v_shelves3_size : Int32) (v_shelves4_holds : Int32) (v_shelves4_body : Int32) (v_shelves4_sort : Int32) (v_shelves4_size : Int32) (v_shelves5_holds : Int32) (v_shelves5_body : Int32) (v_shelves5_sort : Int32) (v_shelves5_size : Int32) (m_shelf : List Int32) (m_many : List Int32) : Prop := sc1 0 v_foldings_size v_shelves0_holds v_shelves0_body v_shelves0_sort v_shelves0_size m_shelf m_many ∧ sc1 1 v_foldings_size v_shelves1_holds v_shelves1_body v_shelves1_sort v_shelves1_size m_shelf m_many ∧ sc1 2 v_foldings_size v_shelves2_holds v_shelves2_body v_shelves2_sort v_shelves2_size m_shelf m_many ∧ sc1 3 v_foldings_size v_shelves3_holds v_shelves3_body v_shelves3_sort v_shelves3_size m_shelf m_many ∧ sc1 4 v_foldings_size v_shelves4_holds v_shelves4_body v_shelves4_sort v_shelves4_size m_shelf m_many ∧ sc1 5 v_foldings_size v_shelves5_holds v_shelves5_body v_shelves5_sort v_shelves5_size m_shelf m_many
theorem rs_body_sc {x1 : Int32} {v_foldings_size : Int32} {v_foldings_kinds : List Int32} {v_foldings_trace : List Int32} {v_shelves0_holds : Int32} {v_shelves0_body : Int32} {v_shelves0_sort : Int32} {v_shelves0_size : Int32} {v_shelves1_holds : Int32} {v_shelves1_body : Int32} {v_shelves1_sort : Int32} {v_shelves1_size : Int32} {v_shelves2_holds : Int32} {v_shelves2_body : Int32} {v_shelves2_sort : Int32} {v_shelves2_size : Int32} {v_shelves3_holds : Int32} {v_shelves3_body : Int32} {v_shelves3_sort : Int32} {v_shelves3_size : Int32} {v_shelves4_holds : Int32} {v_shelves4_body : Int32} {v_shelves4_sort : Int32} {v_shelves4_size : Int32} {v_shelves5_holds : Int32} {v_shelves5_body : Int32} {v_shelves5_sort : Int32} {v_shelves5_size : Int32} {m_bodies : Int32} {m_bodyKind : List Int32} {m_trace : List Int32} {m_shelf : List Int32} {m_many : List Int32} (g8_0 : gi_fo v_foldings_size v_foldings_kinds v_foldings_trace) (g9_0 : gm_bo m_bodies m_bodyKind m_trace) (hr_0 : rl_bo v_foldings_size v_foldings_kinds m_bodies m_bodyKind) (hr_1 : rl_sc v_foldings_size v_shelves0_holds v_shelves0_body v_shelves0_sort v_shelves0_size v_shelves1_holds v_shelves1_body v_shelves1_sort v_shelves1_size v_shelves2_holds v_shelves2_body v_shelves2_sort v_shelves2_size v_shelves3_holds v_shelves3_body v_shelves3_sort v_shelves3_size v_shelves4_holds v_shelves4_body v_shelves4_sort v_shelves4_size v_shelves5_holds v_shelves5_body v_shelves5_sort v_shelves5_size m_shelf m_many) : ∃ (r : Int32) (p_foldings_size : Int32) (p_foldings_kinds : List Int32) (q_bodies : Int32) (q_bodyKind : List Int32), fX8_body 700 x1 v_foldings_size v_foldings_kinds = some (r, p_foldings_size, p_foldings_kinds) ∧ fX9_body 700 x1 m_bodies m_bodyKind = some (r, q_bodies, q_bodyKind) ∧ gi_fo p_foldings_size p_foldings_kinds v_foldings_trace ∧ gm_bo q_bodies q_bodyKind m_trace ∧ rl_bo p_foldings_size p_foldings_kinds q_bodies q_bodyKind ∧ rl_sc p_foldings_size v_shelves0_holds v_shelves0_body v_shelves0_sort v_shelves0_size v_shelves1_holds v_shelves1_body v_shelves1_sort v_shelves1_size v_shelves2_holds v_shelves2_body v_shelves2_sort v_shelves2_size v_shelves3_holds v_shelves3_body v_shelves3_sort v_shelves3_size v_shelves4_holds v_shelves4_body v_shelves4_sort v_shelves4_size v_shelves5_holds v_shelves5_body v_shelves5_sort v_shelves5_size m_shelf m_many := by
  obtain ⟨rfl, rfl⟩ := hr_0
  obtain ⟨a0, a1, a2, -, -⟩ := id g8_0
  obtain ⟨r, s', t', e8, e9, le⟩ := rc_body (x := x1) a0 a1 a2
  obtain ⟨c0, c1, c2, c3, c4, c5⟩ := hr_1
  have k8 := wp_get (st8_body g8_0) e8
  have k9 := wp_get (st9_body g9_0) e9
  exact ⟨_, _, _, _, _, e8, e9, k8, k9, ⟨rfl, rfl⟩, sc1_nb le c0, sc1_nb le c1, sc1_nb le c2, sc1_nb le c3, sc1_nb le c4, sc1_nb le c5⟩
theorem kp_ok {x1 x2 : Int32} {v_foldings_size : Int32} {v_shelves0_holds : Int32} {v_shelves0_body : Int32} {v_shelves0_sort : Int32} {v_shelves0_size : Int32} {v_shelves1_holds : Int32} {v_shelves1_body : Int32} {v_shelves1_sort : Int32} {v_shelves1_size : Int32} {v_shelves2_holds : Int32} {v_shelves2_body : Int32} {v_shelves2_sort : Int32} {v_shelves2_size : Int32} {v_shelves3_holds : Int32} {v_shelves3_body : Int32} {v_shelves3_sort : Int32} {v_shelves3_size : Int32} {v_shelves4_holds : Int32} {v_shelves4_body : Int32} {v_shelves4_sort : Int32} {v_shelves4_size : Int32} {v_shelves5_holds : Int32} {v_shelves5_body : Int32} {v_shelves5_sort : Int32} {v_shelves5_size : Int32} {m_shelf m_many : List Int32} (hx0 : 0 ≤ x1.toInt) (hx1 : x1.toInt ≤ 5) (hs : m_shelf.length = 6) (hm : m_many.length = 6) (h50 : v_foldings_size.toInt ≤ 50) (hc : x2 = (-1 : Int32) ∨ (0 ≤ x2.toInt ∧ x2.toInt < v_foldings_size.toInt)) (H : rl_sc v_foldings_size v_shelves0_holds v_shelves0_body v_shelves0_sort v_shelves0_size v_shelves1_holds v_shelves1_body v_shelves1_sort v_shelves1_size v_shelves2_holds v_shelves2_body v_shelves2_sort v_shelves2_size v_shelves3_holds v_shelves3_body v_shelves3_sort v_shelves3_size v_shelves4_holds v_shelves4_body v_shelves4_sort v_shelves4_size v_shelves5_holds v_shelves5_body v_shelves5_sort v_shelves5_size m_shelf m_many) : ∃ (p_shelves0_holds : Int32) (p_shelves0_body : Int32) (p_shelves1_holds : Int32) (p_shelves1_body : Int32) (p_shelves2_holds : Int32) (p_shelves2_body : Int32) (p_shelves3_holds : Int32) (p_shelves3_body : Int32) (p_shelves4_holds : Int32) (p_shelves4_body : Int32) (p_shelves5_holds : Int32) (p_shelves5_body : Int32) (q_shelf q_many : List Int32), fX8_keep_25 700 x1 x2 v_foldings_size v_shelves0_holds v_shelves0_body v_shelves1_holds v_shelves1_body v_shelves2_holds v_shelves2_body v_shelves3_holds v_shelves3_body v_shelves4_holds v_shelves4_body v_shelves5_holds v_shelves5_body = some ((1 : Int32), p_shelves0_holds, p_shelves0_body, p_shelves1_holds, p_shelves1_body, p_shelves2_holds, p_shelves2_body, p_shelves3_holds, p_shelves3_body, p_shelves4_holds, p_shelves4_body, p_shelves5_holds, p_shelves5_body) ∧ fX9_keep_22 700 x1 x2 v_foldings_size m_shelf m_many = some ((1 : Int32), q_shelf, q_many) ∧ rl_sc v_foldings_size p_shelves0_holds p_shelves0_body v_shelves0_sort v_shelves0_size p_shelves1_holds p_shelves1_body v_shelves1_sort v_shelves1_size p_shelves2_holds p_shelves2_body v_shelves2_sort v_shelves2_size p_shelves3_holds p_shelves3_body v_shelves3_sort v_shelves3_size p_shelves4_holds p_shelves4_body v_shelves4_sort v_shelves4_size p_shelves5_holds p_shelves5_body v_shelves5_sort v_shelves5_size q_shelf q_many := by
  obtain ⟨c0, c1, c2, c3, c4, c5⟩ := H
  unfold fX9_keep_22
  rw [ck_t (i_inb hx0 (by omega)), nm_eq, ck_t (i_inb hx0 (by omega)), nm_eq]
  unfold fX8_keep_25
  rcases k6 hx0 hx1 with rfl | rfl | rfl | rfl | rfl | rfl
  · by_cases e : x2 = (-1 : Int32)
    · rw [if_pos e, if_pos rfl]
      exact ⟨_, _, _, _, _, _, _, _, _, _, _, _, _, _, rfl, rfl, ⟨Or.inl ⟨rfl, by rw [ig_eq (by decide) (by omega)]; exact e⟩, sc1_ne hs hm (by decide) (by decide) (by decide) (by decide) c1, sc1_ne hs hm (by decide) (by decide) (by decide) (by decide) c2, sc1_ne hs hm (by decide) (by decide) (by decide) (by decide) c3, sc1_ne hs hm (by decide) (by decide) (by decide) (by decide) c4, sc1_ne hs hm (by decide) (by decide) (by decide) (by decide) c5⟩⟩
    · rcases hc with hc | hc
      · exact absurd hc e
      · rw [if_neg e, if_pos rfl]
        unfold fX6_holdFolding
        rw [bs_2]
        exact ⟨_, _, _, _, _, _, _, _, _, _, _, _, _, _, rfl, rfl, ⟨Or.inr (Or.inl ⟨rfl, ig_eq (by decide) (by omega), hc.1, hc.2, by omega⟩), sc1_ne hs hm (by decide) (by decide) (by decide) (by decide) c1, sc1_ne hs hm (by decide) (by decide) (by decide) (by decide) c2, sc1_ne hs hm (by decide) (by decide) (by decide) (by decide) c3, sc1_ne hs hm (by decide) (by decide) (by decide) (by decide) c4, sc1_ne hs hm (by decide) (by decide) (by decide) (by decide) c5⟩⟩
  · by_cases e : x2 = (-1 : Int32)
    · rw [if_pos e, if_neg (show ¬ (1 : Int32) = 0 by decide), if_pos rfl]
      exact ⟨_, _, _, _, _, _, _, _, _, _, _, _, _, _, rfl, rfl, ⟨sc1_ne hs hm (by decide) (by decide) (by decide) (by decide) c0, Or.inl ⟨rfl, by rw [ig_eq (by decide) (by omega)]; exact e⟩, sc1_ne hs hm (by decide) (by decide) (by decide) (by decide) c2, sc1_ne hs hm (by decide) (by decide) (by decide) (by decide) c3, sc1_ne hs hm (by decide) (by decide) (by decide) (by decide) c4, sc1_ne hs hm (by decide) (by decide) (by decide) (by decide) c5⟩⟩
    · rcases hc with hc | hc
      · exact absurd hc e
      · rw [if_neg e, if_neg (show ¬ (1 : Int32) = 0 by decide), if_pos rfl]
        unfold fX6_holdFolding
        rw [bs_2]
        exact ⟨_, _, _, _, _, _, _, _, _, _, _, _, _, _, rfl, rfl, ⟨sc1_ne hs hm (by decide) (by decide) (by decide) (by decide) c0, Or.inr (Or.inl ⟨rfl, ig_eq (by decide) (by omega), hc.1, hc.2, by omega⟩), sc1_ne hs hm (by decide) (by decide) (by decide) (by decide) c2, sc1_ne hs hm (by decide) (by decide) (by decide) (by decide) c3, sc1_ne hs hm (by decide) (by decide) (by decide) (by decide) c4, sc1_ne hs hm (by decide) (by decide) (by decide) (by decide) c5⟩⟩
  · by_cases e : x2 = (-1 : Int32)
    · rw [if_pos e, if_neg (show ¬ (2 : Int32) = 0 by decide), if_neg (show ¬ (2 : Int32) = 1 by decide), if_pos rfl]
      exact ⟨_, _, _, _, _, _, _, _, _, _, _, _, _, _, rfl, rfl, ⟨sc1_ne hs hm (by decide) (by decide) (by decide) (by decide) c0, sc1_ne hs hm (by decide) (by decide) (by decide) (by decide) c1, Or.inl ⟨rfl, by rw [ig_eq (by decide) (by omega)]; exact e⟩, sc1_ne hs hm (by decide) (by decide) (by decide) (by decide) c3, sc1_ne hs hm (by decide) (by decide) (by decide) (by decide) c4, sc1_ne hs hm (by decide) (by decide) (by decide) (by decide) c5⟩⟩
    · rcases hc with hc | hc
      · exact absurd hc e
      · rw [if_neg e, if_neg (show ¬ (2 : Int32) = 0 by decide), if_neg (show ¬ (2 : Int32) = 1 by decide), if_pos rfl]
        unfold fX6_holdFolding
        rw [bs_2]
        exact ⟨_, _, _, _, _, _, _, _, _, _, _, _, _, _, rfl, rfl, ⟨sc1_ne hs hm (by decide) (by decide) (by decide) (by decide) c0, sc1_ne hs hm (by decide) (by decide) (by decide) (by decide) c1, Or.inr (Or.inl ⟨rfl, ig_eq (by decide) (by omega), hc.1, hc.2, by omega⟩), sc1_ne hs hm (by decide) (by decide) (by decide) (by decide) c3, sc1_ne hs hm (by decide) (by decide) (by decide) (by decide) c4, sc1_ne hs hm (by decide) (by decide) (by decide) (by decide) c5⟩⟩
  · by_cases e : x2 = (-1 : Int32)
    · rw [if_pos e, if_neg (show ¬ (3 : Int32) = 0 by decide), if_neg (show ¬ (3 : Int32) = 1 by decide), if_neg (show ¬ (3 : Int32) = 2 by decide), if_pos rfl]
      exact ⟨_, _, _, _, _, _, _, _, _, _, _, _, _, _, rfl, rfl, ⟨sc1_ne hs hm (by decide) (by decide) (by decide) (by decide) c0, sc1_ne hs hm (by decide) (by decide) (by decide) (by decide) c1, sc1_ne hs hm (by decide) (by decide) (by decide) (by decide) c2, Or.inl ⟨rfl, by rw [ig_eq (by decide) (by omega)]; exact e⟩, sc1_ne hs hm (by decide) (by decide) (by decide) (by decide) c4, sc1_ne hs hm (by decide) (by decide) (by decide) (by decide) c5⟩⟩
    · rcases hc with hc | hc
      · exact absurd hc e
      · rw [if_neg e, if_neg (show ¬ (3 : Int32) = 0 by decide), if_neg (show ¬ (3 : Int32) = 1 by decide), if_neg (show ¬ (3 : Int32) = 2 by decide), if_pos rfl]
        unfold fX6_holdFolding
        rw [bs_2]
        exact ⟨_, _, _, _, _, _, _, _, _, _, _, _, _, _, rfl, rfl, ⟨sc1_ne hs hm (by decide) (by decide) (by decide) (by decide) c0, sc1_ne hs hm (by decide) (by decide) (by decide) (by decide) c1, sc1_ne hs hm (by decide) (by decide) (by decide) (by decide) c2, Or.inr (Or.inl ⟨rfl, ig_eq (by decide) (by omega), hc.1, hc.2, by omega⟩), sc1_ne hs hm (by decide) (by decide) (by decide) (by decide) c4, sc1_ne hs hm (by decide) (by decide) (by decide) (by decide) c5⟩⟩
  · by_cases e : x2 = (-1 : Int32)
    · rw [if_pos e, if_neg (show ¬ (4 : Int32) = 0 by decide), if_neg (show ¬ (4 : Int32) = 1 by decide), if_neg (show ¬ (4 : Int32) = 2 by decide), if_neg (show ¬ (4 : Int32) = 3 by decide), if_pos rfl]
      exact ⟨_, _, _, _, _, _, _, _, _, _, _, _, _, _, rfl, rfl, ⟨sc1_ne hs hm (by decide) (by decide) (by decide) (by decide) c0, sc1_ne hs hm (by decide) (by decide) (by decide) (by decide) c1, sc1_ne hs hm (by decide) (by decide) (by decide) (by decide) c2, sc1_ne hs hm (by decide) (by decide) (by decide) (by decide) c3, Or.inl ⟨rfl, by rw [ig_eq (by decide) (by omega)]; exact e⟩, sc1_ne hs hm (by decide) (by decide) (by decide) (by decide) c5⟩⟩
    · rcases hc with hc | hc
      · exact absurd hc e
      · rw [if_neg e, if_neg (show ¬ (4 : Int32) = 0 by decide), if_neg (show ¬ (4 : Int32) = 1 by decide), if_neg (show ¬ (4 : Int32) = 2 by decide), if_neg (show ¬ (4 : Int32) = 3 by decide), if_pos rfl]
        unfold fX6_holdFolding
        rw [bs_2]
        exact ⟨_, _, _, _, _, _, _, _, _, _, _, _, _, _, rfl, rfl, ⟨sc1_ne hs hm (by decide) (by decide) (by decide) (by decide) c0, sc1_ne hs hm (by decide) (by decide) (by decide) (by decide) c1, sc1_ne hs hm (by decide) (by decide) (by decide) (by decide) c2, sc1_ne hs hm (by decide) (by decide) (by decide) (by decide) c3, Or.inr (Or.inl ⟨rfl, ig_eq (by decide) (by omega), hc.1, hc.2, by omega⟩), sc1_ne hs hm (by decide) (by decide) (by decide) (by decide) c5⟩⟩
  · by_cases e : x2 = (-1 : Int32)
    · rw [if_pos e, if_neg (show ¬ (5 : Int32) = 0 by decide), if_neg (show ¬ (5 : Int32) = 1 by decide), if_neg (show ¬ (5 : Int32) = 2 by decide), if_neg (show ¬ (5 : Int32) = 3 by decide), if_neg (show ¬ (5 : Int32) = 4 by decide), if_pos rfl]
      exact ⟨_, _, _, _, _, _, _, _, _, _, _, _, _, _, rfl, rfl, ⟨sc1_ne hs hm (by decide) (by decide) (by decide) (by decide) c0, sc1_ne hs hm (by decide) (by decide) (by decide) (by decide) c1, sc1_ne hs hm (by decide) (by decide) (by decide) (by decide) c2, sc1_ne hs hm (by decide) (by decide) (by decide) (by decide) c3, sc1_ne hs hm (by decide) (by decide) (by decide) (by decide) c4, Or.inl ⟨rfl, by rw [ig_eq (by decide) (by omega)]; exact e⟩⟩⟩
    · rcases hc with hc | hc
      · exact absurd hc e
      · rw [if_neg e, if_neg (show ¬ (5 : Int32) = 0 by decide), if_neg (show ¬ (5 : Int32) = 1 by decide), if_neg (show ¬ (5 : Int32) = 2 by decide), if_neg (show ¬ (5 : Int32) = 3 by decide), if_neg (show ¬ (5 : Int32) = 4 by decide), if_pos rfl]
        unfold fX6_holdFolding
        rw [bs_2]
        exact ⟨_, _, _, _, _, _, _, _, _, _, _, _, _, _, rfl, rfl, ⟨sc1_ne hs hm (by decide) (by decide) (by decide) (by decide) c0, sc1_ne hs hm (by decide) (by decide) (by decide) (by decide) c1, sc1_ne hs hm (by decide) (by decide) (by decide) (by decide) c2, sc1_ne hs hm (by decide) (by decide) (by decide) (by decide) c3, sc1_ne hs hm (by decide) (by decide) (by decide) (by decide) c4, Or.inr (Or.inl ⟨rfl, ig_eq (by decide) (by omega), hc.1, hc.2, by omega⟩)⟩⟩
theorem rs_keep_sc {x1 : Int32} {x2 : Int32} {v_foldings_size : Int32} {v_shelves0_holds : Int32} {v_shelves0_body : Int32} {v_shelves1_holds : Int32} {v_shelves1_body : Int32} {v_shelves2_holds : Int32} {v_shelves2_body : Int32} {v_shelves3_holds : Int32} {v_shelves3_body : Int32} {v_shelves4_holds : Int32} {v_shelves4_body : Int32} {v_shelves5_holds : Int32} {v_shelves5_body : Int32} {v_foldings_kinds : List Int32} {v_foldings_trace : List Int32} {v_shelves0_sort : Int32} {v_shelves0_size : Int32} {v_shelves1_sort : Int32} {v_shelves1_size : Int32} {v_shelves2_sort : Int32} {v_shelves2_size : Int32} {v_shelves3_sort : Int32} {v_shelves3_size : Int32} {v_shelves4_sort : Int32} {v_shelves4_size : Int32} {v_shelves5_sort : Int32} {v_shelves5_size : Int32} {m_bodies : Int32} {m_shelf : List Int32} {m_many : List Int32} {m_bodyKind : List Int32} {m_trace : List Int32} {m_items : List Int64} {m_carried : List Int64} (g8_0 : gi_fo v_foldings_size v_foldings_kinds v_foldings_trace) (g9_0 : gm_bo m_bodies m_bodyKind m_trace) (g9_1 : gm_sf m_shelf m_many m_items m_carried) (hr_0 : rl_bo v_foldings_size v_foldings_kinds m_bodies m_bodyKind) (hr_1 : rl_sc v_foldings_size v_shelves0_holds v_shelves0_body v_shelves0_sort v_shelves0_size v_shelves1_holds v_shelves1_body v_shelves1_sort v_shelves1_size v_shelves2_holds v_shelves2_body v_shelves2_sort v_shelves2_size v_shelves3_holds v_shelves3_body v_shelves3_sort v_shelves3_size v_shelves4_holds v_shelves4_body v_shelves4_sort v_shelves4_size v_shelves5_holds v_shelves5_body v_shelves5_sort v_shelves5_size m_shelf m_many) : ∃ (r : Int32) (p_shelves0_holds : Int32) (p_shelves0_body : Int32) (p_shelves1_holds : Int32) (p_shelves1_body : Int32) (p_shelves2_holds : Int32) (p_shelves2_body : Int32) (p_shelves3_holds : Int32) (p_shelves3_body : Int32) (p_shelves4_holds : Int32) (p_shelves4_body : Int32) (p_shelves5_holds : Int32) (p_shelves5_body : Int32) (q_shelf : List Int32) (q_many : List Int32), fX8_keep 700 x1 x2 v_foldings_size v_shelves0_holds v_shelves0_body v_shelves1_holds v_shelves1_body v_shelves2_holds v_shelves2_body v_shelves3_holds v_shelves3_body v_shelves4_holds v_shelves4_body v_shelves5_holds v_shelves5_body = some (r, p_shelves0_holds, p_shelves0_body, p_shelves1_holds, p_shelves1_body, p_shelves2_holds, p_shelves2_body, p_shelves3_holds, p_shelves3_body, p_shelves4_holds, p_shelves4_body, p_shelves5_holds, p_shelves5_body) ∧ fX9_keep 700 x1 x2 m_bodies m_shelf m_many = some (r, q_shelf, q_many) ∧ gm_sf q_shelf q_many m_items m_carried ∧ rl_bo v_foldings_size v_foldings_kinds m_bodies m_bodyKind ∧ rl_sc v_foldings_size p_shelves0_holds p_shelves0_body v_shelves0_sort v_shelves0_size p_shelves1_holds p_shelves1_body v_shelves1_sort v_shelves1_size p_shelves2_holds p_shelves2_body v_shelves2_sort v_shelves2_size p_shelves3_holds p_shelves3_body v_shelves3_sort v_shelves3_size p_shelves4_holds p_shelves4_body v_shelves4_sort v_shelves4_size p_shelves5_holds p_shelves5_body v_shelves5_sort v_shelves5_size q_shelf q_many := by
  obtain ⟨rfl, rfl⟩ := hr_0
  obtain ⟨a0, a1, -, -, -⟩ := id g8_0
  obtain ⟨b0, b1, -, -, -⟩ := id g9_1
  have X : ∃ (r : Int32) (p_shelves0_holds : Int32) (p_shelves0_body : Int32) (p_shelves1_holds : Int32) (p_shelves1_body : Int32) (p_shelves2_holds : Int32) (p_shelves2_body : Int32) (p_shelves3_holds : Int32) (p_shelves3_body : Int32) (p_shelves4_holds : Int32) (p_shelves4_body : Int32) (p_shelves5_holds : Int32) (p_shelves5_body : Int32) (q_shelf q_many : List Int32), fX8_keep 700 x1 x2 m_bodies v_shelves0_holds v_shelves0_body v_shelves1_holds v_shelves1_body v_shelves2_holds v_shelves2_body v_shelves3_holds v_shelves3_body v_shelves4_holds v_shelves4_body v_shelves5_holds v_shelves5_body = some (r, p_shelves0_holds, p_shelves0_body, p_shelves1_holds, p_shelves1_body, p_shelves2_holds, p_shelves2_body, p_shelves3_holds, p_shelves3_body, p_shelves4_holds, p_shelves4_body, p_shelves5_holds, p_shelves5_body) ∧ fX9_keep 700 x1 x2 m_bodies m_shelf m_many = some (r, q_shelf, q_many) ∧ rl_sc m_bodies p_shelves0_holds p_shelves0_body v_shelves0_sort v_shelves0_size p_shelves1_holds p_shelves1_body v_shelves1_sort v_shelves1_size p_shelves2_holds p_shelves2_body v_shelves2_sort v_shelves2_size p_shelves3_holds p_shelves3_body v_shelves3_sort v_shelves3_size p_shelves4_holds p_shelves4_body v_shelves4_sort v_shelves4_size p_shelves5_holds p_shelves5_body v_shelves5_sort v_shelves5_size q_shelf q_many := by
    unfold fX8_keep fX9_keep
    rw [sh8_e, sh9_e, bs_1, bs_1]
    by_cases hx : 0 ≤ x1.toInt ∧ x1.toInt ≤ 5
    · rw [decide_eq_true hx, if_neg (show ¬ (true = false) by decide), if_neg (show ¬ (true = false) by decide)]
      by_cases e : x2 = (-1 : Int32)
      · rw [if_pos e, if_pos e]
        obtain ⟨p0, p1, p2, p3, p4, p5, p6, p7, p8, p9, p10, p11, q0, q1, f8, f9, R⟩ := kp_ok hx.1 hx.2 b0 b1 a1 (Or.inl e) hr_1
        exact ⟨_, _, _, _, _, _, _, _, _, _, _, _, _, _, _, f8, f9, R⟩
      · rw [if_neg e, if_neg e, hs8_e a0 a1, hs9_e a0 a1, bs_1, bs_1]
        by_cases d : 0 ≤ x2.toInt ∧ x2.toInt < m_bodies.toInt
        · rw [decide_eq_true d, if_neg (show ¬ (true = false) by decide), if_neg (show ¬ (true = false) by decide)]
          obtain ⟨p0, p1, p2, p3, p4, p5, p6, p7, p8, p9, p10, p11, q0, q1, f8, f9, R⟩ := kp_ok hx.1 hx.2 b0 b1 a1 (Or.inr d) hr_1
          exact ⟨_, _, _, _, _, _, _, _, _, _, _, _, _, _, _, f8, f9, R⟩
        · rw [decide_eq_false d, if_pos rfl, if_pos rfl]
          exact ⟨_, _, _, _, _, _, _, _, _, _, _, _, _, _, _, rfl, rfl, hr_1⟩
    · rw [decide_eq_false hx, if_pos rfl, if_pos rfl]
      exact ⟨_, _, _, _, _, _, _, _, _, _, _, _, _, _, _, rfl, rfl, hr_1⟩
  obtain ⟨r, p0, p1, p2, p3, p4, p5, p6, p7, p8, p9, p10, p11, q0, q1, e8, e9, R⟩ := X
  have k9 := wp_get (st9_keep g9_0 g9_1) e9
  exact ⟨_, _, _, _, _, _, _, _, _, _, _, _, _, _, _, e8, e9, k9, ⟨rfl, rfl⟩, R⟩
theorem rw57 (sh mn : List Int32) (x1 : Int32) (hx0 : 0 ≤ x1.toInt) (hx1 : x1.toInt ≤ 5) : ∀ (n : Nat) (x4 : Int32) (items : List Int64), 60 * x1.toInt ≤ x4.toInt → x4.toInt ≤ 60 * x1.toInt + 60 → items.length = 360 → (60 * x1.toInt + 60 - x4.toInt).toNat < n → ∃ it, fX9_row_57 700 n x1 x4 sh mn items = some ((1 : Int32), sh, mn, it) := by
  have n60 : (60 : Int32).toInt = 60 := by decide
  have n1 : (1 : Int32).toInt = 1 := by decide
  have e1 : ((60 : Int32) * x1).toInt = 60 * x1.toInt := i_mulLE n60 rfl (by omega) (by omega)
  have e2 : ((60 : Int32) * x1 + (60 : Int32)).toInt = 60 * x1.toInt + 60 := by rw [i_addE rfl (by omega) (by omega), e1, n60]
  intro n
  induction n with
  | zero => intro x4 items h1 h2 h3 h4; exact absurd h4 (by omega)
  | succ n ih =>
    intro x4 items h1 h2 h3 h4
    rw [uf_X9_row_57]
    by_cases c : (60 : Int32) * x1 + (60 : Int32) ≤ x4
    · rw [if_pos c]
      exact ⟨_, rfl⟩
    · rw [if_neg c]
      rw [Int32.le_iff_toInt_le, e2] at c
      have e3 : (x4 + (1 : Int32)).toInt = x4.toInt + 1 := by rw [i_addE rfl (by omega) (by omega), n1]
      rw [ck_t (i_inb (by omega) (by omega)), nm_eq, nm_eq]
      exact ih _ _ (by omega) (by omega) (by rw [ls_len]; exact h3) (by omega)
theorem rw_ok {x1 x2 x3 : Int32} {v_foldings_size : Int32} {v_shelves0_holds : Int32} {v_shelves0_body : Int32} {v_shelves0_sort : Int32} {v_shelves0_size : Int32} {v_shelves1_holds : Int32} {v_shelves1_body : Int32} {v_shelves1_sort : Int32} {v_shelves1_size : Int32} {v_shelves2_holds : Int32} {v_shelves2_body : Int32} {v_shelves2_sort : Int32} {v_shelves2_size : Int32} {v_shelves3_holds : Int32} {v_shelves3_body : Int32} {v_shelves3_sort : Int32} {v_shelves3_size : Int32} {v_shelves4_holds : Int32} {v_shelves4_body : Int32} {v_shelves4_sort : Int32} {v_shelves4_size : Int32} {v_shelves5_holds : Int32} {v_shelves5_body : Int32} {v_shelves5_sort : Int32} {v_shelves5_size : Int32} {m_shelf m_many : List Int32} {m_items : List Int64} {v_shelves0_items : List Int64} {v_shelves1_items : List Int64} {v_shelves2_items : List Int64} {v_shelves3_items : List Int64} {v_shelves4_items : List Int64} {v_shelves5_items : List Int64} {r8 r9 : Int32} {p_shelves0_holds : Int32} {p_shelves0_sort : Int32} {p_shelves0_size : Int32} {p_shelves0_items : List Int64} {p_shelves1_holds : Int32} {p_shelves1_sort : Int32} {p_shelves1_size : Int32} {p_shelves1_items : List Int64} {p_shelves2_holds : Int32} {p_shelves2_sort : Int32} {p_shelves2_size : Int32} {p_shelves2_items : List Int64} {p_shelves3_holds : Int32} {p_shelves3_sort : Int32} {p_shelves3_size : Int32} {p_shelves3_items : List Int64} {p_shelves4_holds : Int32} {p_shelves4_sort : Int32} {p_shelves4_size : Int32} {p_shelves4_items : List Int64} {p_shelves5_holds : Int32} {p_shelves5_sort : Int32} {p_shelves5_size : Int32} {p_shelves5_items : List Int64} {q_shelf q_many : List Int32} {q_items : List Int64} (hx0 : 0 ≤ x1.toInt) (hx1 : x1.toInt ≤ 5) (hy0 : 0 ≤ x2.toInt) (hy1 : x2.toInt ≤ 4) (hs : m_shelf.length = 6) (hm : m_many.length = 6) (hi : m_items.length = 360) (l0 : v_shelves0_items.length = 60) (l1 : v_shelves1_items.length = 60) (l2 : v_shelves2_items.length = 60) (l3 : v_shelves3_items.length = 60) (l4 : v_shelves4_items.length = 60) (l5 : v_shelves5_items.length = 60) (H : rl_sc v_foldings_size v_shelves0_holds v_shelves0_body v_shelves0_sort v_shelves0_size v_shelves1_holds v_shelves1_body v_shelves1_sort v_shelves1_size v_shelves2_holds v_shelves2_body v_shelves2_sort v_shelves2_size v_shelves3_holds v_shelves3_body v_shelves3_sort v_shelves3_size v_shelves4_holds v_shelves4_body v_shelves4_sort v_shelves4_size v_shelves5_holds v_shelves5_body v_shelves5_sort v_shelves5_size m_shelf m_many) (e8 : fX8_row 700 x1 x2 x3 v_shelves0_holds v_shelves0_sort v_shelves0_size v_shelves0_items v_shelves1_holds v_shelves1_sort v_shelves1_size v_shelves1_items v_shelves2_holds v_shelves2_sort v_shelves2_size v_shelves2_items v_shelves3_holds v_shelves3_sort v_shelves3_size v_shelves3_items v_shelves4_holds v_shelves4_sort v_shelves4_size v_shelves4_items v_shelves5_holds v_shelves5_sort v_shelves5_size v_shelves5_items = some (r8, p_shelves0_holds, p_shelves0_sort, p_shelves0_size, p_shelves0_items, p_shelves1_holds, p_shelves1_sort, p_shelves1_size, p_shelves1_items, p_shelves2_holds, p_shelves2_sort, p_shelves2_size, p_shelves2_items, p_shelves3_holds, p_shelves3_sort, p_shelves3_size, p_shelves3_items, p_shelves4_holds, p_shelves4_sort, p_shelves4_size, p_shelves4_items, p_shelves5_holds, p_shelves5_sort, p_shelves5_size, p_shelves5_items)) (e9 : fX9_row 700 x1 x2 x3 m_shelf m_many m_items = some (r9, q_shelf, q_many, q_items)) (hz0 : 0 ≤ x3.toInt) (hz1 : x3.toInt ≤ 60) : rl_sc v_foldings_size p_shelves0_holds v_shelves0_body p_shelves0_sort p_shelves0_size p_shelves1_holds v_shelves1_body p_shelves1_sort p_shelves1_size p_shelves2_holds v_shelves2_body p_shelves2_sort p_shelves2_size p_shelves3_holds v_shelves3_body p_shelves3_sort p_shelves3_size p_shelves4_holds v_shelves4_body p_shelves4_sort p_shelves4_size p_shelves5_holds v_shelves5_body p_shelves5_sort p_shelves5_size q_shelf q_many := by
  obtain ⟨c0, c1, c2, c3, c4, c5⟩ := H
  have n60 : (60 : Int32).toInt = 60 := by decide
  have n50 : (50 : Int32).toInt = 50 := by decide
  have n5 : (5 : Int32).toInt = 5 := by decide
  have n0 : (0 : Int32).toInt = 0 := by decide
  have m0 : (0 : Int64).toInt = 0 := by decide
  have m4 : (4 : Int64).toInt = 4 := by decide
  have my := i_64 x2
  unfold fX9_row at e9
  rw [sh9_e, decide_eq_true ⟨hx0, hx1⟩, bs_1, if_neg (show ¬ (true = false) by decide)] at e9
  obtain ⟨w, ew, qw⟩ := sf_X9_within (Nat.le_refl 700) (x0 := x2.toInt64) (x2 := 0) (x4 := 4)
  rw [my, m0, m4] at qw
  rcases qw with ⟨rfl, q0, q1⟩ | ⟨rfl, q0⟩
  case inr => exact absurd q0 (by omega)
  rw [ew, bs_1, if_neg (show ¬ (true = false) by decide), if_pos (show x3 ≤ (60 : Int32) by rw [Int32.le_iff_toInt_le]; omega), if_pos (show 0 ≤ x3 by rw [Int32.le_iff_toInt_le]; omega), nm_eq, ck_t (i_inb (by omega) (by omega)), nm_eq, ck_t (i_inb (by omega) (by omega)), nm_eq, nm_eq] at e9
  have e1 : ((60 : Int32) * x1).toInt = 60 * x1.toInt := i_mulLE n60 rfl (by omega) (by omega)
  obtain ⟨it, eit⟩ := rw57 (mm_is m_shelf x1 ((50 : Int32) + x2)) (mm_is m_many x1 x3) x1 hx0 hx1 700 ((60 : Int32) * x1) m_items (by omega) (by omega) hi (by omega)
  rw [eit] at e9
  injection e9 with e9
  injection e9 with z0 e9
  injection e9 with z1 e9
  injection e9 with z2 e9
  subst z1
  subst z2
  unfold fX8_row fX6_holdRow at e8
  rw [sh8_e, decide_eq_true ⟨hx0, hx1⟩, bs_1, if_neg (show ¬ (true = false) by decide), if_neg (show ¬ x2 < 0 by rw [Int32.lt_iff_toInt_lt]; omega), if_neg (show ¬ (5 : Int32) ≤ x2 by rw [Int32.le_iff_toInt_le]; omega), if_pos (show x3 ≤ (60 : Int32) by rw [Int32.le_iff_toInt_le]; omega), if_pos (show 0 ≤ x3 by rw [Int32.le_iff_toInt_le]; omega)] at e8
  rcases k6 hx0 hx1 with rfl | rfl | rfl | rfl | rfl | rfl
  · rw [if_pos rfl] at e8
    obtain ⟨w, ew, -⟩ := sf_J7_fill_d0a16 (Nat.le_refl 700) (x1 := (0 : Int64)) (p0_row := v_shelves0_items) (by omega) (by omega)
    rw [ew, bs_1, bs_4] at e8
    injection e8 with e8
    injection e8 with s0 e8
    injection e8 with s1 e8
    injection e8 with s2 e8
    injection e8 with s3 e8
    injection e8 with s4 e8
    injection e8 with s5 e8
    injection e8 with s6 e8
    injection e8 with s7 e8
    injection e8 with s8 e8
    injection e8 with s9 e8
    injection e8 with s10 e8
    injection e8 with s11 e8
    injection e8 with s12 e8
    injection e8 with s13 e8
    injection e8 with s14 e8
    injection e8 with s15 e8
    injection e8 with s16 e8
    injection e8 with s17 e8
    injection e8 with s18 e8
    injection e8 with s19 e8
    injection e8 with s20 e8
    injection e8 with s21 e8
    injection e8 with s22 e8
    injection e8 with s23 e8
    subst s1 s2 s3 s4 s5 s6 s7 s8 s9 s10 s11 s12 s13 s14 s15 s16 s17 s18 s19 s20 s21 s22 s23
    exact ⟨Or.inr (Or.inr ⟨rfl, ig_eq (by decide) (by omega), hy0, hy1, ig_eq (by decide) (by omega)⟩), sc1_ne hs hm (by decide) (by decide) (by decide) (by decide) c1, sc1_ne hs hm (by decide) (by decide) (by decide) (by decide) c2, sc1_ne hs hm (by decide) (by decide) (by decide) (by decide) c3, sc1_ne hs hm (by decide) (by decide) (by decide) (by decide) c4, sc1_ne hs hm (by decide) (by decide) (by decide) (by decide) c5⟩
  · rw [if_neg (show ¬ (1 : Int32) = 0 by decide), if_pos rfl] at e8
    obtain ⟨w, ew, -⟩ := sf_J7_fill_d0a16 (Nat.le_refl 700) (x1 := (0 : Int64)) (p0_row := v_shelves1_items) (by omega) (by omega)
    rw [ew, bs_1, bs_4] at e8
    injection e8 with e8
    injection e8 with s0 e8
    injection e8 with s1 e8
    injection e8 with s2 e8
    injection e8 with s3 e8
    injection e8 with s4 e8
    injection e8 with s5 e8
    injection e8 with s6 e8
    injection e8 with s7 e8
    injection e8 with s8 e8
    injection e8 with s9 e8
    injection e8 with s10 e8
    injection e8 with s11 e8
    injection e8 with s12 e8
    injection e8 with s13 e8
    injection e8 with s14 e8
    injection e8 with s15 e8
    injection e8 with s16 e8
    injection e8 with s17 e8
    injection e8 with s18 e8
    injection e8 with s19 e8
    injection e8 with s20 e8
    injection e8 with s21 e8
    injection e8 with s22 e8
    injection e8 with s23 e8
    subst s1 s2 s3 s4 s5 s6 s7 s8 s9 s10 s11 s12 s13 s14 s15 s16 s17 s18 s19 s20 s21 s22 s23
    exact ⟨sc1_ne hs hm (by decide) (by decide) (by decide) (by decide) c0, Or.inr (Or.inr ⟨rfl, ig_eq (by decide) (by omega), hy0, hy1, ig_eq (by decide) (by omega)⟩), sc1_ne hs hm (by decide) (by decide) (by decide) (by decide) c2, sc1_ne hs hm (by decide) (by decide) (by decide) (by decide) c3, sc1_ne hs hm (by decide) (by decide) (by decide) (by decide) c4, sc1_ne hs hm (by decide) (by decide) (by decide) (by decide) c5⟩
  · rw [if_neg (show ¬ (2 : Int32) = 0 by decide), if_neg (show ¬ (2 : Int32) = 1 by decide), if_pos rfl] at e8
    obtain ⟨w, ew, -⟩ := sf_J7_fill_d0a16 (Nat.le_refl 700) (x1 := (0 : Int64)) (p0_row := v_shelves2_items) (by omega) (by omega)
    rw [ew, bs_1, bs_4] at e8
    injection e8 with e8
    injection e8 with s0 e8
    injection e8 with s1 e8
    injection e8 with s2 e8
    injection e8 with s3 e8
    injection e8 with s4 e8
    injection e8 with s5 e8
    injection e8 with s6 e8
    injection e8 with s7 e8
    injection e8 with s8 e8
    injection e8 with s9 e8
    injection e8 with s10 e8
    injection e8 with s11 e8
    injection e8 with s12 e8
    injection e8 with s13 e8
    injection e8 with s14 e8
    injection e8 with s15 e8
    injection e8 with s16 e8
    injection e8 with s17 e8
    injection e8 with s18 e8
    injection e8 with s19 e8
    injection e8 with s20 e8
    injection e8 with s21 e8
    injection e8 with s22 e8
    injection e8 with s23 e8
    subst s1 s2 s3 s4 s5 s6 s7 s8 s9 s10 s11 s12 s13 s14 s15 s16 s17 s18 s19 s20 s21 s22 s23
    exact ⟨sc1_ne hs hm (by decide) (by decide) (by decide) (by decide) c0, sc1_ne hs hm (by decide) (by decide) (by decide) (by decide) c1, Or.inr (Or.inr ⟨rfl, ig_eq (by decide) (by omega), hy0, hy1, ig_eq (by decide) (by omega)⟩), sc1_ne hs hm (by decide) (by decide) (by decide) (by decide) c3, sc1_ne hs hm (by decide) (by decide) (by decide) (by decide) c4, sc1_ne hs hm (by decide) (by decide) (by decide) (by decide) c5⟩
  · rw [if_neg (show ¬ (3 : Int32) = 0 by decide), if_neg (show ¬ (3 : Int32) = 1 by decide), if_neg (show ¬ (3 : Int32) = 2 by decide), if_pos rfl] at e8
    obtain ⟨w, ew, -⟩ := sf_J7_fill_d0a16 (Nat.le_refl 700) (x1 := (0 : Int64)) (p0_row := v_shelves3_items) (by omega) (by omega)
    rw [ew, bs_1, bs_4] at e8
    injection e8 with e8
    injection e8 with s0 e8
    injection e8 with s1 e8
    injection e8 with s2 e8
    injection e8 with s3 e8
    injection e8 with s4 e8
    injection e8 with s5 e8
    injection e8 with s6 e8
    injection e8 with s7 e8
    injection e8 with s8 e8
    injection e8 with s9 e8
    injection e8 with s10 e8
    injection e8 with s11 e8
    injection e8 with s12 e8
    injection e8 with s13 e8
    injection e8 with s14 e8
    injection e8 with s15 e8
    injection e8 with s16 e8
    injection e8 with s17 e8
    injection e8 with s18 e8
    injection e8 with s19 e8
    injection e8 with s20 e8
    injection e8 with s21 e8
    injection e8 with s22 e8
    injection e8 with s23 e8
    subst s1 s2 s3 s4 s5 s6 s7 s8 s9 s10 s11 s12 s13 s14 s15 s16 s17 s18 s19 s20 s21 s22 s23
    exact ⟨sc1_ne hs hm (by decide) (by decide) (by decide) (by decide) c0, sc1_ne hs hm (by decide) (by decide) (by decide) (by decide) c1, sc1_ne hs hm (by decide) (by decide) (by decide) (by decide) c2, Or.inr (Or.inr ⟨rfl, ig_eq (by decide) (by omega), hy0, hy1, ig_eq (by decide) (by omega)⟩), sc1_ne hs hm (by decide) (by decide) (by decide) (by decide) c4, sc1_ne hs hm (by decide) (by decide) (by decide) (by decide) c5⟩
  · rw [if_neg (show ¬ (4 : Int32) = 0 by decide), if_neg (show ¬ (4 : Int32) = 1 by decide), if_neg (show ¬ (4 : Int32) = 2 by decide), if_neg (show ¬ (4 : Int32) = 3 by decide), if_pos rfl] at e8
    obtain ⟨w, ew, -⟩ := sf_J7_fill_d0a16 (Nat.le_refl 700) (x1 := (0 : Int64)) (p0_row := v_shelves4_items) (by omega) (by omega)
    rw [ew, bs_1, bs_4] at e8
    injection e8 with e8
    injection e8 with s0 e8
    injection e8 with s1 e8
    injection e8 with s2 e8
    injection e8 with s3 e8
    injection e8 with s4 e8
    injection e8 with s5 e8
    injection e8 with s6 e8
    injection e8 with s7 e8
    injection e8 with s8 e8
    injection e8 with s9 e8
    injection e8 with s10 e8
    injection e8 with s11 e8
    injection e8 with s12 e8
    injection e8 with s13 e8
    injection e8 with s14 e8
    injection e8 with s15 e8
    injection e8 with s16 e8
    injection e8 with s17 e8
    injection e8 with s18 e8
    injection e8 with s19 e8
    injection e8 with s20 e8
    injection e8 with s21 e8
    injection e8 with s22 e8
    injection e8 with s23 e8
    subst s1 s2 s3 s4 s5 s6 s7 s8 s9 s10 s11 s12 s13 s14 s15 s16 s17 s18 s19 s20 s21 s22 s23
    exact ⟨sc1_ne hs hm (by decide) (by decide) (by decide) (by decide) c0, sc1_ne hs hm (by decide) (by decide) (by decide) (by decide) c1, sc1_ne hs hm (by decide) (by decide) (by decide) (by decide) c2, sc1_ne hs hm (by decide) (by decide) (by decide) (by decide) c3, Or.inr (Or.inr ⟨rfl, ig_eq (by decide) (by omega), hy0, hy1, ig_eq (by decide) (by omega)⟩), sc1_ne hs hm (by decide) (by decide) (by decide) (by decide) c5⟩
  · rw [if_neg (show ¬ (5 : Int32) = 0 by decide), if_neg (show ¬ (5 : Int32) = 1 by decide), if_neg (show ¬ (5 : Int32) = 2 by decide), if_neg (show ¬ (5 : Int32) = 3 by decide), if_neg (show ¬ (5 : Int32) = 4 by decide), if_pos rfl] at e8
    obtain ⟨w, ew, -⟩ := sf_J7_fill_d0a16 (Nat.le_refl 700) (x1 := (0 : Int64)) (p0_row := v_shelves5_items) (by omega) (by omega)
    rw [ew, bs_1, bs_4] at e8
    injection e8 with e8
    injection e8 with s0 e8
    injection e8 with s1 e8
    injection e8 with s2 e8
    injection e8 with s3 e8
    injection e8 with s4 e8
    injection e8 with s5 e8
    injection e8 with s6 e8
    injection e8 with s7 e8
    injection e8 with s8 e8
    injection e8 with s9 e8
    injection e8 with s10 e8
    injection e8 with s11 e8
    injection e8 with s12 e8
    injection e8 with s13 e8
    injection e8 with s14 e8
    injection e8 with s15 e8
    injection e8 with s16 e8
    injection e8 with s17 e8
    injection e8 with s18 e8
    injection e8 with s19 e8
    injection e8 with s20 e8
    injection e8 with s21 e8
    injection e8 with s22 e8
    injection e8 with s23 e8
    subst s1 s2 s3 s4 s5 s6 s7 s8 s9 s10 s11 s12 s13 s14 s15 s16 s17 s18 s19 s20 s21 s22 s23
    exact ⟨sc1_ne hs hm (by decide) (by decide) (by decide) (by decide) c0, sc1_ne hs hm (by decide) (by decide) (by decide) (by decide) c1, sc1_ne hs hm (by decide) (by decide) (by decide) (by decide) c2, sc1_ne hs hm (by decide) (by decide) (by decide) (by decide) c3, sc1_ne hs hm (by decide) (by decide) (by decide) (by decide) c4, Or.inr (Or.inr ⟨rfl, ig_eq (by decide) (by omega), hy0, hy1, ig_eq (by decide) (by omega)⟩)⟩
theorem rs_row_sc {x1 : Int32} {x2 : Int32} {x3 : Int32} {v_shelves0_holds : Int32} {v_shelves0_sort : Int32} {v_shelves0_size : Int32} {v_shelves0_items : List Int64} {v_shelves1_holds : Int32} {v_shelves1_sort : Int32} {v_shelves1_size : Int32} {v_shelves1_items : List Int64} {v_shelves2_holds : Int32} {v_shelves2_sort : Int32} {v_shelves2_size : Int32} {v_shelves2_items : List Int64} {v_shelves3_holds : Int32} {v_shelves3_sort : Int32} {v_shelves3_size : Int32} {v_shelves3_items : List Int64} {v_shelves4_holds : Int32} {v_shelves4_sort : Int32} {v_shelves4_size : Int32} {v_shelves4_items : List Int64} {v_shelves5_holds : Int32} {v_shelves5_sort : Int32} {v_shelves5_size : Int32} {v_shelves5_items : List Int64} {v_foldings_size : Int32} {v_shelves0_body : Int32} {v_shelves1_body : Int32} {v_shelves2_body : Int32} {v_shelves3_body : Int32} {v_shelves4_body : Int32} {v_shelves5_body : Int32} {m_shelf : List Int32} {m_many : List Int32} {m_items : List Int64} {m_carried : List Int64} (g8_0 : gi_sf v_shelves0_size v_shelves0_items) (g8_1 : gi_sf v_shelves1_size v_shelves1_items) (g8_2 : gi_sf v_shelves2_size v_shelves2_items) (g8_3 : gi_sf v_shelves3_size v_shelves3_items) (g8_4 : gi_sf v_shelves4_size v_shelves4_items) (g8_5 : gi_sf v_shelves5_size v_shelves5_items) (g9_0 : gm_sf m_shelf m_many m_items m_carried) (hr_0 : rl_sc v_foldings_size v_shelves0_holds v_shelves0_body v_shelves0_sort v_shelves0_size v_shelves1_holds v_shelves1_body v_shelves1_sort v_shelves1_size v_shelves2_holds v_shelves2_body v_shelves2_sort v_shelves2_size v_shelves3_holds v_shelves3_body v_shelves3_sort v_shelves3_size v_shelves4_holds v_shelves4_body v_shelves4_sort v_shelves4_size v_shelves5_holds v_shelves5_body v_shelves5_sort v_shelves5_size m_shelf m_many) : ∃ (r : Int32) (p_shelves0_holds : Int32) (p_shelves0_sort : Int32) (p_shelves0_size : Int32) (p_shelves0_items : List Int64) (p_shelves1_holds : Int32) (p_shelves1_sort : Int32) (p_shelves1_size : Int32) (p_shelves1_items : List Int64) (p_shelves2_holds : Int32) (p_shelves2_sort : Int32) (p_shelves2_size : Int32) (p_shelves2_items : List Int64) (p_shelves3_holds : Int32) (p_shelves3_sort : Int32) (p_shelves3_size : Int32) (p_shelves3_items : List Int64) (p_shelves4_holds : Int32) (p_shelves4_sort : Int32) (p_shelves4_size : Int32) (p_shelves4_items : List Int64) (p_shelves5_holds : Int32) (p_shelves5_sort : Int32) (p_shelves5_size : Int32) (p_shelves5_items : List Int64) (q_shelf : List Int32) (q_many : List Int32) (q_items : List Int64), fX8_row 700 x1 x2 x3 v_shelves0_holds v_shelves0_sort v_shelves0_size v_shelves0_items v_shelves1_holds v_shelves1_sort v_shelves1_size v_shelves1_items v_shelves2_holds v_shelves2_sort v_shelves2_size v_shelves2_items v_shelves3_holds v_shelves3_sort v_shelves3_size v_shelves3_items v_shelves4_holds v_shelves4_sort v_shelves4_size v_shelves4_items v_shelves5_holds v_shelves5_sort v_shelves5_size v_shelves5_items = some (r, p_shelves0_holds, p_shelves0_sort, p_shelves0_size, p_shelves0_items, p_shelves1_holds, p_shelves1_sort, p_shelves1_size, p_shelves1_items, p_shelves2_holds, p_shelves2_sort, p_shelves2_size, p_shelves2_items, p_shelves3_holds, p_shelves3_sort, p_shelves3_size, p_shelves3_items, p_shelves4_holds, p_shelves4_sort, p_shelves4_size, p_shelves4_items, p_shelves5_holds, p_shelves5_sort, p_shelves5_size, p_shelves5_items) ∧ fX9_row 700 x1 x2 x3 m_shelf m_many m_items = some (r, q_shelf, q_many, q_items) ∧ gi_sf p_shelves0_size p_shelves0_items ∧ gi_sf p_shelves1_size p_shelves1_items ∧ gi_sf p_shelves2_size p_shelves2_items ∧ gi_sf p_shelves3_size p_shelves3_items ∧ gi_sf p_shelves4_size p_shelves4_items ∧ gi_sf p_shelves5_size p_shelves5_items ∧ gm_sf q_shelf q_many q_items m_carried ∧ rl_sc v_foldings_size p_shelves0_holds v_shelves0_body p_shelves0_sort p_shelves0_size p_shelves1_holds v_shelves1_body p_shelves1_sort p_shelves1_size p_shelves2_holds v_shelves2_body p_shelves2_sort p_shelves2_size p_shelves3_holds v_shelves3_body p_shelves3_sort p_shelves3_size p_shelves4_holds v_shelves4_body p_shelves4_sort p_shelves4_size p_shelves5_holds v_shelves5_body p_shelves5_sort p_shelves5_size q_shelf q_many := by
  obtain ⟨b0, b1, b2, b3, b4⟩ := id g9_0
  obtain ⟨-, -, l0⟩ := id g8_0
  obtain ⟨-, -, l1⟩ := id g8_1
  obtain ⟨-, -, l2⟩ := id g8_2
  obtain ⟨-, -, l3⟩ := id g8_3
  obtain ⟨-, -, l4⟩ := id g8_4
  obtain ⟨-, -, l5⟩ := id g8_5
  have n60 : (60 : Int32).toInt = 60 := by decide
  have n5 : (5 : Int32).toInt = 5 := by decide
  have n0 : (0 : Int32).toInt = 0 := by decide
  have m0 : (0 : Int64).toInt = 0 := by decide
  have m4 : (4 : Int64).toInt = 4 := by decide
  have my := i_64 x2
  by_cases ok : (0 ≤ x1.toInt ∧ x1.toInt ≤ 5) ∧ (0 ≤ x2.toInt ∧ x2.toInt ≤ 4) ∧ (0 ≤ x3.toInt ∧ x3.toInt ≤ 60)
  · obtain ⟨⟨r8, p0, p1, p2, p3, p4, p5, p6, p7, p8, p9, p10, p11, p12, p13, p14, p15, p16, p17, p18, p19, p20, p21, p22, p23⟩, e8, h8⟩ := sx8_row (x1 := x1) (x2 := x2) (x3 := x3) (v_shelves0_holds := v_shelves0_holds) (v_shelves0_sort := v_shelves0_sort) (v_shelves1_holds := v_shelves1_holds) (v_shelves1_sort := v_shelves1_sort) (v_shelves2_holds := v_shelves2_holds) (v_shelves2_sort := v_shelves2_sort) (v_shelves3_holds := v_shelves3_holds) (v_shelves3_sort := v_shelves3_sort) (v_shelves4_holds := v_shelves4_holds) (v_shelves4_sort := v_shelves4_sort) (v_shelves5_holds := v_shelves5_holds) (v_shelves5_sort := v_shelves5_sort) g8_0 g8_1 g8_2 g8_3 g8_4 g8_5
    obtain ⟨⟨r9, q0, q1, q2⟩, e9, h9⟩ := sx9_row (x1 := x1) (x2 := x2) (x3 := x3) g9_0
    simp only [cu25] at h8
    simp only [cu4] at h9
    have er : r9 = r8 := ti_eq (by omega)
    subst er
    have R := rw_ok ok.1.1 ok.1.2 ok.2.1.1 ok.2.1.2 b0 b1 b2 l0 l1 l2 l3 l4 l5 hr_0 e8 e9 ok.2.2.1 ok.2.2.2
    have k8 := wp_get (st8_row g8_0 g8_1 g8_2 g8_3 g8_4 g8_5) e8
    have k9 := wp_get (st9_row g9_0) e9
    exact ⟨_, _, _, _, _, _, _, _, _, _, _, _, _, _, _, _, _, _, _, _, _, _, _, _, _, _, _, _, e8, e9, k8.1, k8.2.1, k8.2.2.1, k8.2.2.2.1, k8.2.2.2.2.1, k8.2.2.2.2.2, k9, R⟩
  · have X : ∃ r : Int32, fX8_row 700 x1 x2 x3 v_shelves0_holds v_shelves0_sort v_shelves0_size v_shelves0_items v_shelves1_holds v_shelves1_sort v_shelves1_size v_shelves1_items v_shelves2_holds v_shelves2_sort v_shelves2_size v_shelves2_items v_shelves3_holds v_shelves3_sort v_shelves3_size v_shelves3_items v_shelves4_holds v_shelves4_sort v_shelves4_size v_shelves4_items v_shelves5_holds v_shelves5_sort v_shelves5_size v_shelves5_items = some (r, v_shelves0_holds, v_shelves0_sort, v_shelves0_size, v_shelves0_items, v_shelves1_holds, v_shelves1_sort, v_shelves1_size, v_shelves1_items, v_shelves2_holds, v_shelves2_sort, v_shelves2_size, v_shelves2_items, v_shelves3_holds, v_shelves3_sort, v_shelves3_size, v_shelves3_items, v_shelves4_holds, v_shelves4_sort, v_shelves4_size, v_shelves4_items, v_shelves5_holds, v_shelves5_sort, v_shelves5_size, v_shelves5_items) ∧ fX9_row 700 x1 x2 x3 m_shelf m_many m_items = some (r, m_shelf, m_many, m_items) := by
      unfold fX8_row fX9_row
      rw [sh8_e, sh9_e, bs_1, bs_1]
      by_cases hx : 0 ≤ x1.toInt ∧ x1.toInt ≤ 5
      · rw [decide_eq_true hx, if_neg (show ¬ (true = false) by decide), if_neg (show ¬ (true = false) by decide)]
        obtain ⟨w, ew, qw⟩ := sf_X9_within (Nat.le_refl 700) (x0 := x2.toInt64) (x2 := 0) (x4 := 4)
        rw [ew, bs_1]
        rw [my, m0, m4] at qw
        rcases qw with ⟨rfl, y0, y1⟩ | ⟨rfl, y0⟩
        · rw [if_neg (show ¬ x2 < 0 by rw [Int32.lt_iff_toInt_lt]; omega), if_neg (show ¬ (5 : Int32) ≤ x2 by rw [Int32.le_iff_toInt_le]; omega), if_neg (show ¬ (true = false) by decide)]
          by_cases hz : x3 ≤ (60 : Int32)
          · rw [if_pos hz, if_pos hz]
            by_cases h0 : 0 ≤ x3
            · rw [Int32.le_iff_toInt_le] at hz h0
              exact absurd ⟨hx, ⟨y0, y1⟩, by omega, by omega⟩ ok
            · rw [if_neg h0, if_neg h0]
              exact ⟨_, rfl, rfl⟩
          · rw [if_neg hz, if_neg hz]
            exact ⟨_, rfl, rfl⟩
        · rw [if_pos (rfl : false = false)]
          by_cases c : x2 < 0
          · rw [if_pos c]
            exact ⟨_, rfl, rfl⟩
          · rw [if_neg c, if_pos (show (5 : Int32) ≤ x2 by rw [Int32.lt_iff_toInt_lt] at c; rw [Int32.le_iff_toInt_le]; omega)]
            exact ⟨_, rfl, rfl⟩
      · rw [decide_eq_false hx, if_pos rfl, if_pos rfl]
        exact ⟨_, rfl, rfl⟩
    obtain ⟨r, e8, e9⟩ := X
    have k8 := wp_get (st8_row g8_0 g8_1 g8_2 g8_3 g8_4 g8_5) e8
    have k9 := wp_get (st9_row g9_0) e9
    exact ⟨_, _, _, _, _, _, _, _, _, _, _, _, _, _, _, _, _, _, _, _, _, _, _, _, _, _, _, _, e8, e9, k8.1, k8.2.1, k8.2.2.1, k8.2.2.2.1, k8.2.2.2.2.1, k8.2.2.2.2.2, k9, hr_0⟩
theorem hp1 {x s : Int32} (h0 : 0 ≤ s.toInt) (h1 : s.toInt ≤ 60) : fX6_hasPart 700 x (1 : Int32) s = some (decide (0 ≤ x.toInt ∧ x.toInt < s.toInt)) := by
  have n0 : (0 : Int32).toInt = 0 := by decide
  have n1 : (1 : Int32).toInt = 1 := by decide
  have hx := Int32.toInt_lt x
  unfold fX6_hasPart
  by_cases c : x < 0
  · rw [if_pos c, decide_eq_false (by rw [Int32.lt_iff_toInt_lt] at c; omega)]
  · rw [if_neg c]
    rw [Int32.lt_iff_toInt_lt] at c
    by_cases d : s < x
    · rw [if_pos d, decide_eq_false (by rw [Int32.lt_iff_toInt_lt] at d; omega)]
    · rw [if_neg d]
      rw [Int32.lt_iff_toInt_lt] at d
      have e : (s - x).toInt = s.toInt - x.toInt := by rw [i_subE rfl (by omega) (by omega)]
      by_cases f : s - x < (1 : Int32)
      · rw [if_pos f, decide_eq_false (by rw [Int32.lt_iff_toInt_lt, e] at f; omega)]
      · rw [if_neg f, decide_eq_true (by rw [Int32.lt_iff_toInt_lt, e] at f; omega)]
theorem rf_e {x1 x2 : Int32} {v_foldings_size : Int32} {v_shelves0_holds : Int32} {v_shelves0_body : Int32} {v_shelves0_sort : Int32} {v_shelves0_size : Int32} {v_shelves1_holds : Int32} {v_shelves1_body : Int32} {v_shelves1_sort : Int32} {v_shelves1_size : Int32} {v_shelves2_holds : Int32} {v_shelves2_body : Int32} {v_shelves2_sort : Int32} {v_shelves2_size : Int32} {v_shelves3_holds : Int32} {v_shelves3_body : Int32} {v_shelves3_sort : Int32} {v_shelves3_size : Int32} {v_shelves4_holds : Int32} {v_shelves4_body : Int32} {v_shelves4_sort : Int32} {v_shelves4_size : Int32} {v_shelves5_holds : Int32} {v_shelves5_body : Int32} {v_shelves5_sort : Int32} {v_shelves5_size : Int32} {m_shelf m_many : List Int32} (hs : m_shelf.length = 6) (hm : m_many.length = 6) (a0 : 0 ≤ v_shelves0_size.toInt) (b0 : v_shelves0_size.toInt ≤ 60) (a1 : 0 ≤ v_shelves1_size.toInt) (b1 : v_shelves1_size.toInt ≤ 60) (a2 : 0 ≤ v_shelves2_size.toInt) (b2 : v_shelves2_size.toInt ≤ 60) (a3 : 0 ≤ v_shelves3_size.toInt) (b3 : v_shelves3_size.toInt ≤ 60) (a4 : 0 ≤ v_shelves4_size.toInt) (b4 : v_shelves4_size.toInt ≤ 60) (a5 : 0 ≤ v_shelves5_size.toInt) (b5 : v_shelves5_size.toInt ≤ 60) (H : rl_sc v_foldings_size v_shelves0_holds v_shelves0_body v_shelves0_sort v_shelves0_size v_shelves1_holds v_shelves1_body v_shelves1_sort v_shelves1_size v_shelves2_holds v_shelves2_body v_shelves2_sort v_shelves2_size v_shelves3_holds v_shelves3_body v_shelves3_sort v_shelves3_size v_shelves4_holds v_shelves4_body v_shelves4_sort v_shelves4_size v_shelves5_holds v_shelves5_body v_shelves5_sort v_shelves5_size m_shelf m_many) : ∃ r : Int32, fX8_refusedElement 700 x1 x2 v_shelves0_holds v_shelves0_size v_shelves1_holds v_shelves1_size v_shelves2_holds v_shelves2_size v_shelves3_holds v_shelves3_size v_shelves4_holds v_shelves4_size v_shelves5_holds v_shelves5_size = some r ∧ fX9_refusal 700 x1 x2 m_shelf m_many = some r ∧ (r = 0 → 0 ≤ x1.toInt ∧ x1.toInt ≤ 5) := by
  obtain ⟨c0, c1, c2, c3, c4, c5⟩ := H
  have n0 : (0 : Int32).toInt = 0 := by decide
  have n50 : (50 : Int32).toInt = 50 := by decide
  unfold fX8_refusedElement fX9_refusal
  rw [sh8_e, sh9_e, bs_1, bs_1]
  by_cases hx : 0 ≤ x1.toInt ∧ x1.toInt ≤ 5
  · rw [decide_eq_true hx, if_neg (show ¬ (true = false) by decide), if_neg (show ¬ (true = false) by decide), ck_t (i_inb hx.1 (by omega))]
    rcases k6 hx.1 hx.2 with rfl | rfl | rfl | rfl | rfl | rfl
    · rw [if_pos (rfl : (0 : Int32) = 0)]
      rcases c0 with ⟨h1, h2⟩ | ⟨h1, h2, h3, h4, h5⟩ | ⟨h1, h2, h3, h4, h5⟩
      · rw [h1, h2, if_pos rfl, if_neg (show ¬ 0 ≤ (-1 : Int32) by decide)]
        exact ⟨_, rfl, rfl, fun _ => hx⟩
      · rw [h1, h2, if_neg (show ¬ (1 : Int32) = 0 by decide), if_pos rfl, if_pos (by rw [Int32.le_iff_toInt_le]; omega), ck_t (i_inb hx.1 (by omega)), if_neg (by rw [Int32.le_iff_toInt_le]; omega)]
        exact ⟨_, rfl, rfl, fun _ => hx⟩
      · have e : ((50 : Int32) + v_shelves0_sort).toInt = 50 + v_shelves0_sort.toInt := by rw [i_addE rfl (by omega) (by omega), n50]
        rw [h1, h2, h5, if_neg (show ¬ (2 : Int32) = 0 by decide), if_neg (show ¬ (2 : Int32) = 1 by decide), hp1 a0 b0, bs_1, if_pos (show (0 : Int32) ≤ (50 : Int32) + v_shelves0_sort by rw [Int32.le_iff_toInt_le]; omega), ck_t (i_inb hx.1 (by omega)), if_pos (show (50 : Int32) ≤ (50 : Int32) + v_shelves0_sort by rw [Int32.le_iff_toInt_le]; omega)]
        by_cases d : 0 ≤ x2.toInt ∧ x2.toInt < v_shelves0_size.toInt
        · rw [decide_eq_true d, if_neg (show ¬ (true = false) by decide), if_neg (show ¬ x2 < 0 by rw [Int32.lt_iff_toInt_lt]; omega), ck_t (i_inb hx.1 (by omega)), if_neg (show ¬ v_shelves0_size ≤ x2 by rw [Int32.le_iff_toInt_le]; omega)]
          exact ⟨_, rfl, rfl, fun _ => hx⟩
        · rw [decide_eq_false d, if_pos rfl]
          by_cases c : x2 < 0
          · rw [if_pos c]
            exact ⟨_, rfl, rfl, fun _ => hx⟩
          · rw [if_neg c, ck_t (i_inb hx.1 (by omega)), if_pos (show v_shelves0_size ≤ x2 by rw [Int32.lt_iff_toInt_lt] at c; rw [Int32.le_iff_toInt_le]; omega)]
            exact ⟨_, rfl, rfl, fun _ => hx⟩
    · rw [if_neg (show ¬ (1 : Int32) = 0 by decide), if_pos (rfl : (1 : Int32) = 1)]
      rcases c1 with ⟨h1, h2⟩ | ⟨h1, h2, h3, h4, h5⟩ | ⟨h1, h2, h3, h4, h5⟩
      · rw [h1, h2, if_pos rfl, if_neg (show ¬ 0 ≤ (-1 : Int32) by decide)]
        exact ⟨_, rfl, rfl, fun _ => hx⟩
      · rw [h1, h2, if_neg (show ¬ (1 : Int32) = 0 by decide), if_pos rfl, if_pos (by rw [Int32.le_iff_toInt_le]; omega), ck_t (i_inb hx.1 (by omega)), if_neg (by rw [Int32.le_iff_toInt_le]; omega)]
        exact ⟨_, rfl, rfl, fun _ => hx⟩
      · have e : ((50 : Int32) + v_shelves1_sort).toInt = 50 + v_shelves1_sort.toInt := by rw [i_addE rfl (by omega) (by omega), n50]
        rw [h1, h2, h5, if_neg (show ¬ (2 : Int32) = 0 by decide), if_neg (show ¬ (2 : Int32) = 1 by decide), hp1 a1 b1, bs_1, if_pos (show (0 : Int32) ≤ (50 : Int32) + v_shelves1_sort by rw [Int32.le_iff_toInt_le]; omega), ck_t (i_inb hx.1 (by omega)), if_pos (show (50 : Int32) ≤ (50 : Int32) + v_shelves1_sort by rw [Int32.le_iff_toInt_le]; omega)]
        by_cases d : 0 ≤ x2.toInt ∧ x2.toInt < v_shelves1_size.toInt
        · rw [decide_eq_true d, if_neg (show ¬ (true = false) by decide), if_neg (show ¬ x2 < 0 by rw [Int32.lt_iff_toInt_lt]; omega), ck_t (i_inb hx.1 (by omega)), if_neg (show ¬ v_shelves1_size ≤ x2 by rw [Int32.le_iff_toInt_le]; omega)]
          exact ⟨_, rfl, rfl, fun _ => hx⟩
        · rw [decide_eq_false d, if_pos rfl]
          by_cases c : x2 < 0
          · rw [if_pos c]
            exact ⟨_, rfl, rfl, fun _ => hx⟩
          · rw [if_neg c, ck_t (i_inb hx.1 (by omega)), if_pos (show v_shelves1_size ≤ x2 by rw [Int32.lt_iff_toInt_lt] at c; rw [Int32.le_iff_toInt_le]; omega)]
            exact ⟨_, rfl, rfl, fun _ => hx⟩
    · rw [if_neg (show ¬ (2 : Int32) = 0 by decide), if_neg (show ¬ (2 : Int32) = 1 by decide), if_pos (rfl : (2 : Int32) = 2)]
      rcases c2 with ⟨h1, h2⟩ | ⟨h1, h2, h3, h4, h5⟩ | ⟨h1, h2, h3, h4, h5⟩
      · rw [h1, h2, if_pos rfl, if_neg (show ¬ 0 ≤ (-1 : Int32) by decide)]
        exact ⟨_, rfl, rfl, fun _ => hx⟩
      · rw [h1, h2, if_neg (show ¬ (1 : Int32) = 0 by decide), if_pos rfl, if_pos (by rw [Int32.le_iff_toInt_le]; omega), ck_t (i_inb hx.1 (by omega)), if_neg (by rw [Int32.le_iff_toInt_le]; omega)]
        exact ⟨_, rfl, rfl, fun _ => hx⟩
      · have e : ((50 : Int32) + v_shelves2_sort).toInt = 50 + v_shelves2_sort.toInt := by rw [i_addE rfl (by omega) (by omega), n50]
        rw [h1, h2, h5, if_neg (show ¬ (2 : Int32) = 0 by decide), if_neg (show ¬ (2 : Int32) = 1 by decide), hp1 a2 b2, bs_1, if_pos (show (0 : Int32) ≤ (50 : Int32) + v_shelves2_sort by rw [Int32.le_iff_toInt_le]; omega), ck_t (i_inb hx.1 (by omega)), if_pos (show (50 : Int32) ≤ (50 : Int32) + v_shelves2_sort by rw [Int32.le_iff_toInt_le]; omega)]
        by_cases d : 0 ≤ x2.toInt ∧ x2.toInt < v_shelves2_size.toInt
        · rw [decide_eq_true d, if_neg (show ¬ (true = false) by decide), if_neg (show ¬ x2 < 0 by rw [Int32.lt_iff_toInt_lt]; omega), ck_t (i_inb hx.1 (by omega)), if_neg (show ¬ v_shelves2_size ≤ x2 by rw [Int32.le_iff_toInt_le]; omega)]
          exact ⟨_, rfl, rfl, fun _ => hx⟩
        · rw [decide_eq_false d, if_pos rfl]
          by_cases c : x2 < 0
          · rw [if_pos c]
            exact ⟨_, rfl, rfl, fun _ => hx⟩
          · rw [if_neg c, ck_t (i_inb hx.1 (by omega)), if_pos (show v_shelves2_size ≤ x2 by rw [Int32.lt_iff_toInt_lt] at c; rw [Int32.le_iff_toInt_le]; omega)]
            exact ⟨_, rfl, rfl, fun _ => hx⟩
    · rw [if_neg (show ¬ (3 : Int32) = 0 by decide), if_neg (show ¬ (3 : Int32) = 1 by decide), if_neg (show ¬ (3 : Int32) = 2 by decide), if_pos (rfl : (3 : Int32) = 3)]
      rcases c3 with ⟨h1, h2⟩ | ⟨h1, h2, h3, h4, h5⟩ | ⟨h1, h2, h3, h4, h5⟩
      · rw [h1, h2, if_pos rfl, if_neg (show ¬ 0 ≤ (-1 : Int32) by decide)]
        exact ⟨_, rfl, rfl, fun _ => hx⟩
      · rw [h1, h2, if_neg (show ¬ (1 : Int32) = 0 by decide), if_pos rfl, if_pos (by rw [Int32.le_iff_toInt_le]; omega), ck_t (i_inb hx.1 (by omega)), if_neg (by rw [Int32.le_iff_toInt_le]; omega)]
        exact ⟨_, rfl, rfl, fun _ => hx⟩
      · have e : ((50 : Int32) + v_shelves3_sort).toInt = 50 + v_shelves3_sort.toInt := by rw [i_addE rfl (by omega) (by omega), n50]
        rw [h1, h2, h5, if_neg (show ¬ (2 : Int32) = 0 by decide), if_neg (show ¬ (2 : Int32) = 1 by decide), hp1 a3 b3, bs_1, if_pos (show (0 : Int32) ≤ (50 : Int32) + v_shelves3_sort by rw [Int32.le_iff_toInt_le]; omega), ck_t (i_inb hx.1 (by omega)), if_pos (show (50 : Int32) ≤ (50 : Int32) + v_shelves3_sort by rw [Int32.le_iff_toInt_le]; omega)]
        by_cases d : 0 ≤ x2.toInt ∧ x2.toInt < v_shelves3_size.toInt
        · rw [decide_eq_true d, if_neg (show ¬ (true = false) by decide), if_neg (show ¬ x2 < 0 by rw [Int32.lt_iff_toInt_lt]; omega), ck_t (i_inb hx.1 (by omega)), if_neg (show ¬ v_shelves3_size ≤ x2 by rw [Int32.le_iff_toInt_le]; omega)]
          exact ⟨_, rfl, rfl, fun _ => hx⟩
        · rw [decide_eq_false d, if_pos rfl]
          by_cases c : x2 < 0
          · rw [if_pos c]
            exact ⟨_, rfl, rfl, fun _ => hx⟩
          · rw [if_neg c, ck_t (i_inb hx.1 (by omega)), if_pos (show v_shelves3_size ≤ x2 by rw [Int32.lt_iff_toInt_lt] at c; rw [Int32.le_iff_toInt_le]; omega)]
            exact ⟨_, rfl, rfl, fun _ => hx⟩
    · rw [if_neg (show ¬ (4 : Int32) = 0 by decide), if_neg (show ¬ (4 : Int32) = 1 by decide), if_neg (show ¬ (4 : Int32) = 2 by decide), if_neg (show ¬ (4 : Int32) = 3 by decide), if_pos (rfl : (4 : Int32) = 4)]
      rcases c4 with ⟨h1, h2⟩ | ⟨h1, h2, h3, h4, h5⟩ | ⟨h1, h2, h3, h4, h5⟩
      · rw [h1, h2, if_pos rfl, if_neg (show ¬ 0 ≤ (-1 : Int32) by decide)]
        exact ⟨_, rfl, rfl, fun _ => hx⟩
      · rw [h1, h2, if_neg (show ¬ (1 : Int32) = 0 by decide), if_pos rfl, if_pos (by rw [Int32.le_iff_toInt_le]; omega), ck_t (i_inb hx.1 (by omega)), if_neg (by rw [Int32.le_iff_toInt_le]; omega)]
        exact ⟨_, rfl, rfl, fun _ => hx⟩
      · have e : ((50 : Int32) + v_shelves4_sort).toInt = 50 + v_shelves4_sort.toInt := by rw [i_addE rfl (by omega) (by omega), n50]
        rw [h1, h2, h5, if_neg (show ¬ (2 : Int32) = 0 by decide), if_neg (show ¬ (2 : Int32) = 1 by decide), hp1 a4 b4, bs_1, if_pos (show (0 : Int32) ≤ (50 : Int32) + v_shelves4_sort by rw [Int32.le_iff_toInt_le]; omega), ck_t (i_inb hx.1 (by omega)), if_pos (show (50 : Int32) ≤ (50 : Int32) + v_shelves4_sort by rw [Int32.le_iff_toInt_le]; omega)]
        by_cases d : 0 ≤ x2.toInt ∧ x2.toInt < v_shelves4_size.toInt
        · rw [decide_eq_true d, if_neg (show ¬ (true = false) by decide), if_neg (show ¬ x2 < 0 by rw [Int32.lt_iff_toInt_lt]; omega), ck_t (i_inb hx.1 (by omega)), if_neg (show ¬ v_shelves4_size ≤ x2 by rw [Int32.le_iff_toInt_le]; omega)]
          exact ⟨_, rfl, rfl, fun _ => hx⟩
        · rw [decide_eq_false d, if_pos rfl]
          by_cases c : x2 < 0
          · rw [if_pos c]
            exact ⟨_, rfl, rfl, fun _ => hx⟩
          · rw [if_neg c, ck_t (i_inb hx.1 (by omega)), if_pos (show v_shelves4_size ≤ x2 by rw [Int32.lt_iff_toInt_lt] at c; rw [Int32.le_iff_toInt_le]; omega)]
            exact ⟨_, rfl, rfl, fun _ => hx⟩
    · rw [if_neg (show ¬ (5 : Int32) = 0 by decide), if_neg (show ¬ (5 : Int32) = 1 by decide), if_neg (show ¬ (5 : Int32) = 2 by decide), if_neg (show ¬ (5 : Int32) = 3 by decide), if_neg (show ¬ (5 : Int32) = 4 by decide), if_pos (rfl : (5 : Int32) = 5)]
      rcases c5 with ⟨h1, h2⟩ | ⟨h1, h2, h3, h4, h5⟩ | ⟨h1, h2, h3, h4, h5⟩
      · rw [h1, h2, if_pos rfl, if_neg (show ¬ 0 ≤ (-1 : Int32) by decide)]
        exact ⟨_, rfl, rfl, fun _ => hx⟩
      · rw [h1, h2, if_neg (show ¬ (1 : Int32) = 0 by decide), if_pos rfl, if_pos (by rw [Int32.le_iff_toInt_le]; omega), ck_t (i_inb hx.1 (by omega)), if_neg (by rw [Int32.le_iff_toInt_le]; omega)]
        exact ⟨_, rfl, rfl, fun _ => hx⟩
      · have e : ((50 : Int32) + v_shelves5_sort).toInt = 50 + v_shelves5_sort.toInt := by rw [i_addE rfl (by omega) (by omega), n50]
        rw [h1, h2, h5, if_neg (show ¬ (2 : Int32) = 0 by decide), if_neg (show ¬ (2 : Int32) = 1 by decide), hp1 a5 b5, bs_1, if_pos (show (0 : Int32) ≤ (50 : Int32) + v_shelves5_sort by rw [Int32.le_iff_toInt_le]; omega), ck_t (i_inb hx.1 (by omega)), if_pos (show (50 : Int32) ≤ (50 : Int32) + v_shelves5_sort by rw [Int32.le_iff_toInt_le]; omega)]
        by_cases d : 0 ≤ x2.toInt ∧ x2.toInt < v_shelves5_size.toInt
        · rw [decide_eq_true d, if_neg (show ¬ (true = false) by decide), if_neg (show ¬ x2 < 0 by rw [Int32.lt_iff_toInt_lt]; omega), ck_t (i_inb hx.1 (by omega)), if_neg (show ¬ v_shelves5_size ≤ x2 by rw [Int32.le_iff_toInt_le]; omega)]
          exact ⟨_, rfl, rfl, fun _ => hx⟩
        · rw [decide_eq_false d, if_pos rfl]
          by_cases c : x2 < 0
          · rw [if_pos c]
            exact ⟨_, rfl, rfl, fun _ => hx⟩
          · rw [if_neg c, ck_t (i_inb hx.1 (by omega)), if_pos (show v_shelves5_size ≤ x2 by rw [Int32.lt_iff_toInt_lt] at c; rw [Int32.le_iff_toInt_le]; omega)]
            exact ⟨_, rfl, rfl, fun _ => hx⟩
  · rw [decide_eq_false hx, if_pos rfl, if_pos rfl]
    exact ⟨_, rfl, rfl, fun h => absurd h (by decide)⟩
end
section
/-! put -/
theorem ck_i {α : Type} {c : Bool} {x : Option α} {z : α} (h : mm_ck c x = some z) : x = some z := by
  unfold mm_ck at h
  by_cases hc : c = true
  · rw [if_pos hc] at h
    exact h
  · rw [if_neg hc] at h
    cases h
theorem bi_1 {α β : Type} {x : Option α} {k : α → Option β} {z : β} (h : mm_bd1 x k = some z) : ∃ t : α, x = some t ∧ k t = some z := by
  cases x with
  | none => exact absurd h (by intro h; cases h)
  | some t => exact ⟨t, rfl, h⟩
theorem rs_put {x1 : Int32} {x2 : Int32} {x3 : Int64} {v_shelves0_holds : Int32} {v_shelves0_sort : Int32} {v_shelves0_size : Int32} {v_shelves0_items : List Int64} {v_shelves1_holds : Int32} {v_shelves1_sort : Int32} {v_shelves1_size : Int32} {v_shelves1_items : List Int64} {v_shelves2_holds : Int32} {v_shelves2_sort : Int32} {v_shelves2_size : Int32} {v_shelves2_items : List Int64} {v_shelves3_holds : Int32} {v_shelves3_sort : Int32} {v_shelves3_size : Int32} {v_shelves3_items : List Int64} {v_shelves4_holds : Int32} {v_shelves4_sort : Int32} {v_shelves4_size : Int32} {v_shelves4_items : List Int64} {v_shelves5_holds : Int32} {v_shelves5_sort : Int32} {v_shelves5_size : Int32} {v_shelves5_items : List Int64} {v_foldings_size : Int32} {v_shelves0_body : Int32} {v_shelves1_body : Int32} {v_shelves2_body : Int32} {v_shelves3_body : Int32} {v_shelves4_body : Int32} {v_shelves5_body : Int32} {m_shelf : List Int32} {m_many : List Int32} {m_items : List Int64} {m_carried : List Int64} (g8_0 : gi_sf v_shelves0_size v_shelves0_items) (g8_1 : gi_sf v_shelves1_size v_shelves1_items) (g8_2 : gi_sf v_shelves2_size v_shelves2_items) (g8_3 : gi_sf v_shelves3_size v_shelves3_items) (g8_4 : gi_sf v_shelves4_size v_shelves4_items) (g8_5 : gi_sf v_shelves5_size v_shelves5_items) (g9_0 : gm_sf m_shelf m_many m_items m_carried) (hr_0 : rl_sc v_foldings_size v_shelves0_holds v_shelves0_body v_shelves0_sort v_shelves0_size v_shelves1_holds v_shelves1_body v_shelves1_sort v_shelves1_size v_shelves2_holds v_shelves2_body v_shelves2_sort v_shelves2_size v_shelves3_holds v_shelves3_body v_shelves3_sort v_shelves3_size v_shelves4_holds v_shelves4_body v_shelves4_sort v_shelves4_size v_shelves5_holds v_shelves5_body v_shelves5_sort v_shelves5_size m_shelf m_many) : ∃ (r : Int32) (p_shelves0_items : List Int64) (p_shelves1_items : List Int64) (p_shelves2_items : List Int64) (p_shelves3_items : List Int64) (p_shelves4_items : List Int64) (p_shelves5_items : List Int64) (q_items : List Int64), fX8_put 700 x1 x2 x3 v_shelves0_holds v_shelves0_sort v_shelves0_size v_shelves0_items v_shelves1_holds v_shelves1_sort v_shelves1_size v_shelves1_items v_shelves2_holds v_shelves2_sort v_shelves2_size v_shelves2_items v_shelves3_holds v_shelves3_sort v_shelves3_size v_shelves3_items v_shelves4_holds v_shelves4_sort v_shelves4_size v_shelves4_items v_shelves5_holds v_shelves5_sort v_shelves5_size v_shelves5_items = some (r, p_shelves0_items, p_shelves1_items, p_shelves2_items, p_shelves3_items, p_shelves4_items, p_shelves5_items) ∧ fX9_put 700 x1 x2 x3 m_shelf m_many m_items = some (r, q_items) ∧ gi_sf v_shelves0_size p_shelves0_items ∧ gi_sf v_shelves1_size p_shelves1_items ∧ gi_sf v_shelves2_size p_shelves2_items ∧ gi_sf v_shelves3_size p_shelves3_items ∧ gi_sf v_shelves4_size p_shelves4_items ∧ gi_sf v_shelves5_size p_shelves5_items ∧ gm_sf m_shelf m_many q_items m_carried ∧ rl_sc v_foldings_size v_shelves0_holds v_shelves0_body v_shelves0_sort v_shelves0_size v_shelves1_holds v_shelves1_body v_shelves1_sort v_shelves1_size v_shelves2_holds v_shelves2_body v_shelves2_sort v_shelves2_size v_shelves3_holds v_shelves3_body v_shelves3_sort v_shelves3_size v_shelves4_holds v_shelves4_body v_shelves4_sort v_shelves4_size v_shelves5_holds v_shelves5_body v_shelves5_sort v_shelves5_size m_shelf m_many := by
  obtain ⟨b0, b1, b2, b3, b4⟩ := id g9_0
  obtain ⟨a0, d0, l0⟩ := id g8_0
  obtain ⟨a1, d1, l1⟩ := id g8_1
  obtain ⟨a2, d2, l2⟩ := id g8_2
  obtain ⟨a3, d3, l3⟩ := id g8_3
  obtain ⟨a4, d4, l4⟩ := id g8_4
  obtain ⟨a5, d5, l5⟩ := id g8_5
  obtain ⟨w, f8, f9, hw⟩ := rf_e (x1 := x1) (x2 := x2) b0 b1 a0 d0 a1 d1 a2 d2 a3 d3 a4 d4 a5 d5 hr_0
  obtain ⟨⟨r8, p0, p1, p2, p3, p4, p5⟩, e8, -⟩ := st8_put (x1 := x1) (x2 := x2) (x3 := x3) (v_shelves0_holds := v_shelves0_holds) (v_shelves0_sort := v_shelves0_sort) (v_shelves1_holds := v_shelves1_holds) (v_shelves1_sort := v_shelves1_sort) (v_shelves2_holds := v_shelves2_holds) (v_shelves2_sort := v_shelves2_sort) (v_shelves3_holds := v_shelves3_holds) (v_shelves3_sort := v_shelves3_sort) (v_shelves4_holds := v_shelves4_holds) (v_shelves4_sort := v_shelves4_sort) (v_shelves5_holds := v_shelves5_holds) (v_shelves5_sort := v_shelves5_sort) g8_0 g8_1 g8_2 g8_3 g8_4 g8_5
  obtain ⟨⟨r9, q0⟩, e9, -⟩ := st9_put (x1 := x1) (x2 := x2) (x3 := x3)  g9_0
  have er : r9 = r8 := by
    have f8' := e8
    have f9' := e9
    unfold fX8_put at f8'
    unfold fX9_put fX9_put_37 at f9'
    rw [f8, bs_1] at f8'
    rw [f9, bs_1] at f9'
    clear e8 e9 f8 f9
    by_cases h : w = 0
    · simp only [if_pos h] at f8' f9'
      have h9 : r9 = (1 : Int32) := by
        have z := ck_i f9'
        obtain ⟨t, -, z⟩ := bi_1 z
        have z := ck_i z
        rw [nm_eq] at z
        injection z with z
        injection z with z0 z
        exact z0.symm
      have h8 : r8 = (1 : Int32) := by
        have hx := hw h
        rcases k6 hx.1 hx.2 with rfl | rfl | rfl | rfl | rfl | rfl
        · rw [if_pos (rfl : (0 : Int32) = 0)] at f8'
          obtain ⟨t, -, z⟩ := bi_1 f8'
          injection z with z
          injection z with z0 z
          exact z0.symm
        · rw [if_neg (show ¬ (1 : Int32) = 0 by decide), if_pos (rfl : (1 : Int32) = 1)] at f8'
          obtain ⟨t, -, z⟩ := bi_1 f8'
          injection z with z
          injection z with z0 z
          exact z0.symm
        · rw [if_neg (show ¬ (2 : Int32) = 0 by decide), if_neg (show ¬ (2 : Int32) = 1 by decide), if_pos (rfl : (2 : Int32) = 2)] at f8'
          obtain ⟨t, -, z⟩ := bi_1 f8'
          injection z with z
          injection z with z0 z
          exact z0.symm
        · rw [if_neg (show ¬ (3 : Int32) = 0 by decide), if_neg (show ¬ (3 : Int32) = 1 by decide), if_neg (show ¬ (3 : Int32) = 2 by decide), if_pos (rfl : (3 : Int32) = 3)] at f8'
          obtain ⟨t, -, z⟩ := bi_1 f8'
          injection z with z
          injection z with z0 z
          exact z0.symm
        · rw [if_neg (show ¬ (4 : Int32) = 0 by decide), if_neg (show ¬ (4 : Int32) = 1 by decide), if_neg (show ¬ (4 : Int32) = 2 by decide), if_neg (show ¬ (4 : Int32) = 3 by decide), if_pos (rfl : (4 : Int32) = 4)] at f8'
          obtain ⟨t, -, z⟩ := bi_1 f8'
          injection z with z
          injection z with z0 z
          exact z0.symm
        · rw [if_neg (show ¬ (5 : Int32) = 0 by decide), if_neg (show ¬ (5 : Int32) = 1 by decide), if_neg (show ¬ (5 : Int32) = 2 by decide), if_neg (show ¬ (5 : Int32) = 3 by decide), if_neg (show ¬ (5 : Int32) = 4 by decide), if_pos (rfl : (5 : Int32) = 5)] at f8'
          obtain ⟨t, -, z⟩ := bi_1 f8'
          injection z with z
          injection z with z0 z
          exact z0.symm
      rw [h8, h9]
    · simp only [if_neg h] at f8' f9'
      injection f8' with z
      injection z with z0 z
      injection f9' with y
      injection y with y0 y
      rw [← z0, ← y0]
  subst er
  have k8 := wp_get (st8_put g8_0 g8_1 g8_2 g8_3 g8_4 g8_5) e8
  have k9 := wp_get (st9_put g9_0) e9
  exact ⟨_, _, _, _, _, _, _, _, e8, e9, k8.1, k8.2.1, k8.2.2.1, k8.2.2.2.1, k8.2.2.2.2.1, k8.2.2.2.2.2, k9, hr_0⟩
end
