section
/-! The objects' invariants -/
def gi_sh (v_rows : Int32) (v_cols : Int32) (v_high : Int32) (v_wide : Int32) (v_rowOf : List Int32) (v_colOf : List Int32) (v_below : List Int32) (v_face : List Int32) (v_worn : List Int32) (v_last : List Int32) (v_bend : List Int32) (v_tall : List Int32) : Prop := 1 ≤ v_rows.toInt ∧ v_rows.toInt ≤ 4 ∧ 1 ≤ v_cols.toInt ∧ v_cols.toInt ≤ 8 ∧ 1 ≤ v_high.toInt ∧ v_high.toInt ≤ 4 ∧ 1 ≤ v_wide.toInt ∧ v_wide.toInt ≤ 8 ∧ v_rowOf.length = 32 ∧ v_colOf.length = 32 ∧ v_below.length = 32 ∧ v_face.length = 32 ∧ v_worn.length = 64 ∧ v_last.length = 64 ∧ v_bend.length = 64 ∧ v_tall.length = 32 ∧ zn v_rowOf 0 (v_rows.toInt * v_cols.toInt) 0 v_high.toInt ∧ zn v_colOf 0 (v_rows.toInt * v_cols.toInt) 0 v_wide.toInt
def gi_ch (v_done : Int32) (v_size : Int32) (v_before : List Int32) (v_after : List Int32) : Prop := 0 ≤ v_done.toInt ∧ v_done.toInt ≤ 40 ∧ 0 ≤ v_size.toInt ∧ v_size.toInt ≤ 40 ∧ v_before.length = 40 ∧ v_after.length = 40
def gi_la (v_size : Int32) (v_stepCount : Int32) (v_draftCount : Int32) (v_tape : List Int32) (v_steps : List Int32) (v_draft : List Int32) (v_stack : List Int32) : Prop := 0 ≤ v_size.toInt ∧ v_size.toInt ≤ 120 ∧ 0 ≤ v_stepCount.toInt ∧ v_stepCount.toInt ≤ 121 ∧ 0 ≤ v_draftCount.toInt ∧ v_draftCount.toInt ≤ 121 ∧ v_tape.length = 120 ∧ v_steps.length = 121 ∧ v_draft.length = 121 ∧ v_stack.length = 121
def gi_pl (v_size : Int32) (v_lines : List Int32) (v_ways : List Int32) : Prop := 0 ≤ v_size.toInt ∧ v_size.toInt ≤ 12 ∧ v_lines.length = 12 ∧ v_ways.length = 12
def gi_sf (v_size : Int32) (v_items : List Int64) : Prop := 0 ≤ v_size.toInt ∧ v_size.toInt ≤ 60 ∧ v_items.length = 60
def gi_se (v_folds : Int32) (v_path : List Int32) (v_best : List Int32) : Prop := 0 ≤ v_folds.toInt ∧ v_folds.toInt ≤ 3 ∧ v_path.length = 3 ∧ v_best.length = 3
def gi_st (v_at : List Int32) (v_list : List Int32) (v_found : List Int32) : Prop := v_at.length = 7 ∧ v_list.length = 680 ∧ v_found.length = 8 ∧ fnd v_found
def gi_fo (v_size : Int32) (v_kinds : List Int32) (v_trace : List Int32) : Prop := 0 ≤ v_size.toInt ∧ v_size.toInt ≤ 50 ∧ v_kinds.length = 50 ∧ v_trace.length = 24 ∧ zn v_kinds 0 v_size.toInt 0 8
def gm_ch (v_keptMany : Int32) (v_done : Int32) (v_limit : List Int32) (v_changeWas : List Int32) (v_changeIs : List Int32) : Prop := 0 ≤ v_keptMany.toInt ∧ v_keptMany.toInt ≤ 40 ∧ 0 ≤ v_done.toInt ∧ v_done.toInt ≤ 40 ∧ v_limit.length = 1 ∧ v_changeWas.length = 40 ∧ v_changeIs.length = 40 ∧ v_done.toInt ≤ v_keptMany.toInt
def gm_sh (v_rowsOf : Int32) (v_columnsOf : Int32) (v_isKept : Bool) (v_imageRows : Int32) (v_imageColumns : Int32) (v_shapeRows : List Int32) (v_shapeColumns : List Int32) (v_row : List Int32) (v_column : List Int32) (v_below : List Int32) (v_face : List Int32) (v_worn : List Int32) (v_lastBend : List Int32) : Prop := 1 ≤ v_rowsOf.toInt ∧ v_rowsOf.toInt ≤ 4 ∧ 1 ≤ v_columnsOf.toInt ∧ v_columnsOf.toInt ≤ 8 ∧ v_shapeRows.length = 6 ∧ v_shapeColumns.length = 6 ∧ v_row.length = 192 ∧ v_column.length = 192 ∧ v_below.length = 192 ∧ v_face.length = 192 ∧ v_worn.length = 384 ∧ v_lastBend.length = 384 ∧ lv9 v_rowsOf v_columnsOf v_shapeRows v_shapeColumns v_row v_column (0 : Int32) ∧ (¬ (v_isKept = false) → 1 ≤ v_imageRows.toInt ∧ v_imageRows.toInt ≤ 4 ∧ 1 ≤ v_imageColumns.toInt ∧ v_imageColumns.toInt ≤ 8 ∧ lv9 v_imageRows v_imageColumns v_shapeRows v_shapeColumns v_row v_column (5 : Int32))
def gm_tx (v_tapeMany : Int32) (v_textMany : Int32) (v_tape : List Int32) (v_text : List Int32) (v_names : List Int32) (v_bends : List Int32) (v_high : List Int32) (v_to : List Int32) (v_pileSize : List Int32) : Prop := 0 ≤ v_tapeMany.toInt ∧ v_tapeMany.toInt ≤ 120 ∧ -1 ≤ v_textMany.toInt ∧ v_textMany.toInt ≤ 120 ∧ v_tape.length = 120 ∧ v_text.length = 120 ∧ v_names.length = 6 ∧ v_bends.length = 64 ∧ v_high.length = 32 ∧ v_to.length = 32 ∧ v_pileSize.length = 64
def gm_pl (v_planned : Int32) (v_planLine : List Int32) (v_planWay : List Int32) : Prop := 0 ≤ v_planned.toInt ∧ v_planned.toInt ≤ 12 ∧ v_planLine.length = 12 ∧ v_planWay.length = 12
def gm_se (v_bestMany : Int32) (v_way1 : List Int32) (v_bestWay : List Int32) : Prop := 0 ≤ v_bestMany.toInt ∧ v_bestMany.toInt ≤ 3 ∧ v_way1.length = 3 ∧ v_bestWay.length = 3
def gm_or (v_order1 : List Int32) (v_placeIn : List Int32) : Prop := v_order1.length = 7 ∧ v_placeIn.length = 7
def gm_bo (v_bodies : Int32) (v_bodyKind : List Int32) (v_trace : List Int32) : Prop := 0 ≤ v_bodies.toInt ∧ v_bodies.toInt ≤ 50 ∧ v_bodyKind.length = 50 ∧ v_trace.length = 24 ∧ zn v_bodyKind 0 v_bodies.toInt 0 8
def gm_sf (v_shelf : List Int32) (v_many : List Int32) (v_items : List Int64) (v_carried : List Int64) : Prop := v_shelf.length = 6 ∧ v_many.length = 6 ∧ v_items.length = 360 ∧ v_carried.length = 60 ∧ zn v_many 0 6 0 61

theorem st8_act {x1 : Int32} {x2 : Int32} {x3 : Int32} {v_foldings_size : Int32} {v_foldings_ran : Int32} {v_foldings_number : Int32} {v_foldings_kinds : List Int32} {v_foldings_trace : List Int32} (g_0 : gi_fo v_foldings_size v_foldings_kinds v_foldings_trace) : wp (fX8_act 700 x1 x2 x3 v_foldings_size v_foldings_ran v_foldings_number v_foldings_kinds v_foldings_trace) (cu4 (fun (r : Int32) (wv_foldings_ran : Int32) (wv_foldings_number : Int32) (wv_foldings_trace : List Int32) => gi_fo v_foldings_size v_foldings_kinds wv_foldings_trace)) := by
  obtain ⟨a_0, a_1, a_2, a_3, a_4⟩ := id g_0
  unfold fX8_act fX1_perform
  refine wp_bd4 (R := fun _ _ _ t => gi_fo v_foldings_size v_foldings_kinds t) ?_ (fun r w2 w3 w4 q => wp_so4 q)
  refine wp_bd1 (sf_X1_has (Nat.le_refl 700) a_0 a_1) (fun r q => ?_)
  rcases q with ⟨rfl, q0, q1⟩ | ⟨rfl, -⟩
  · refine wp_ifn (by decide) ?_
    refine wp_if (fun _ => wp_so4 g_0) (fun c1 => ?_)
    refine wp_if (fun c2 => ?_) (fun _ => wp_so4 g_0)
    have n4 : (4 : Int32).toInt = 4 := by decide
    have n0 : (0 : Int32).toInt = 0 := by decide
    have d1 : 0 ≤ x2.toInt := by rw [Int32.lt_iff_toInt_lt] at c1; omega
    have d2 : x2.toInt < 4 := by rw [Int32.lt_iff_toInt_lt] at c2; omega
    refine wp_ck (i_inb (by omega) (by omega)) ?_
    refine wp_ck (i_inb (by omega) (by omega)) ?_
    have z := zn_get a_4 q0 q0 q1 (by omega)
    have K : ∃ r c t, fX1_call 700 (fX1_run 700 42) (mm_ig v_foldings_kinds x1) (mm_ig v_foldings_kinds x1) x2 x3 (0 : Int32) (0 : Int32) x1 v_foldings_trace = some (r, c, t) ∧ t.length = 24 := by
      rcases k4 d1 d2 with rfl | rfl | rfl | rfl
      · obtain ⟨r, c, t, e1, -, e3⟩ := ac_0 z.1 z.2 x3 x1 v_foldings_trace a_3
        exact ⟨r, c, t, e1, e3⟩
      · obtain ⟨r, c, t, e1, -, e3⟩ := ac_1 z.1 z.2 x3 x1 v_foldings_trace a_3
        exact ⟨r, c, t, e1, e3⟩
      · obtain ⟨r, c, t, e1, -, e3⟩ := ac_2 z.1 z.2 x3 x1 v_foldings_trace a_3
        exact ⟨r, c, t, e1, e3⟩
      · obtain ⟨r, c, t, e1, -, e3⟩ := ac_3 z.1 z.2 x3 x1 v_foldings_trace a_3
        exact ⟨r, c, t, e1, e3⟩
    obtain ⟨r, c, t, e1, e3⟩ := K
    exact wp_bd3 (R := fun (_ : Int32) (_ : Int32) (t : List Int32) => t.length = 24) ⟨(r, c, t), e1, e3⟩ (fun _ _ _ h => wp_so4 ⟨a_0, a_1, a_2, h, a_4⟩)
  · refine wp_ifp rfl ?_
    exact wp_so4 g_0
set_option maxHeartbeats 4000000 in
set_option maxRecDepth 20000 in
theorem st8_sheet {x1 : Int32} {v_now_rows : Int32} {v_now_cols : Int32} {v_now_high : Int32} {v_now_wide : Int32} {v_now_folds : Int32} {v_now_wrong : Int32} {v_now_more : Int32} {v_now_rowOf : List Int32} {v_now_colOf : List Int32} {v_now_below : List Int32} {v_now_face : List Int32} {v_now_worn : List Int32} {v_now_last : List Int32} {v_now_bend : List Int32} {v_now_tall : List Int32} (g_0 : gi_sh v_now_rows v_now_cols v_now_high v_now_wide v_now_rowOf v_now_colOf v_now_below v_now_face v_now_worn v_now_last v_now_bend v_now_tall) : wp (fX8_sheet 700 x1 v_now_rows v_now_cols v_now_high v_now_wide v_now_folds v_now_wrong v_now_more v_now_rowOf v_now_colOf v_now_below v_now_face v_now_worn v_now_last) (cu14 (fun (r : Int32) (wv_now_rows : Int32) (wv_now_cols : Int32) (wv_now_high : Int32) (wv_now_wide : Int32) (wv_now_folds : Int32) (wv_now_wrong : Int32) (wv_now_more : Int32) (wv_now_rowOf : List Int32) (wv_now_colOf : List Int32) (wv_now_below : List Int32) (wv_now_face : List Int32) (wv_now_worn : List Int32) (wv_now_last : List Int32) => gi_sh wv_now_rows wv_now_cols wv_now_high wv_now_wide wv_now_rowOf wv_now_colOf wv_now_below wv_now_face wv_now_worn wv_now_last v_now_bend v_now_tall)) := by
  obtain ⟨a_0_0, a_0_1, a_0_2, a_0_3, a_0_4, a_0_5, a_0_6, a_0_7, a_0_8, a_0_9, a_0_10, a_0_11, a_0_12, a_0_13, a_0_14, a_0_15, a_0_16, a_0_17⟩ := id g_0
  refine wp_cu14 (sf_X8_sheet (Nat.le_refl 700) a_0_0 a_0_1 a_0_2 a_0_3 a_0_4 a_0_5 a_0_6 a_0_7 a_0_8 a_0_9 a_0_10 a_0_11 a_0_12 a_0_13 a_0_16 a_0_17) (fun r wv_now_rows wv_now_cols wv_now_high wv_now_wide wv_now_folds wv_now_wrong wv_now_more wv_now_rowOf wv_now_colOf wv_now_below wv_now_face wv_now_worn wv_now_last ⟨q_0, q_1, q_2, q_3, q_4, q_5, q_6, q_7, q_8, q_9, q_10, q_11, q_12, q_13, q_14, q_15⟩ => ?_)
  exact ⟨q_0, q_1, q_2, q_3, q_4, q_5, q_6, q_7, q_8, q_9, q_10, q_11, q_12, q_13, a_0_14, a_0_15, q_14, q_15⟩
set_option maxHeartbeats 4000000 in
set_option maxRecDepth 20000 in
theorem st8_limit {x1 : Int32} {v_changes_value : Int32} {v_changes_done : Int32} {v_changes_size : Int32} {v_changes_before : List Int32} {v_changes_after : List Int32} (g_0 : gi_ch v_changes_done v_changes_size v_changes_before v_changes_after) : wp (fX8_limit 700 x1 v_changes_value v_changes_done v_changes_size v_changes_before v_changes_after) (cu6 (fun (r : Int32) (wv_changes_value : Int32) (wv_changes_done : Int32) (wv_changes_size : Int32) (wv_changes_before : List Int32) (wv_changes_after : List Int32) => gi_ch wv_changes_done wv_changes_size wv_changes_before wv_changes_after)) := by
  obtain ⟨a_0_0, a_0_1, a_0_2, a_0_3, a_0_4, a_0_5⟩ := id g_0
  refine wp_cu6 (sf_X8_limit (Nat.le_refl 700) a_0_0 a_0_1 a_0_2 a_0_3 a_0_4 a_0_5) (fun r wv_changes_value wv_changes_done wv_changes_size wv_changes_before wv_changes_after ⟨q_0, q_1, q_2, q_3, q_4, q_5⟩ => ?_)
  exact ⟨q_0, q_1, q_2, q_3, q_4, q_5⟩
set_option maxHeartbeats 4000000 in
set_option maxRecDepth 20000 in
theorem st8_feed {x1 : Int32} {v_wearing_size : Int32} {v_wearing_tape : List Int32} {v_wearing_stepCount : Int32} {v_wearing_draftCount : Int32} {v_wearing_steps : List Int32} {v_wearing_draft : List Int32} {v_wearing_stack : List Int32} (g_0 : gi_la v_wearing_size v_wearing_stepCount v_wearing_draftCount v_wearing_tape v_wearing_steps v_wearing_draft v_wearing_stack) : wp (fX8_feed 700 x1 v_wearing_size v_wearing_tape) (cu3 (fun (r : Int32) (wv_wearing_size : Int32) (wv_wearing_tape : List Int32) => gi_la wv_wearing_size v_wearing_stepCount v_wearing_draftCount wv_wearing_tape v_wearing_steps v_wearing_draft v_wearing_stack)) := by
  obtain ⟨a_0_0, a_0_1, a_0_2, a_0_3, a_0_4, a_0_5, a_0_6, a_0_7, a_0_8, a_0_9⟩ := id g_0
  refine wp_cu3 (sf_X8_feed (Nat.le_refl 700) a_0_0 a_0_1 a_0_6) (fun r wv_wearing_size wv_wearing_tape ⟨q_0, q_1, q_2⟩ => ?_)
  exact ⟨q_0, q_1, a_0_2, a_0_3, a_0_4, a_0_5, q_2, a_0_7, a_0_8, a_0_9⟩
set_option maxHeartbeats 4000000 in
set_option maxRecDepth 20000 in
theorem st8_law {v_wearing_size : Int32} {v_wearing_stepCount : Int32} {v_wearing_draftCount : Int32} {v_wearing_place : Int32} {v_wearing_fault : Int32} {v_wearing_tape : List Int32} {v_wearing_steps : List Int32} {v_wearing_draft : List Int32} {v_wearing_stack : List Int32} (g_0 : gi_la v_wearing_size v_wearing_stepCount v_wearing_draftCount v_wearing_tape v_wearing_steps v_wearing_draft v_wearing_stack) : wp (fX8_law 700 v_wearing_size v_wearing_stepCount v_wearing_draftCount v_wearing_place v_wearing_fault v_wearing_tape v_wearing_steps v_wearing_draft) (cu8 (fun (r : Int32) (wv_wearing_size : Int32) (wv_wearing_stepCount : Int32) (wv_wearing_draftCount : Int32) (wv_wearing_place : Int32) (wv_wearing_fault : Int32) (wv_wearing_steps : List Int32) (wv_wearing_draft : List Int32) => gi_la wv_wearing_size wv_wearing_stepCount wv_wearing_draftCount v_wearing_tape wv_wearing_steps wv_wearing_draft v_wearing_stack)) := by
  obtain ⟨a_0_0, a_0_1, a_0_2, a_0_3, a_0_4, a_0_5, a_0_6, a_0_7, a_0_8, a_0_9⟩ := id g_0
  refine wp_cu8 (sf_X8_law (Nat.le_refl 700) a_0_0 a_0_1 a_0_2 a_0_3 a_0_4 a_0_5 a_0_6 a_0_7 a_0_8) (fun r wv_wearing_size wv_wearing_stepCount wv_wearing_draftCount wv_wearing_place wv_wearing_fault wv_wearing_steps wv_wearing_draft ⟨q_0, q_1, q_2, q_3, q_4, q_5, q_6, q_7⟩ => ?_)
  exact ⟨q_0, q_1, q_2, q_3, q_4, q_5, a_0_6, q_6, q_7, a_0_9⟩
set_option maxHeartbeats 4000000 in
set_option maxRecDepth 20000 in
theorem st8_fold {x1 : Int32} {x2 : Int32} {v_now_rows : Int32} {v_now_cols : Int32} {v_now_high : Int32} {v_now_wide : Int32} {v_now_folds : Int32} {v_now_wrong : Int32} {v_now_more : Int32} {v_now_rowOf : List Int32} {v_now_colOf : List Int32} {v_now_below : List Int32} {v_now_face : List Int32} {v_now_worn : List Int32} {v_now_last : List Int32} {v_now_bend : List Int32} {v_now_tall : List Int32} {v_wearing_stepCount : Int32} {v_wearing_stacked : Int32} {v_wearing_steps : List Int32} {v_wearing_stack : List Int32} {v_changes_value : Int32} {v_wearing_size : Int32} {v_wearing_draftCount : Int32} {v_wearing_tape : List Int32} {v_wearing_draft : List Int32} (g_0 : gi_sh v_now_rows v_now_cols v_now_high v_now_wide v_now_rowOf v_now_colOf v_now_below v_now_face v_now_worn v_now_last v_now_bend v_now_tall) (g_1 : gi_la v_wearing_size v_wearing_stepCount v_wearing_draftCount v_wearing_tape v_wearing_steps v_wearing_draft v_wearing_stack) : wp (fX8_fold 700 x1 x2 v_now_rows v_now_cols v_now_high v_now_wide v_now_folds v_now_wrong v_now_more v_now_rowOf v_now_colOf v_now_below v_now_face v_now_worn v_now_last v_now_bend v_now_tall v_wearing_stepCount v_wearing_stacked v_wearing_steps v_wearing_stack v_changes_value) (cu16 (fun (r : Int32) (wv_now_high : Int32) (wv_now_wide : Int32) (wv_now_folds : Int32) (wv_now_wrong : Int32) (wv_now_more : Int32) (wv_now_rowOf : List Int32) (wv_now_colOf : List Int32) (wv_now_below : List Int32) (wv_now_face : List Int32) (wv_now_worn : List Int32) (wv_now_last : List Int32) (wv_now_bend : List Int32) (wv_now_tall : List Int32) (wv_wearing_stacked : Int32) (wv_wearing_stack : List Int32) => gi_sh v_now_rows v_now_cols wv_now_high wv_now_wide wv_now_rowOf wv_now_colOf wv_now_below wv_now_face wv_now_worn wv_now_last wv_now_bend wv_now_tall ∧ gi_la v_wearing_size v_wearing_stepCount v_wearing_draftCount v_wearing_tape v_wearing_steps v_wearing_draft wv_wearing_stack)) := by
  obtain ⟨a_0_0, a_0_1, a_0_2, a_0_3, a_0_4, a_0_5, a_0_6, a_0_7, a_0_8, a_0_9, a_0_10, a_0_11, a_0_12, a_0_13, a_0_14, a_0_15, a_0_16, a_0_17⟩ := id g_0
  obtain ⟨a_1_0, a_1_1, a_1_2, a_1_3, a_1_4, a_1_5, a_1_6, a_1_7, a_1_8, a_1_9⟩ := id g_1
  refine wp_cu16 (sf_X8_fold (Nat.le_refl 700) a_0_0 a_0_1 a_0_2 a_0_3 a_0_4 a_0_5 a_0_6 a_0_7 a_0_8 a_0_9 a_0_10 a_0_11 a_0_12 a_0_13 a_0_14 a_0_15 a_0_16 a_0_17 a_1_2 a_1_3 a_1_7 a_1_9) (fun r wv_now_high wv_now_wide wv_now_folds wv_now_wrong wv_now_more wv_now_rowOf wv_now_colOf wv_now_below wv_now_face wv_now_worn wv_now_last wv_now_bend wv_now_tall wv_wearing_stacked wv_wearing_stack ⟨q_0, q_1, q_2, q_3, q_4, q_5, q_6, q_7, q_8, q_9, q_10, q_11, q_12, q_13, q_14⟩ => ?_)
  exact ⟨⟨a_0_0, a_0_1, a_0_2, a_0_3, q_0, q_1, q_2, q_3, q_4, q_5, q_6, q_7, q_8, q_9, q_10, q_11, q_12, q_13⟩, ⟨a_1_0, a_1_1, a_1_2, a_1_3, a_1_4, a_1_5, a_1_6, a_1_7, a_1_8, q_14⟩⟩
set_option maxHeartbeats 4000000 in
set_option maxRecDepth 20000 in
theorem st8_flat {v_now_rows : Int32} {v_now_cols : Int32} {v_now_high : Int32} {v_now_wide : Int32} {v_now_rowOf : List Int32} {v_now_colOf : List Int32} {v_now_below : List Int32} {v_now_face : List Int32} {v_now_worn : List Int32} {v_now_last : List Int32} {v_now_bend : List Int32} {v_now_tall : List Int32} (g_0 : gi_sh v_now_rows v_now_cols v_now_high v_now_wide v_now_rowOf v_now_colOf v_now_below v_now_face v_now_worn v_now_last v_now_bend v_now_tall) : wp (fX8_flat 700 v_now_rows v_now_cols v_now_high v_now_wide v_now_rowOf v_now_colOf v_now_below v_now_face) (cu7 (fun (r : Int32) (wv_now_high : Int32) (wv_now_wide : Int32) (wv_now_rowOf : List Int32) (wv_now_colOf : List Int32) (wv_now_below : List Int32) (wv_now_face : List Int32) => gi_sh v_now_rows v_now_cols wv_now_high wv_now_wide wv_now_rowOf wv_now_colOf wv_now_below wv_now_face v_now_worn v_now_last v_now_bend v_now_tall)) := by
  obtain ⟨a_0_0, a_0_1, a_0_2, a_0_3, a_0_4, a_0_5, a_0_6, a_0_7, a_0_8, a_0_9, a_0_10, a_0_11, a_0_12, a_0_13, a_0_14, a_0_15, a_0_16, a_0_17⟩ := id g_0
  refine wp_cu7 (sf_X8_flat (Nat.le_refl 700) a_0_0 a_0_1 a_0_2 a_0_3 a_0_4 a_0_5 a_0_6 a_0_7 a_0_8 a_0_9 a_0_10 a_0_11 a_0_16 a_0_17) (fun r wv_now_high wv_now_wide wv_now_rowOf wv_now_colOf wv_now_below wv_now_face ⟨q_0, q_1, q_2, q_3, q_4, q_5, q_6, q_7, q_8, q_9⟩ => ?_)
  exact ⟨a_0_0, a_0_1, a_0_2, a_0_3, q_0, q_1, q_2, q_3, q_4, q_5, q_6, q_7, a_0_12, a_0_13, a_0_14, a_0_15, q_8, q_9⟩
set_option maxHeartbeats 4000000 in
set_option maxRecDepth 20000 in
theorem st8_crease {x1 : Int32} {x2 : Int32} {v_now_rows : Int32} {v_now_cols : Int32} {v_now_worn : List Int32} {v_now_last : List Int32} {v_changes_value : Int32} {v_now_high : Int32} {v_now_wide : Int32} {v_now_rowOf : List Int32} {v_now_colOf : List Int32} {v_now_below : List Int32} {v_now_face : List Int32} {v_now_bend : List Int32} {v_now_tall : List Int32} (g_0 : gi_sh v_now_rows v_now_cols v_now_high v_now_wide v_now_rowOf v_now_colOf v_now_below v_now_face v_now_worn v_now_last v_now_bend v_now_tall) : wp (fX8_crease 700 x1 x2 v_now_rows v_now_cols v_now_worn v_now_last v_changes_value) (fun (r : Int32) => True) := by
  obtain ⟨a_0_0, a_0_1, a_0_2, a_0_3, a_0_4, a_0_5, a_0_6, a_0_7, a_0_8, a_0_9, a_0_10, a_0_11, a_0_12, a_0_13, a_0_14, a_0_15, a_0_16, a_0_17⟩ := id g_0
  refine wp_cu1 (sf_X8_crease (Nat.le_refl 700) a_0_0 a_0_1 a_0_2 a_0_3 a_0_12 a_0_13) (fun r _ => ?_)
  exact trivial
set_option maxHeartbeats 4000000 in
set_option maxRecDepth 20000 in
theorem st8_shape {x1 : Int32} {v_now_rows : Int32} {v_now_cols : Int32} {v_now_high : Int32} {v_now_wide : Int32} {v_now_below : List Int32} {v_now_rowOf : List Int32} {v_now_colOf : List Int32} {v_now_face : List Int32} {v_now_worn : List Int32} {v_now_last : List Int32} {v_now_bend : List Int32} {v_now_tall : List Int32} (g_0 : gi_sh v_now_rows v_now_cols v_now_high v_now_wide v_now_rowOf v_now_colOf v_now_below v_now_face v_now_worn v_now_last v_now_bend v_now_tall) : wp (fX8_shape 700 x1 v_now_rows v_now_cols v_now_high v_now_wide v_now_below) (fun (r : Int32) => True) := by
  obtain ⟨a_0_0, a_0_1, a_0_2, a_0_3, a_0_4, a_0_5, a_0_6, a_0_7, a_0_8, a_0_9, a_0_10, a_0_11, a_0_12, a_0_13, a_0_14, a_0_15, a_0_16, a_0_17⟩ := id g_0
  refine wp_cu1 (sf_X8_shape (Nat.le_refl 700) a_0_0 a_0_1 a_0_2 a_0_3 a_0_4 a_0_5 a_0_6 a_0_7 a_0_10) (fun r _ => ?_)
  exact trivial
set_option maxHeartbeats 4000000 in
set_option maxRecDepth 20000 in
theorem st8_where {x1 : Int32} {x2 : Int32} {v_now_rows : Int32} {v_now_cols : Int32} {v_now_rowOf : List Int32} {v_now_colOf : List Int32} {v_now_below : List Int32} {v_now_face : List Int32} {v_now_high : Int32} {v_now_wide : Int32} {v_now_worn : List Int32} {v_now_last : List Int32} {v_now_bend : List Int32} {v_now_tall : List Int32} (g_0 : gi_sh v_now_rows v_now_cols v_now_high v_now_wide v_now_rowOf v_now_colOf v_now_below v_now_face v_now_worn v_now_last v_now_bend v_now_tall) : wp (fX8_where 700 x1 x2 v_now_rows v_now_cols v_now_rowOf v_now_colOf v_now_below v_now_face) (fun (r : Int32) => True) := by
  obtain ⟨a_0_0, a_0_1, a_0_2, a_0_3, a_0_4, a_0_5, a_0_6, a_0_7, a_0_8, a_0_9, a_0_10, a_0_11, a_0_12, a_0_13, a_0_14, a_0_15, a_0_16, a_0_17⟩ := id g_0
  refine wp_cu1 (sf_X8_where (Nat.le_refl 700) a_0_0 a_0_1 a_0_2 a_0_3 a_0_8 a_0_9 a_0_10 a_0_11) (fun r _ => ?_)
  exact trivial
set_option maxHeartbeats 4000000 in
set_option maxRecDepth 20000 in
theorem st8_pile {x1 : Int32} {x2 : Int32} {v_now_rows : Int32} {v_now_cols : Int32} {v_now_high : Int32} {v_now_wide : Int32} {v_now_rowOf : List Int32} {v_now_colOf : List Int32} {v_now_below : List Int32} {v_now_face : List Int32} {v_now_worn : List Int32} {v_now_last : List Int32} {v_now_bend : List Int32} {v_now_tall : List Int32} (g_0 : gi_sh v_now_rows v_now_cols v_now_high v_now_wide v_now_rowOf v_now_colOf v_now_below v_now_face v_now_worn v_now_last v_now_bend v_now_tall) : wp (fX8_pile 700 x1 x2 v_now_rows v_now_cols v_now_high v_now_wide v_now_rowOf v_now_colOf v_now_below) (fun (r : Int32) => True) := by
  obtain ⟨a_0_0, a_0_1, a_0_2, a_0_3, a_0_4, a_0_5, a_0_6, a_0_7, a_0_8, a_0_9, a_0_10, a_0_11, a_0_12, a_0_13, a_0_14, a_0_15, a_0_16, a_0_17⟩ := id g_0
  refine wp_cu1 (sf_X8_pile (Nat.le_refl 700) a_0_0 a_0_1 a_0_2 a_0_3 a_0_4 a_0_5 a_0_6 a_0_7 a_0_8 a_0_9 a_0_10 a_0_16 a_0_17) (fun r _ => ?_)
  exact trivial
set_option maxHeartbeats 4000000 in
set_option maxRecDepth 20000 in
theorem st8_led {x1 : Int32} {v_now_rows : Int32} {v_now_cols : Int32} {v_now_folds : Int32} {v_now_wrong : Int32} {v_now_worn : List Int32} {v_changes_value : Int32} {v_now_high : Int32} {v_now_wide : Int32} {v_now_rowOf : List Int32} {v_now_colOf : List Int32} {v_now_below : List Int32} {v_now_face : List Int32} {v_now_last : List Int32} {v_now_bend : List Int32} {v_now_tall : List Int32} (g_0 : gi_sh v_now_rows v_now_cols v_now_high v_now_wide v_now_rowOf v_now_colOf v_now_below v_now_face v_now_worn v_now_last v_now_bend v_now_tall) : wp (fX8_led 700 x1 v_now_rows v_now_cols v_now_folds v_now_wrong v_now_worn v_changes_value) (fun (r : Int32) => True) := by
  obtain ⟨a_0_0, a_0_1, a_0_2, a_0_3, a_0_4, a_0_5, a_0_6, a_0_7, a_0_8, a_0_9, a_0_10, a_0_11, a_0_12, a_0_13, a_0_14, a_0_15, a_0_16, a_0_17⟩ := id g_0
  refine wp_cu1 (sf_X8_led (Nat.le_refl 700) a_0_0 a_0_1 a_0_2 a_0_3 a_0_12) (fun r _ => ?_)
  exact trivial
set_option maxHeartbeats 4000000 in
set_option maxRecDepth 20000 in
theorem st8_plan {x1 : Int32} {x2 : Int32} {v_planned_size : Int32} {v_planned_lines : List Int32} {v_planned_ways : List Int32} (g_0 : gi_pl v_planned_size v_planned_lines v_planned_ways) : wp (fX8_plan 700 x1 x2 v_planned_size v_planned_lines v_planned_ways) (cu4 (fun (r : Int32) (wv_planned_size : Int32) (wv_planned_lines : List Int32) (wv_planned_ways : List Int32) => gi_pl wv_planned_size wv_planned_lines wv_planned_ways)) := by
  obtain ⟨a_0_0, a_0_1, a_0_2, a_0_3⟩ := id g_0
  refine wp_cu4 (sf_X8_plan (Nat.le_refl 700) a_0_0 a_0_1 a_0_2 a_0_3) (fun r wv_planned_size wv_planned_lines wv_planned_ways ⟨q_0, q_1, q_2, q_3⟩ => ?_)
  exact ⟨q_0, q_1, q_2, q_3⟩
set_option maxHeartbeats 4000000 in
set_option maxRecDepth 20000 in
theorem st8_plans {x1 : Int32} {x2 : Int32} {x3 : Int32} {v_planned_size : Int32} {v_planned_lines : List Int32} {v_planned_ways : List Int32} {v_shelves0_holds : Int32} {v_shelves0_sort : Int32} {v_shelves0_size : Int32} {v_shelves0_items : List Int64} {v_shelves1_holds : Int32} {v_shelves1_sort : Int32} {v_shelves1_size : Int32} {v_shelves1_items : List Int64} {v_shelves2_holds : Int32} {v_shelves2_sort : Int32} {v_shelves2_size : Int32} {v_shelves2_items : List Int64} {v_shelves3_holds : Int32} {v_shelves3_sort : Int32} {v_shelves3_size : Int32} {v_shelves3_items : List Int64} {v_shelves4_holds : Int32} {v_shelves4_sort : Int32} {v_shelves4_size : Int32} {v_shelves4_items : List Int64} {v_shelves5_holds : Int32} {v_shelves5_sort : Int32} {v_shelves5_size : Int32} {v_shelves5_items : List Int64} (g_0 : gi_pl v_planned_size v_planned_lines v_planned_ways) (g_1 : gi_sf v_shelves0_size v_shelves0_items) (g_2 : gi_sf v_shelves1_size v_shelves1_items) (g_3 : gi_sf v_shelves2_size v_shelves2_items) (g_4 : gi_sf v_shelves3_size v_shelves3_items) (g_5 : gi_sf v_shelves4_size v_shelves4_items) (g_6 : gi_sf v_shelves5_size v_shelves5_items) : wp (fX8_plans 700 x1 x2 x3 v_planned_size v_planned_lines v_planned_ways v_shelves0_holds v_shelves0_sort v_shelves0_size v_shelves0_items v_shelves1_holds v_shelves1_sort v_shelves1_size v_shelves1_items v_shelves2_holds v_shelves2_sort v_shelves2_size v_shelves2_items v_shelves3_holds v_shelves3_sort v_shelves3_size v_shelves3_items v_shelves4_holds v_shelves4_sort v_shelves4_size v_shelves4_items v_shelves5_holds v_shelves5_sort v_shelves5_size v_shelves5_items) (cu4 (fun (r : Int32) (wv_planned_size : Int32) (wv_planned_lines : List Int32) (wv_planned_ways : List Int32) => gi_pl wv_planned_size wv_planned_lines wv_planned_ways)) := by
  obtain ⟨a_0_0, a_0_1, a_0_2, a_0_3⟩ := id g_0
  obtain ⟨a_1_0, a_1_1, a_1_2⟩ := id g_1
  obtain ⟨a_2_0, a_2_1, a_2_2⟩ := id g_2
  obtain ⟨a_3_0, a_3_1, a_3_2⟩ := id g_3
  obtain ⟨a_4_0, a_4_1, a_4_2⟩ := id g_4
  obtain ⟨a_5_0, a_5_1, a_5_2⟩ := id g_5
  obtain ⟨a_6_0, a_6_1, a_6_2⟩ := id g_6
  refine wp_cu4 (sf_X8_plans (Nat.le_refl 700) a_0_0 a_0_1 a_0_2 a_0_3 a_1_0 a_1_1 a_1_2 a_2_0 a_2_1 a_2_2 a_3_0 a_3_1 a_3_2 a_4_0 a_4_1 a_4_2 a_5_0 a_5_1 a_5_2 a_6_0 a_6_1 a_6_2) (fun r wv_planned_size wv_planned_lines wv_planned_ways ⟨q_0, q_1, q_2, q_3⟩ => ?_)
  exact ⟨q_0, q_1, q_2, q_3⟩
set_option maxHeartbeats 4000000 in
set_option maxRecDepth 20000 in
theorem st8_cost {x1 : Int32} {v_now_rows : Int32} {v_now_cols : Int32} {v_now_high : Int32} {v_now_wide : Int32} {v_now_folds : Int32} {v_now_wrong : Int32} {v_now_more : Int32} {v_now_rowOf : List Int32} {v_now_colOf : List Int32} {v_now_below : List Int32} {v_now_face : List Int32} {v_now_worn : List Int32} {v_now_last : List Int32} {v_wearing_stepCount : Int32} {v_wearing_stacked : Int32} {v_wearing_steps : List Int32} {v_wearing_stack : List Int32} {v_planned_size : Int32} {v_planned_trial_rows : Int32} {v_planned_trial_cols : Int32} {v_planned_trial_high : Int32} {v_planned_trial_wide : Int32} {v_planned_trial_folds : Int32} {v_planned_trial_wrong : Int32} {v_planned_trial_more : Int32} {v_planned_trial_rowOf : List Int32} {v_planned_trial_colOf : List Int32} {v_planned_trial_below : List Int32} {v_planned_trial_face : List Int32} {v_planned_trial_worn : List Int32} {v_planned_trial_last : List Int32} {v_planned_trial_bend : List Int32} {v_planned_trial_tall : List Int32} {v_planned_lines : List Int32} {v_planned_ways : List Int32} {v_changes_value : Int32} {v_now_bend : List Int32} {v_now_tall : List Int32} {v_wearing_size : Int32} {v_wearing_draftCount : Int32} {v_wearing_tape : List Int32} {v_wearing_draft : List Int32} (g_0 : gi_sh v_now_rows v_now_cols v_now_high v_now_wide v_now_rowOf v_now_colOf v_now_below v_now_face v_now_worn v_now_last v_now_bend v_now_tall) (g_1 : gi_la v_wearing_size v_wearing_stepCount v_wearing_draftCount v_wearing_tape v_wearing_steps v_wearing_draft v_wearing_stack) (g_2 : gi_pl v_planned_size v_planned_lines v_planned_ways) (g_3 : gi_sh v_planned_trial_rows v_planned_trial_cols v_planned_trial_high v_planned_trial_wide v_planned_trial_rowOf v_planned_trial_colOf v_planned_trial_below v_planned_trial_face v_planned_trial_worn v_planned_trial_last v_planned_trial_bend v_planned_trial_tall) : wp (fX8_cost 700 x1 v_now_rows v_now_cols v_now_high v_now_wide v_now_folds v_now_wrong v_now_more v_now_rowOf v_now_colOf v_now_below v_now_face v_now_worn v_now_last v_wearing_stepCount v_wearing_stacked v_wearing_steps v_wearing_stack v_planned_size v_planned_trial_rows v_planned_trial_cols v_planned_trial_high v_planned_trial_wide v_planned_trial_folds v_planned_trial_wrong v_planned_trial_more v_planned_trial_rowOf v_planned_trial_colOf v_planned_trial_below v_planned_trial_face v_planned_trial_worn v_planned_trial_last v_planned_trial_bend v_planned_trial_tall v_planned_lines v_planned_ways v_changes_value) (cu18 (fun (r : Int32) (wv_wearing_stacked : Int32) (wv_wearing_stack : List Int32) (wv_planned_trial_rows : Int32) (wv_planned_trial_cols : Int32) (wv_planned_trial_high : Int32) (wv_planned_trial_wide : Int32) (wv_planned_trial_folds : Int32) (wv_planned_trial_wrong : Int32) (wv_planned_trial_more : Int32) (wv_planned_trial_rowOf : List Int32) (wv_planned_trial_colOf : List Int32) (wv_planned_trial_below : List Int32) (wv_planned_trial_face : List Int32) (wv_planned_trial_worn : List Int32) (wv_planned_trial_last : List Int32) (wv_planned_trial_bend : List Int32) (wv_planned_trial_tall : List Int32) => gi_la v_wearing_size v_wearing_stepCount v_wearing_draftCount v_wearing_tape v_wearing_steps v_wearing_draft wv_wearing_stack ∧ gi_sh wv_planned_trial_rows wv_planned_trial_cols wv_planned_trial_high wv_planned_trial_wide wv_planned_trial_rowOf wv_planned_trial_colOf wv_planned_trial_below wv_planned_trial_face wv_planned_trial_worn wv_planned_trial_last wv_planned_trial_bend wv_planned_trial_tall)) := by
  obtain ⟨a_0_0, a_0_1, a_0_2, a_0_3, a_0_4, a_0_5, a_0_6, a_0_7, a_0_8, a_0_9, a_0_10, a_0_11, a_0_12, a_0_13, a_0_14, a_0_15, a_0_16, a_0_17⟩ := id g_0
  obtain ⟨a_1_0, a_1_1, a_1_2, a_1_3, a_1_4, a_1_5, a_1_6, a_1_7, a_1_8, a_1_9⟩ := id g_1
  obtain ⟨a_2_0, a_2_1, a_2_2, a_2_3⟩ := id g_2
  obtain ⟨a_3_0, a_3_1, a_3_2, a_3_3, a_3_4, a_3_5, a_3_6, a_3_7, a_3_8, a_3_9, a_3_10, a_3_11, a_3_12, a_3_13, a_3_14, a_3_15, a_3_16, a_3_17⟩ := id g_3
  refine wp_cu18 (sf_X8_cost (Nat.le_refl 700) a_0_0 a_0_1 a_0_2 a_0_3 a_0_4 a_0_5 a_0_6 a_0_7 a_0_8 a_0_9 a_0_10 a_0_11 a_0_12 a_0_13 a_0_16 a_0_17 a_1_2 a_1_3 a_1_7 a_1_9 a_2_0 a_2_1 a_2_2 a_2_3 a_3_0 a_3_1 a_3_2 a_3_3 a_3_4 a_3_5 a_3_6 a_3_7 a_3_8 a_3_9 a_3_10 a_3_11 a_3_12 a_3_13 a_3_14 a_3_15 a_3_16 a_3_17) (fun r wv_wearing_stacked wv_wearing_stack wv_planned_trial_rows wv_planned_trial_cols wv_planned_trial_high wv_planned_trial_wide wv_planned_trial_folds wv_planned_trial_wrong wv_planned_trial_more wv_planned_trial_rowOf wv_planned_trial_colOf wv_planned_trial_below wv_planned_trial_face wv_planned_trial_worn wv_planned_trial_last wv_planned_trial_bend wv_planned_trial_tall ⟨q_0, q_1, q_2, q_3, q_4, q_5, q_6, q_7, q_8, q_9, q_10, q_11, q_12, q_13, q_14, q_15, q_16, q_17, q_18⟩ => ?_)
  exact ⟨⟨a_1_0, a_1_1, a_1_2, a_1_3, a_1_4, a_1_5, a_1_6, a_1_7, a_1_8, q_0⟩, ⟨q_1, q_2, q_3, q_4, q_5, q_6, q_7, q_8, q_9, q_10, q_11, q_12, q_13, q_14, q_15, q_16, q_17, q_18⟩⟩
set_option maxHeartbeats 4000000 in
set_option maxRecDepth 20000 in
theorem st8_lies {x1 : Int32} {x2 : Int32} {v_now_rows : Int32} {v_now_cols : Int32} {v_now_high : Int32} {v_now_wide : Int32} {v_now_folds : Int32} {v_now_wrong : Int32} {v_now_more : Int32} {v_now_rowOf : List Int32} {v_now_colOf : List Int32} {v_now_below : List Int32} {v_now_face : List Int32} {v_now_worn : List Int32} {v_now_last : List Int32} {v_wearing_stepCount : Int32} {v_wearing_stacked : Int32} {v_wearing_steps : List Int32} {v_wearing_stack : List Int32} {v_planned_size : Int32} {v_planned_trial_rows : Int32} {v_planned_trial_cols : Int32} {v_planned_trial_high : Int32} {v_planned_trial_wide : Int32} {v_planned_trial_folds : Int32} {v_planned_trial_wrong : Int32} {v_planned_trial_more : Int32} {v_planned_trial_rowOf : List Int32} {v_planned_trial_colOf : List Int32} {v_planned_trial_below : List Int32} {v_planned_trial_face : List Int32} {v_planned_trial_worn : List Int32} {v_planned_trial_last : List Int32} {v_planned_trial_bend : List Int32} {v_planned_trial_tall : List Int32} {v_planned_lines : List Int32} {v_planned_ways : List Int32} {v_changes_value : Int32} {v_now_bend : List Int32} {v_now_tall : List Int32} {v_wearing_size : Int32} {v_wearing_draftCount : Int32} {v_wearing_tape : List Int32} {v_wearing_draft : List Int32} (g_0 : gi_sh v_now_rows v_now_cols v_now_high v_now_wide v_now_rowOf v_now_colOf v_now_below v_now_face v_now_worn v_now_last v_now_bend v_now_tall) (g_1 : gi_la v_wearing_size v_wearing_stepCount v_wearing_draftCount v_wearing_tape v_wearing_steps v_wearing_draft v_wearing_stack) (g_2 : gi_pl v_planned_size v_planned_lines v_planned_ways) (g_3 : gi_sh v_planned_trial_rows v_planned_trial_cols v_planned_trial_high v_planned_trial_wide v_planned_trial_rowOf v_planned_trial_colOf v_planned_trial_below v_planned_trial_face v_planned_trial_worn v_planned_trial_last v_planned_trial_bend v_planned_trial_tall) : wp (fX8_lies 700 x1 x2 v_now_rows v_now_cols v_now_high v_now_wide v_now_folds v_now_wrong v_now_more v_now_rowOf v_now_colOf v_now_below v_now_face v_now_worn v_now_last v_wearing_stepCount v_wearing_stacked v_wearing_steps v_wearing_stack v_planned_size v_planned_trial_rows v_planned_trial_cols v_planned_trial_high v_planned_trial_wide v_planned_trial_folds v_planned_trial_wrong v_planned_trial_more v_planned_trial_rowOf v_planned_trial_colOf v_planned_trial_below v_planned_trial_face v_planned_trial_worn v_planned_trial_last v_planned_trial_bend v_planned_trial_tall v_planned_lines v_planned_ways v_changes_value) (cu18 (fun (r : Int32) (wv_wearing_stacked : Int32) (wv_wearing_stack : List Int32) (wv_planned_trial_rows : Int32) (wv_planned_trial_cols : Int32) (wv_planned_trial_high : Int32) (wv_planned_trial_wide : Int32) (wv_planned_trial_folds : Int32) (wv_planned_trial_wrong : Int32) (wv_planned_trial_more : Int32) (wv_planned_trial_rowOf : List Int32) (wv_planned_trial_colOf : List Int32) (wv_planned_trial_below : List Int32) (wv_planned_trial_face : List Int32) (wv_planned_trial_worn : List Int32) (wv_planned_trial_last : List Int32) (wv_planned_trial_bend : List Int32) (wv_planned_trial_tall : List Int32) => gi_la v_wearing_size v_wearing_stepCount v_wearing_draftCount v_wearing_tape v_wearing_steps v_wearing_draft wv_wearing_stack ∧ gi_sh wv_planned_trial_rows wv_planned_trial_cols wv_planned_trial_high wv_planned_trial_wide wv_planned_trial_rowOf wv_planned_trial_colOf wv_planned_trial_below wv_planned_trial_face wv_planned_trial_worn wv_planned_trial_last wv_planned_trial_bend wv_planned_trial_tall)) := by
  obtain ⟨a_0_0, a_0_1, a_0_2, a_0_3, a_0_4, a_0_5, a_0_6, a_0_7, a_0_8, a_0_9, a_0_10, a_0_11, a_0_12, a_0_13, a_0_14, a_0_15, a_0_16, a_0_17⟩ := id g_0
  obtain ⟨a_1_0, a_1_1, a_1_2, a_1_3, a_1_4, a_1_5, a_1_6, a_1_7, a_1_8, a_1_9⟩ := id g_1
  obtain ⟨a_2_0, a_2_1, a_2_2, a_2_3⟩ := id g_2
  obtain ⟨a_3_0, a_3_1, a_3_2, a_3_3, a_3_4, a_3_5, a_3_6, a_3_7, a_3_8, a_3_9, a_3_10, a_3_11, a_3_12, a_3_13, a_3_14, a_3_15, a_3_16, a_3_17⟩ := id g_3
  refine wp_cu18 (sf_X8_lies (Nat.le_refl 700) a_0_0 a_0_1 a_0_2 a_0_3 a_0_4 a_0_5 a_0_6 a_0_7 a_0_8 a_0_9 a_0_10 a_0_11 a_0_12 a_0_13 a_0_16 a_0_17 a_1_2 a_1_3 a_1_7 a_1_9 a_2_0 a_2_1 a_2_2 a_2_3 a_3_0 a_3_1 a_3_2 a_3_3 a_3_4 a_3_5 a_3_6 a_3_7 a_3_8 a_3_9 a_3_10 a_3_11 a_3_12 a_3_13 a_3_14 a_3_15 a_3_16 a_3_17) (fun r wv_wearing_stacked wv_wearing_stack wv_planned_trial_rows wv_planned_trial_cols wv_planned_trial_high wv_planned_trial_wide wv_planned_trial_folds wv_planned_trial_wrong wv_planned_trial_more wv_planned_trial_rowOf wv_planned_trial_colOf wv_planned_trial_below wv_planned_trial_face wv_planned_trial_worn wv_planned_trial_last wv_planned_trial_bend wv_planned_trial_tall ⟨q_0, q_1, q_2, q_3, q_4, q_5, q_6, q_7, q_8, q_9, q_10, q_11, q_12, q_13, q_14, q_15, q_16, q_17, q_18⟩ => ?_)
  exact ⟨⟨a_1_0, a_1_1, a_1_2, a_1_3, a_1_4, a_1_5, a_1_6, a_1_7, a_1_8, q_0⟩, ⟨q_1, q_2, q_3, q_4, q_5, q_6, q_7, q_8, q_9, q_10, q_11, q_12, q_13, q_14, q_15, q_16, q_17, q_18⟩⟩
set_option maxHeartbeats 4000000 in
set_option maxRecDepth 20000 in
theorem st8_top {x1 : Int32} {x2 : Int32} {v_now_rows : Int32} {v_now_cols : Int32} {v_now_high : Int32} {v_now_wide : Int32} {v_now_folds : Int32} {v_now_wrong : Int32} {v_now_more : Int32} {v_now_rowOf : List Int32} {v_now_colOf : List Int32} {v_now_below : List Int32} {v_now_face : List Int32} {v_now_worn : List Int32} {v_now_last : List Int32} {v_wearing_stepCount : Int32} {v_wearing_stacked : Int32} {v_wearing_steps : List Int32} {v_wearing_stack : List Int32} {v_planned_size : Int32} {v_planned_trial_rows : Int32} {v_planned_trial_cols : Int32} {v_planned_trial_high : Int32} {v_planned_trial_wide : Int32} {v_planned_trial_folds : Int32} {v_planned_trial_wrong : Int32} {v_planned_trial_more : Int32} {v_planned_trial_rowOf : List Int32} {v_planned_trial_colOf : List Int32} {v_planned_trial_below : List Int32} {v_planned_trial_face : List Int32} {v_planned_trial_worn : List Int32} {v_planned_trial_last : List Int32} {v_planned_trial_bend : List Int32} {v_planned_trial_tall : List Int32} {v_planned_lines : List Int32} {v_planned_ways : List Int32} {v_changes_value : Int32} {v_now_bend : List Int32} {v_now_tall : List Int32} {v_wearing_size : Int32} {v_wearing_draftCount : Int32} {v_wearing_tape : List Int32} {v_wearing_draft : List Int32} (g_0 : gi_sh v_now_rows v_now_cols v_now_high v_now_wide v_now_rowOf v_now_colOf v_now_below v_now_face v_now_worn v_now_last v_now_bend v_now_tall) (g_1 : gi_la v_wearing_size v_wearing_stepCount v_wearing_draftCount v_wearing_tape v_wearing_steps v_wearing_draft v_wearing_stack) (g_2 : gi_pl v_planned_size v_planned_lines v_planned_ways) (g_3 : gi_sh v_planned_trial_rows v_planned_trial_cols v_planned_trial_high v_planned_trial_wide v_planned_trial_rowOf v_planned_trial_colOf v_planned_trial_below v_planned_trial_face v_planned_trial_worn v_planned_trial_last v_planned_trial_bend v_planned_trial_tall) : wp (fX8_top 700 x1 x2 v_now_rows v_now_cols v_now_high v_now_wide v_now_folds v_now_wrong v_now_more v_now_rowOf v_now_colOf v_now_below v_now_face v_now_worn v_now_last v_wearing_stepCount v_wearing_stacked v_wearing_steps v_wearing_stack v_planned_size v_planned_trial_rows v_planned_trial_cols v_planned_trial_high v_planned_trial_wide v_planned_trial_folds v_planned_trial_wrong v_planned_trial_more v_planned_trial_rowOf v_planned_trial_colOf v_planned_trial_below v_planned_trial_face v_planned_trial_worn v_planned_trial_last v_planned_trial_bend v_planned_trial_tall v_planned_lines v_planned_ways v_changes_value) (cu18 (fun (r : Int32) (wv_wearing_stacked : Int32) (wv_wearing_stack : List Int32) (wv_planned_trial_rows : Int32) (wv_planned_trial_cols : Int32) (wv_planned_trial_high : Int32) (wv_planned_trial_wide : Int32) (wv_planned_trial_folds : Int32) (wv_planned_trial_wrong : Int32) (wv_planned_trial_more : Int32) (wv_planned_trial_rowOf : List Int32) (wv_planned_trial_colOf : List Int32) (wv_planned_trial_below : List Int32) (wv_planned_trial_face : List Int32) (wv_planned_trial_worn : List Int32) (wv_planned_trial_last : List Int32) (wv_planned_trial_bend : List Int32) (wv_planned_trial_tall : List Int32) => gi_la v_wearing_size v_wearing_stepCount v_wearing_draftCount v_wearing_tape v_wearing_steps v_wearing_draft wv_wearing_stack ∧ gi_sh wv_planned_trial_rows wv_planned_trial_cols wv_planned_trial_high wv_planned_trial_wide wv_planned_trial_rowOf wv_planned_trial_colOf wv_planned_trial_below wv_planned_trial_face wv_planned_trial_worn wv_planned_trial_last wv_planned_trial_bend wv_planned_trial_tall)) := by
  obtain ⟨a_0_0, a_0_1, a_0_2, a_0_3, a_0_4, a_0_5, a_0_6, a_0_7, a_0_8, a_0_9, a_0_10, a_0_11, a_0_12, a_0_13, a_0_14, a_0_15, a_0_16, a_0_17⟩ := id g_0
  obtain ⟨a_1_0, a_1_1, a_1_2, a_1_3, a_1_4, a_1_5, a_1_6, a_1_7, a_1_8, a_1_9⟩ := id g_1
  obtain ⟨a_2_0, a_2_1, a_2_2, a_2_3⟩ := id g_2
  obtain ⟨a_3_0, a_3_1, a_3_2, a_3_3, a_3_4, a_3_5, a_3_6, a_3_7, a_3_8, a_3_9, a_3_10, a_3_11, a_3_12, a_3_13, a_3_14, a_3_15, a_3_16, a_3_17⟩ := id g_3
  refine wp_cu18 (sf_X8_top (Nat.le_refl 700) a_0_0 a_0_1 a_0_2 a_0_3 a_0_4 a_0_5 a_0_6 a_0_7 a_0_8 a_0_9 a_0_10 a_0_11 a_0_12 a_0_13 a_0_16 a_0_17 a_1_2 a_1_3 a_1_7 a_1_9 a_2_0 a_2_1 a_2_2 a_2_3 a_3_0 a_3_1 a_3_2 a_3_3 a_3_4 a_3_5 a_3_6 a_3_7 a_3_8 a_3_9 a_3_10 a_3_11 a_3_12 a_3_13 a_3_14 a_3_15 a_3_16 a_3_17) (fun r wv_wearing_stacked wv_wearing_stack wv_planned_trial_rows wv_planned_trial_cols wv_planned_trial_high wv_planned_trial_wide wv_planned_trial_folds wv_planned_trial_wrong wv_planned_trial_more wv_planned_trial_rowOf wv_planned_trial_colOf wv_planned_trial_below wv_planned_trial_face wv_planned_trial_worn wv_planned_trial_last wv_planned_trial_bend wv_planned_trial_tall ⟨q_0, q_1, q_2, q_3, q_4, q_5, q_6, q_7, q_8, q_9, q_10, q_11, q_12, q_13, q_14, q_15, q_16, q_17, q_18⟩ => ?_)
  exact ⟨⟨a_1_0, a_1_1, a_1_2, a_1_3, a_1_4, a_1_5, a_1_6, a_1_7, a_1_8, q_0⟩, ⟨q_1, q_2, q_3, q_4, q_5, q_6, q_7, q_8, q_9, q_10, q_11, q_12, q_13, q_14, q_15, q_16, q_17, q_18⟩⟩
set_option maxHeartbeats 4000000 in
set_option maxRecDepth 20000 in
theorem st8_beside {x1 : Int32} {x2 : Int32} {v_now_rows : Int32} {v_now_cols : Int32} {v_now_high : Int32} {v_now_wide : Int32} {v_now_folds : Int32} {v_now_wrong : Int32} {v_now_more : Int32} {v_now_rowOf : List Int32} {v_now_colOf : List Int32} {v_now_below : List Int32} {v_now_face : List Int32} {v_now_worn : List Int32} {v_now_last : List Int32} {v_wearing_stepCount : Int32} {v_wearing_stacked : Int32} {v_wearing_steps : List Int32} {v_wearing_stack : List Int32} {v_planned_size : Int32} {v_planned_trial_rows : Int32} {v_planned_trial_cols : Int32} {v_planned_trial_high : Int32} {v_planned_trial_wide : Int32} {v_planned_trial_folds : Int32} {v_planned_trial_wrong : Int32} {v_planned_trial_more : Int32} {v_planned_trial_rowOf : List Int32} {v_planned_trial_colOf : List Int32} {v_planned_trial_below : List Int32} {v_planned_trial_face : List Int32} {v_planned_trial_worn : List Int32} {v_planned_trial_last : List Int32} {v_planned_trial_bend : List Int32} {v_planned_trial_tall : List Int32} {v_planned_lines : List Int32} {v_planned_ways : List Int32} {v_changes_value : Int32} {v_now_bend : List Int32} {v_now_tall : List Int32} {v_wearing_size : Int32} {v_wearing_draftCount : Int32} {v_wearing_tape : List Int32} {v_wearing_draft : List Int32} (g_0 : gi_sh v_now_rows v_now_cols v_now_high v_now_wide v_now_rowOf v_now_colOf v_now_below v_now_face v_now_worn v_now_last v_now_bend v_now_tall) (g_1 : gi_la v_wearing_size v_wearing_stepCount v_wearing_draftCount v_wearing_tape v_wearing_steps v_wearing_draft v_wearing_stack) (g_2 : gi_pl v_planned_size v_planned_lines v_planned_ways) (g_3 : gi_sh v_planned_trial_rows v_planned_trial_cols v_planned_trial_high v_planned_trial_wide v_planned_trial_rowOf v_planned_trial_colOf v_planned_trial_below v_planned_trial_face v_planned_trial_worn v_planned_trial_last v_planned_trial_bend v_planned_trial_tall) : wp (fX8_beside 700 x1 x2 v_now_rows v_now_cols v_now_high v_now_wide v_now_folds v_now_wrong v_now_more v_now_rowOf v_now_colOf v_now_below v_now_face v_now_worn v_now_last v_wearing_stepCount v_wearing_stacked v_wearing_steps v_wearing_stack v_planned_size v_planned_trial_rows v_planned_trial_cols v_planned_trial_high v_planned_trial_wide v_planned_trial_folds v_planned_trial_wrong v_planned_trial_more v_planned_trial_rowOf v_planned_trial_colOf v_planned_trial_below v_planned_trial_face v_planned_trial_worn v_planned_trial_last v_planned_trial_bend v_planned_trial_tall v_planned_lines v_planned_ways v_changes_value) (cu18 (fun (r : Int32) (wv_wearing_stacked : Int32) (wv_wearing_stack : List Int32) (wv_planned_trial_rows : Int32) (wv_planned_trial_cols : Int32) (wv_planned_trial_high : Int32) (wv_planned_trial_wide : Int32) (wv_planned_trial_folds : Int32) (wv_planned_trial_wrong : Int32) (wv_planned_trial_more : Int32) (wv_planned_trial_rowOf : List Int32) (wv_planned_trial_colOf : List Int32) (wv_planned_trial_below : List Int32) (wv_planned_trial_face : List Int32) (wv_planned_trial_worn : List Int32) (wv_planned_trial_last : List Int32) (wv_planned_trial_bend : List Int32) (wv_planned_trial_tall : List Int32) => gi_la v_wearing_size v_wearing_stepCount v_wearing_draftCount v_wearing_tape v_wearing_steps v_wearing_draft wv_wearing_stack ∧ gi_sh wv_planned_trial_rows wv_planned_trial_cols wv_planned_trial_high wv_planned_trial_wide wv_planned_trial_rowOf wv_planned_trial_colOf wv_planned_trial_below wv_planned_trial_face wv_planned_trial_worn wv_planned_trial_last wv_planned_trial_bend wv_planned_trial_tall)) := by
  obtain ⟨a_0_0, a_0_1, a_0_2, a_0_3, a_0_4, a_0_5, a_0_6, a_0_7, a_0_8, a_0_9, a_0_10, a_0_11, a_0_12, a_0_13, a_0_14, a_0_15, a_0_16, a_0_17⟩ := id g_0
  obtain ⟨a_1_0, a_1_1, a_1_2, a_1_3, a_1_4, a_1_5, a_1_6, a_1_7, a_1_8, a_1_9⟩ := id g_1
  obtain ⟨a_2_0, a_2_1, a_2_2, a_2_3⟩ := id g_2
  obtain ⟨a_3_0, a_3_1, a_3_2, a_3_3, a_3_4, a_3_5, a_3_6, a_3_7, a_3_8, a_3_9, a_3_10, a_3_11, a_3_12, a_3_13, a_3_14, a_3_15, a_3_16, a_3_17⟩ := id g_3
  refine wp_cu18 (sf_X8_beside (Nat.le_refl 700) a_0_0 a_0_1 a_0_2 a_0_3 a_0_4 a_0_5 a_0_6 a_0_7 a_0_8 a_0_9 a_0_10 a_0_11 a_0_12 a_0_13 a_0_16 a_0_17 a_1_2 a_1_3 a_1_7 a_1_9 a_2_0 a_2_1 a_2_2 a_2_3 a_3_0 a_3_1 a_3_2 a_3_3 a_3_4 a_3_5 a_3_6 a_3_7 a_3_8 a_3_9 a_3_10 a_3_11 a_3_12 a_3_13 a_3_14 a_3_15 a_3_16 a_3_17) (fun r wv_wearing_stacked wv_wearing_stack wv_planned_trial_rows wv_planned_trial_cols wv_planned_trial_high wv_planned_trial_wide wv_planned_trial_folds wv_planned_trial_wrong wv_planned_trial_more wv_planned_trial_rowOf wv_planned_trial_colOf wv_planned_trial_below wv_planned_trial_face wv_planned_trial_worn wv_planned_trial_last wv_planned_trial_bend wv_planned_trial_tall ⟨q_0, q_1, q_2, q_3, q_4, q_5, q_6, q_7, q_8, q_9, q_10, q_11, q_12, q_13, q_14, q_15, q_16, q_17, q_18⟩ => ?_)
  exact ⟨⟨a_1_0, a_1_1, a_1_2, a_1_3, a_1_4, a_1_5, a_1_6, a_1_7, a_1_8, q_0⟩, ⟨q_1, q_2, q_3, q_4, q_5, q_6, q_7, q_8, q_9, q_10, q_11, q_12, q_13, q_14, q_15, q_16, q_17, q_18⟩⟩
set_option maxHeartbeats 4000000 in
set_option maxRecDepth 20000 in
theorem st8_wished {x1 : Int32} {x2 : Int32} {v_now_rows : Int32} {v_now_cols : Int32} {v_now_high : Int32} {v_now_wide : Int32} {v_now_folds : Int32} {v_now_wrong : Int32} {v_now_more : Int32} {v_now_rowOf : List Int32} {v_now_colOf : List Int32} {v_now_below : List Int32} {v_now_face : List Int32} {v_now_worn : List Int32} {v_now_last : List Int32} {v_search_found : Bool} {v_search_wrong : Int32} {v_search_more : Int32} {v_search_folds : Int32} {v_search_wanted : Int32} {v_search_levels0_rows : Int32} {v_search_levels0_cols : Int32} {v_search_levels0_high : Int32} {v_search_levels0_wide : Int32} {v_search_levels0_folds : Int32} {v_search_levels0_wrong : Int32} {v_search_levels0_more : Int32} {v_search_levels0_rowOf : List Int32} {v_search_levels0_colOf : List Int32} {v_search_levels0_below : List Int32} {v_search_levels0_face : List Int32} {v_search_levels0_worn : List Int32} {v_search_levels0_last : List Int32} {v_search_levels1_rows : Int32} {v_search_levels1_cols : Int32} {v_search_levels1_high : Int32} {v_search_levels1_wide : Int32} {v_search_levels1_folds : Int32} {v_search_levels1_wrong : Int32} {v_search_levels1_more : Int32} {v_search_levels1_rowOf : List Int32} {v_search_levels1_colOf : List Int32} {v_search_levels1_below : List Int32} {v_search_levels1_face : List Int32} {v_search_levels1_worn : List Int32} {v_search_levels1_last : List Int32} {v_search_levels1_tall : List Int32} {v_search_levels2_rows : Int32} {v_search_levels2_cols : Int32} {v_search_levels2_high : Int32} {v_search_levels2_wide : Int32} {v_search_levels2_folds : Int32} {v_search_levels2_wrong : Int32} {v_search_levels2_more : Int32} {v_search_levels2_rowOf : List Int32} {v_search_levels2_colOf : List Int32} {v_search_levels2_below : List Int32} {v_search_levels2_face : List Int32} {v_search_levels2_worn : List Int32} {v_search_levels2_last : List Int32} {v_search_levels2_tall : List Int32} {v_search_levels3_rows : Int32} {v_search_levels3_cols : Int32} {v_search_levels3_high : Int32} {v_search_levels3_wide : Int32} {v_search_levels3_folds : Int32} {v_search_levels3_wrong : Int32} {v_search_levels3_more : Int32} {v_search_levels3_rowOf : List Int32} {v_search_levels3_colOf : List Int32} {v_search_levels3_below : List Int32} {v_search_levels3_face : List Int32} {v_search_levels3_worn : List Int32} {v_search_levels3_last : List Int32} {v_search_levels3_tall : List Int32} {v_search_path : List Int32} {v_search_best : List Int32} {v_now_bend : List Int32} {v_now_tall : List Int32} {v_search_levels0_bend : List Int32} {v_search_levels0_tall : List Int32} {v_search_levels1_bend : List Int32} {v_search_levels2_bend : List Int32} {v_search_levels3_bend : List Int32} (g_0 : gi_sh v_now_rows v_now_cols v_now_high v_now_wide v_now_rowOf v_now_colOf v_now_below v_now_face v_now_worn v_now_last v_now_bend v_now_tall) (g_1 : gi_se v_search_folds v_search_path v_search_best) (g_2 : gi_sh v_search_levels0_rows v_search_levels0_cols v_search_levels0_high v_search_levels0_wide v_search_levels0_rowOf v_search_levels0_colOf v_search_levels0_below v_search_levels0_face v_search_levels0_worn v_search_levels0_last v_search_levels0_bend v_search_levels0_tall) (g_3 : gi_sh v_search_levels1_rows v_search_levels1_cols v_search_levels1_high v_search_levels1_wide v_search_levels1_rowOf v_search_levels1_colOf v_search_levels1_below v_search_levels1_face v_search_levels1_worn v_search_levels1_last v_search_levels1_bend v_search_levels1_tall) (g_4 : gi_sh v_search_levels2_rows v_search_levels2_cols v_search_levels2_high v_search_levels2_wide v_search_levels2_rowOf v_search_levels2_colOf v_search_levels2_below v_search_levels2_face v_search_levels2_worn v_search_levels2_last v_search_levels2_bend v_search_levels2_tall) (g_5 : gi_sh v_search_levels3_rows v_search_levels3_cols v_search_levels3_high v_search_levels3_wide v_search_levels3_rowOf v_search_levels3_colOf v_search_levels3_below v_search_levels3_face v_search_levels3_worn v_search_levels3_last v_search_levels3_bend v_search_levels3_tall) : wp (fX8_wished 700 x1 x2 v_now_rows v_now_cols v_now_high v_now_wide v_now_folds v_now_wrong v_now_more v_now_rowOf v_now_colOf v_now_below v_now_face v_now_worn v_now_last v_search_found v_search_wrong v_search_more v_search_folds v_search_wanted v_search_levels0_rows v_search_levels0_cols v_search_levels0_high v_search_levels0_wide v_search_levels0_folds v_search_levels0_wrong v_search_levels0_more v_search_levels0_rowOf v_search_levels0_colOf v_search_levels0_below v_search_levels0_face v_search_levels0_worn v_search_levels0_last v_search_levels1_rows v_search_levels1_cols v_search_levels1_high v_search_levels1_wide v_search_levels1_folds v_search_levels1_wrong v_search_levels1_more v_search_levels1_rowOf v_search_levels1_colOf v_search_levels1_below v_search_levels1_face v_search_levels1_worn v_search_levels1_last v_search_levels1_tall v_search_levels2_rows v_search_levels2_cols v_search_levels2_high v_search_levels2_wide v_search_levels2_folds v_search_levels2_wrong v_search_levels2_more v_search_levels2_rowOf v_search_levels2_colOf v_search_levels2_below v_search_levels2_face v_search_levels2_worn v_search_levels2_last v_search_levels2_tall v_search_levels3_rows v_search_levels3_cols v_search_levels3_high v_search_levels3_wide v_search_levels3_folds v_search_levels3_wrong v_search_levels3_more v_search_levels3_rowOf v_search_levels3_colOf v_search_levels3_below v_search_levels3_face v_search_levels3_worn v_search_levels3_last v_search_levels3_tall v_search_path v_search_best) (cu63 (fun (r : Int32) (wv_search_found : Bool) (wv_search_wrong : Int32) (wv_search_more : Int32) (wv_search_folds : Int32) (wv_search_wanted : Int32) (wv_search_levels0_rows : Int32) (wv_search_levels0_cols : Int32) (wv_search_levels0_high : Int32) (wv_search_levels0_wide : Int32) (wv_search_levels0_folds : Int32) (wv_search_levels0_wrong : Int32) (wv_search_levels0_more : Int32) (wv_search_levels0_rowOf : List Int32) (wv_search_levels0_colOf : List Int32) (wv_search_levels0_below : List Int32) (wv_search_levels0_face : List Int32) (wv_search_levels0_worn : List Int32) (wv_search_levels0_last : List Int32) (wv_search_levels1_rows : Int32) (wv_search_levels1_cols : Int32) (wv_search_levels1_high : Int32) (wv_search_levels1_wide : Int32) (wv_search_levels1_folds : Int32) (wv_search_levels1_wrong : Int32) (wv_search_levels1_more : Int32) (wv_search_levels1_rowOf : List Int32) (wv_search_levels1_colOf : List Int32) (wv_search_levels1_below : List Int32) (wv_search_levels1_face : List Int32) (wv_search_levels1_worn : List Int32) (wv_search_levels1_last : List Int32) (wv_search_levels1_tall : List Int32) (wv_search_levels2_rows : Int32) (wv_search_levels2_cols : Int32) (wv_search_levels2_high : Int32) (wv_search_levels2_wide : Int32) (wv_search_levels2_folds : Int32) (wv_search_levels2_wrong : Int32) (wv_search_levels2_more : Int32) (wv_search_levels2_rowOf : List Int32) (wv_search_levels2_colOf : List Int32) (wv_search_levels2_below : List Int32) (wv_search_levels2_face : List Int32) (wv_search_levels2_worn : List Int32) (wv_search_levels2_last : List Int32) (wv_search_levels2_tall : List Int32) (wv_search_levels3_rows : Int32) (wv_search_levels3_cols : Int32) (wv_search_levels3_high : Int32) (wv_search_levels3_wide : Int32) (wv_search_levels3_folds : Int32) (wv_search_levels3_wrong : Int32) (wv_search_levels3_more : Int32) (wv_search_levels3_rowOf : List Int32) (wv_search_levels3_colOf : List Int32) (wv_search_levels3_below : List Int32) (wv_search_levels3_face : List Int32) (wv_search_levels3_worn : List Int32) (wv_search_levels3_last : List Int32) (wv_search_levels3_tall : List Int32) (wv_search_path : List Int32) (wv_search_best : List Int32) => gi_se wv_search_folds wv_search_path wv_search_best ∧ gi_sh wv_search_levels0_rows wv_search_levels0_cols wv_search_levels0_high wv_search_levels0_wide wv_search_levels0_rowOf wv_search_levels0_colOf wv_search_levels0_below wv_search_levels0_face wv_search_levels0_worn wv_search_levels0_last v_search_levels0_bend v_search_levels0_tall ∧ gi_sh wv_search_levels1_rows wv_search_levels1_cols wv_search_levels1_high wv_search_levels1_wide wv_search_levels1_rowOf wv_search_levels1_colOf wv_search_levels1_below wv_search_levels1_face wv_search_levels1_worn wv_search_levels1_last v_search_levels1_bend wv_search_levels1_tall ∧ gi_sh wv_search_levels2_rows wv_search_levels2_cols wv_search_levels2_high wv_search_levels2_wide wv_search_levels2_rowOf wv_search_levels2_colOf wv_search_levels2_below wv_search_levels2_face wv_search_levels2_worn wv_search_levels2_last v_search_levels2_bend wv_search_levels2_tall ∧ gi_sh wv_search_levels3_rows wv_search_levels3_cols wv_search_levels3_high wv_search_levels3_wide wv_search_levels3_rowOf wv_search_levels3_colOf wv_search_levels3_below wv_search_levels3_face wv_search_levels3_worn wv_search_levels3_last v_search_levels3_bend wv_search_levels3_tall)) := by
  obtain ⟨a_0_0, a_0_1, a_0_2, a_0_3, a_0_4, a_0_5, a_0_6, a_0_7, a_0_8, a_0_9, a_0_10, a_0_11, a_0_12, a_0_13, a_0_14, a_0_15, a_0_16, a_0_17⟩ := id g_0
  obtain ⟨a_1_0, a_1_1, a_1_2, a_1_3⟩ := id g_1
  obtain ⟨a_2_0, a_2_1, a_2_2, a_2_3, a_2_4, a_2_5, a_2_6, a_2_7, a_2_8, a_2_9, a_2_10, a_2_11, a_2_12, a_2_13, a_2_14, a_2_15, a_2_16, a_2_17⟩ := id g_2
  obtain ⟨a_3_0, a_3_1, a_3_2, a_3_3, a_3_4, a_3_5, a_3_6, a_3_7, a_3_8, a_3_9, a_3_10, a_3_11, a_3_12, a_3_13, a_3_14, a_3_15, a_3_16, a_3_17⟩ := id g_3
  obtain ⟨a_4_0, a_4_1, a_4_2, a_4_3, a_4_4, a_4_5, a_4_6, a_4_7, a_4_8, a_4_9, a_4_10, a_4_11, a_4_12, a_4_13, a_4_14, a_4_15, a_4_16, a_4_17⟩ := id g_4
  obtain ⟨a_5_0, a_5_1, a_5_2, a_5_3, a_5_4, a_5_5, a_5_6, a_5_7, a_5_8, a_5_9, a_5_10, a_5_11, a_5_12, a_5_13, a_5_14, a_5_15, a_5_16, a_5_17⟩ := id g_5
  refine wp_cu63 (sf_X8_wished (Nat.le_refl 700) a_0_0 a_0_1 a_0_2 a_0_3 a_0_4 a_0_5 a_0_6 a_0_7 a_0_8 a_0_9 a_0_10 a_0_11 a_0_12 a_0_13 a_0_16 a_0_17 a_1_0 a_1_1 a_1_2 a_1_3 a_2_0 a_2_1 a_2_2 a_2_3 a_2_4 a_2_5 a_2_6 a_2_7 a_2_8 a_2_9 a_2_10 a_2_11 a_2_12 a_2_13 a_2_16 a_2_17 a_3_0 a_3_1 a_3_2 a_3_3 a_3_4 a_3_5 a_3_6 a_3_7 a_3_8 a_3_9 a_3_10 a_3_11 a_3_12 a_3_13 a_3_15 a_3_16 a_3_17 a_4_0 a_4_1 a_4_2 a_4_3 a_4_4 a_4_5 a_4_6 a_4_7 a_4_8 a_4_9 a_4_10 a_4_11 a_4_12 a_4_13 a_4_15 a_4_16 a_4_17 a_5_0 a_5_1 a_5_2 a_5_3 a_5_4 a_5_5 a_5_6 a_5_7 a_5_8 a_5_9 a_5_10 a_5_11 a_5_12 a_5_13 a_5_15 a_5_16 a_5_17) (fun r wv_search_found wv_search_wrong wv_search_more wv_search_folds wv_search_wanted wv_search_levels0_rows wv_search_levels0_cols wv_search_levels0_high wv_search_levels0_wide wv_search_levels0_folds wv_search_levels0_wrong wv_search_levels0_more wv_search_levels0_rowOf wv_search_levels0_colOf wv_search_levels0_below wv_search_levels0_face wv_search_levels0_worn wv_search_levels0_last wv_search_levels1_rows wv_search_levels1_cols wv_search_levels1_high wv_search_levels1_wide wv_search_levels1_folds wv_search_levels1_wrong wv_search_levels1_more wv_search_levels1_rowOf wv_search_levels1_colOf wv_search_levels1_below wv_search_levels1_face wv_search_levels1_worn wv_search_levels1_last wv_search_levels1_tall wv_search_levels2_rows wv_search_levels2_cols wv_search_levels2_high wv_search_levels2_wide wv_search_levels2_folds wv_search_levels2_wrong wv_search_levels2_more wv_search_levels2_rowOf wv_search_levels2_colOf wv_search_levels2_below wv_search_levels2_face wv_search_levels2_worn wv_search_levels2_last wv_search_levels2_tall wv_search_levels3_rows wv_search_levels3_cols wv_search_levels3_high wv_search_levels3_wide wv_search_levels3_folds wv_search_levels3_wrong wv_search_levels3_more wv_search_levels3_rowOf wv_search_levels3_colOf wv_search_levels3_below wv_search_levels3_face wv_search_levels3_worn wv_search_levels3_last wv_search_levels3_tall wv_search_path wv_search_best ⟨q_0, q_1, q_2, q_3, q_4, q_5, q_6, q_7, q_8, q_9, q_10, q_11, q_12, q_13, q_14, q_15, q_16, q_17, q_18, q_19, q_20, q_21, q_22, q_23, q_24, q_25, q_26, q_27, q_28, q_29, q_30, q_31, q_32, q_33, q_34, q_35, q_36, q_37, q_38, q_39, q_40, q_41, q_42, q_43, q_44, q_45, q_46, q_47, q_48, q_49, q_50, q_51, q_52, q_53, q_54, q_55, q_56, q_57, q_58, q_59, q_60, q_61, q_62, q_63, q_64, q_65, q_66, q_67, q_68, q_69, q_70⟩ => ?_)
  exact ⟨⟨q_0, q_1, q_2, q_3⟩, ⟨q_4, q_5, q_6, q_7, q_8, q_9, q_10, q_11, q_12, q_13, q_14, q_15, q_16, q_17, a_2_14, a_2_15, q_18, q_19⟩, ⟨q_20, q_21, q_22, q_23, q_24, q_25, q_26, q_27, q_28, q_29, q_30, q_31, q_32, q_33, a_3_14, q_34, q_35, q_36⟩, ⟨q_37, q_38, q_39, q_40, q_41, q_42, q_43, q_44, q_45, q_46, q_47, q_48, q_49, q_50, a_4_14, q_51, q_52, q_53⟩, ⟨q_54, q_55, q_56, q_57, q_58, q_59, q_60, q_61, q_62, q_63, q_64, q_65, q_66, q_67, a_5_14, q_68, q_69, q_70⟩⟩
set_option maxHeartbeats 4000000 in
set_option maxRecDepth 20000 in
theorem st8_right {x1 : Int32} {v_now_rows : Int32} {v_now_cols : Int32} {v_now_high : Int32} {v_now_wide : Int32} {v_now_folds : Int32} {v_now_wrong : Int32} {v_now_more : Int32} {v_now_rowOf : List Int32} {v_now_colOf : List Int32} {v_now_below : List Int32} {v_now_face : List Int32} {v_now_worn : List Int32} {v_now_last : List Int32} {v_wearing_stepCount : Int32} {v_wearing_stacked : Int32} {v_wearing_steps : List Int32} {v_wearing_stack : List Int32} {v_search_found : Bool} {v_search_wrong : Int32} {v_search_more : Int32} {v_search_folds : Int32} {v_search_wanted : Int32} {v_search_levels0_rows : Int32} {v_search_levels0_cols : Int32} {v_search_levels0_high : Int32} {v_search_levels0_wide : Int32} {v_search_levels0_folds : Int32} {v_search_levels0_wrong : Int32} {v_search_levels0_more : Int32} {v_search_levels0_rowOf : List Int32} {v_search_levels0_colOf : List Int32} {v_search_levels0_below : List Int32} {v_search_levels0_face : List Int32} {v_search_levels0_worn : List Int32} {v_search_levels0_last : List Int32} {v_search_levels1_rows : Int32} {v_search_levels1_cols : Int32} {v_search_levels1_high : Int32} {v_search_levels1_wide : Int32} {v_search_levels1_folds : Int32} {v_search_levels1_wrong : Int32} {v_search_levels1_more : Int32} {v_search_levels1_rowOf : List Int32} {v_search_levels1_colOf : List Int32} {v_search_levels1_below : List Int32} {v_search_levels1_face : List Int32} {v_search_levels1_worn : List Int32} {v_search_levels1_last : List Int32} {v_search_levels1_bend : List Int32} {v_search_levels1_tall : List Int32} {v_search_levels2_rows : Int32} {v_search_levels2_cols : Int32} {v_search_levels2_high : Int32} {v_search_levels2_wide : Int32} {v_search_levels2_folds : Int32} {v_search_levels2_wrong : Int32} {v_search_levels2_more : Int32} {v_search_levels2_rowOf : List Int32} {v_search_levels2_colOf : List Int32} {v_search_levels2_below : List Int32} {v_search_levels2_face : List Int32} {v_search_levels2_worn : List Int32} {v_search_levels2_last : List Int32} {v_search_levels2_bend : List Int32} {v_search_levels2_tall : List Int32} {v_search_levels3_rows : Int32} {v_search_levels3_cols : Int32} {v_search_levels3_high : Int32} {v_search_levels3_wide : Int32} {v_search_levels3_folds : Int32} {v_search_levels3_wrong : Int32} {v_search_levels3_more : Int32} {v_search_levels3_rowOf : List Int32} {v_search_levels3_colOf : List Int32} {v_search_levels3_below : List Int32} {v_search_levels3_face : List Int32} {v_search_levels3_worn : List Int32} {v_search_levels3_last : List Int32} {v_search_levels3_bend : List Int32} {v_search_levels3_tall : List Int32} {v_search_path : List Int32} {v_search_best : List Int32} {v_changes_value : Int32} {v_now_bend : List Int32} {v_now_tall : List Int32} {v_wearing_size : Int32} {v_wearing_draftCount : Int32} {v_wearing_tape : List Int32} {v_wearing_draft : List Int32} {v_search_levels0_bend : List Int32} {v_search_levels0_tall : List Int32} (g_0 : gi_sh v_now_rows v_now_cols v_now_high v_now_wide v_now_rowOf v_now_colOf v_now_below v_now_face v_now_worn v_now_last v_now_bend v_now_tall) (g_1 : gi_la v_wearing_size v_wearing_stepCount v_wearing_draftCount v_wearing_tape v_wearing_steps v_wearing_draft v_wearing_stack) (g_2 : gi_se v_search_folds v_search_path v_search_best) (g_3 : gi_sh v_search_levels0_rows v_search_levels0_cols v_search_levels0_high v_search_levels0_wide v_search_levels0_rowOf v_search_levels0_colOf v_search_levels0_below v_search_levels0_face v_search_levels0_worn v_search_levels0_last v_search_levels0_bend v_search_levels0_tall) (g_4 : gi_sh v_search_levels1_rows v_search_levels1_cols v_search_levels1_high v_search_levels1_wide v_search_levels1_rowOf v_search_levels1_colOf v_search_levels1_below v_search_levels1_face v_search_levels1_worn v_search_levels1_last v_search_levels1_bend v_search_levels1_tall) (g_5 : gi_sh v_search_levels2_rows v_search_levels2_cols v_search_levels2_high v_search_levels2_wide v_search_levels2_rowOf v_search_levels2_colOf v_search_levels2_below v_search_levels2_face v_search_levels2_worn v_search_levels2_last v_search_levels2_bend v_search_levels2_tall) (g_6 : gi_sh v_search_levels3_rows v_search_levels3_cols v_search_levels3_high v_search_levels3_wide v_search_levels3_rowOf v_search_levels3_colOf v_search_levels3_below v_search_levels3_face v_search_levels3_worn v_search_levels3_last v_search_levels3_bend v_search_levels3_tall) : wp (fX8_right 700 x1 v_now_rows v_now_cols v_now_high v_now_wide v_now_folds v_now_wrong v_now_more v_now_rowOf v_now_colOf v_now_below v_now_face v_now_worn v_now_last v_wearing_stepCount v_wearing_stacked v_wearing_steps v_wearing_stack v_search_found v_search_wrong v_search_more v_search_folds v_search_wanted v_search_levels0_rows v_search_levels0_cols v_search_levels0_high v_search_levels0_wide v_search_levels0_folds v_search_levels0_wrong v_search_levels0_more v_search_levels0_rowOf v_search_levels0_colOf v_search_levels0_below v_search_levels0_face v_search_levels0_worn v_search_levels0_last v_search_levels1_rows v_search_levels1_cols v_search_levels1_high v_search_levels1_wide v_search_levels1_folds v_search_levels1_wrong v_search_levels1_more v_search_levels1_rowOf v_search_levels1_colOf v_search_levels1_below v_search_levels1_face v_search_levels1_worn v_search_levels1_last v_search_levels1_bend v_search_levels1_tall v_search_levels2_rows v_search_levels2_cols v_search_levels2_high v_search_levels2_wide v_search_levels2_folds v_search_levels2_wrong v_search_levels2_more v_search_levels2_rowOf v_search_levels2_colOf v_search_levels2_below v_search_levels2_face v_search_levels2_worn v_search_levels2_last v_search_levels2_bend v_search_levels2_tall v_search_levels3_rows v_search_levels3_cols v_search_levels3_high v_search_levels3_wide v_search_levels3_folds v_search_levels3_wrong v_search_levels3_more v_search_levels3_rowOf v_search_levels3_colOf v_search_levels3_below v_search_levels3_face v_search_levels3_worn v_search_levels3_last v_search_levels3_bend v_search_levels3_tall v_search_path v_search_best v_changes_value) (cu68 (fun (r : Int32) (wv_wearing_stacked : Int32) (wv_wearing_stack : List Int32) (wv_search_found : Bool) (wv_search_wrong : Int32) (wv_search_more : Int32) (wv_search_folds : Int32) (wv_search_wanted : Int32) (wv_search_levels0_rows : Int32) (wv_search_levels0_cols : Int32) (wv_search_levels0_high : Int32) (wv_search_levels0_wide : Int32) (wv_search_levels0_folds : Int32) (wv_search_levels0_wrong : Int32) (wv_search_levels0_more : Int32) (wv_search_levels0_rowOf : List Int32) (wv_search_levels0_colOf : List Int32) (wv_search_levels0_below : List Int32) (wv_search_levels0_face : List Int32) (wv_search_levels0_worn : List Int32) (wv_search_levels0_last : List Int32) (wv_search_levels1_rows : Int32) (wv_search_levels1_cols : Int32) (wv_search_levels1_high : Int32) (wv_search_levels1_wide : Int32) (wv_search_levels1_folds : Int32) (wv_search_levels1_wrong : Int32) (wv_search_levels1_more : Int32) (wv_search_levels1_rowOf : List Int32) (wv_search_levels1_colOf : List Int32) (wv_search_levels1_below : List Int32) (wv_search_levels1_face : List Int32) (wv_search_levels1_worn : List Int32) (wv_search_levels1_last : List Int32) (wv_search_levels1_bend : List Int32) (wv_search_levels1_tall : List Int32) (wv_search_levels2_rows : Int32) (wv_search_levels2_cols : Int32) (wv_search_levels2_high : Int32) (wv_search_levels2_wide : Int32) (wv_search_levels2_folds : Int32) (wv_search_levels2_wrong : Int32) (wv_search_levels2_more : Int32) (wv_search_levels2_rowOf : List Int32) (wv_search_levels2_colOf : List Int32) (wv_search_levels2_below : List Int32) (wv_search_levels2_face : List Int32) (wv_search_levels2_worn : List Int32) (wv_search_levels2_last : List Int32) (wv_search_levels2_bend : List Int32) (wv_search_levels2_tall : List Int32) (wv_search_levels3_rows : Int32) (wv_search_levels3_cols : Int32) (wv_search_levels3_high : Int32) (wv_search_levels3_wide : Int32) (wv_search_levels3_folds : Int32) (wv_search_levels3_wrong : Int32) (wv_search_levels3_more : Int32) (wv_search_levels3_rowOf : List Int32) (wv_search_levels3_colOf : List Int32) (wv_search_levels3_below : List Int32) (wv_search_levels3_face : List Int32) (wv_search_levels3_worn : List Int32) (wv_search_levels3_last : List Int32) (wv_search_levels3_bend : List Int32) (wv_search_levels3_tall : List Int32) (wv_search_path : List Int32) (wv_search_best : List Int32) => gi_la v_wearing_size v_wearing_stepCount v_wearing_draftCount v_wearing_tape v_wearing_steps v_wearing_draft wv_wearing_stack ∧ gi_se wv_search_folds wv_search_path wv_search_best ∧ gi_sh wv_search_levels0_rows wv_search_levels0_cols wv_search_levels0_high wv_search_levels0_wide wv_search_levels0_rowOf wv_search_levels0_colOf wv_search_levels0_below wv_search_levels0_face wv_search_levels0_worn wv_search_levels0_last v_search_levels0_bend v_search_levels0_tall ∧ gi_sh wv_search_levels1_rows wv_search_levels1_cols wv_search_levels1_high wv_search_levels1_wide wv_search_levels1_rowOf wv_search_levels1_colOf wv_search_levels1_below wv_search_levels1_face wv_search_levels1_worn wv_search_levels1_last wv_search_levels1_bend wv_search_levels1_tall ∧ gi_sh wv_search_levels2_rows wv_search_levels2_cols wv_search_levels2_high wv_search_levels2_wide wv_search_levels2_rowOf wv_search_levels2_colOf wv_search_levels2_below wv_search_levels2_face wv_search_levels2_worn wv_search_levels2_last wv_search_levels2_bend wv_search_levels2_tall ∧ gi_sh wv_search_levels3_rows wv_search_levels3_cols wv_search_levels3_high wv_search_levels3_wide wv_search_levels3_rowOf wv_search_levels3_colOf wv_search_levels3_below wv_search_levels3_face wv_search_levels3_worn wv_search_levels3_last wv_search_levels3_bend wv_search_levels3_tall)) := by
  obtain ⟨a_0_0, a_0_1, a_0_2, a_0_3, a_0_4, a_0_5, a_0_6, a_0_7, a_0_8, a_0_9, a_0_10, a_0_11, a_0_12, a_0_13, a_0_14, a_0_15, a_0_16, a_0_17⟩ := id g_0
  obtain ⟨a_1_0, a_1_1, a_1_2, a_1_3, a_1_4, a_1_5, a_1_6, a_1_7, a_1_8, a_1_9⟩ := id g_1
  obtain ⟨a_2_0, a_2_1, a_2_2, a_2_3⟩ := id g_2
  obtain ⟨a_3_0, a_3_1, a_3_2, a_3_3, a_3_4, a_3_5, a_3_6, a_3_7, a_3_8, a_3_9, a_3_10, a_3_11, a_3_12, a_3_13, a_3_14, a_3_15, a_3_16, a_3_17⟩ := id g_3
  obtain ⟨a_4_0, a_4_1, a_4_2, a_4_3, a_4_4, a_4_5, a_4_6, a_4_7, a_4_8, a_4_9, a_4_10, a_4_11, a_4_12, a_4_13, a_4_14, a_4_15, a_4_16, a_4_17⟩ := id g_4
  obtain ⟨a_5_0, a_5_1, a_5_2, a_5_3, a_5_4, a_5_5, a_5_6, a_5_7, a_5_8, a_5_9, a_5_10, a_5_11, a_5_12, a_5_13, a_5_14, a_5_15, a_5_16, a_5_17⟩ := id g_5
  obtain ⟨a_6_0, a_6_1, a_6_2, a_6_3, a_6_4, a_6_5, a_6_6, a_6_7, a_6_8, a_6_9, a_6_10, a_6_11, a_6_12, a_6_13, a_6_14, a_6_15, a_6_16, a_6_17⟩ := id g_6
  refine wp_cu68 (sf_X8_right (Nat.le_refl 700) a_0_0 a_0_1 a_0_2 a_0_3 a_0_4 a_0_5 a_0_6 a_0_7 a_0_8 a_0_9 a_0_10 a_0_11 a_0_12 a_0_13 a_0_16 a_0_17 a_1_2 a_1_3 a_1_7 a_1_9 a_2_0 a_2_1 a_2_2 a_2_3 a_3_0 a_3_1 a_3_2 a_3_3 a_3_4 a_3_5 a_3_6 a_3_7 a_3_8 a_3_9 a_3_10 a_3_11 a_3_12 a_3_13 a_3_16 a_3_17 a_4_0 a_4_1 a_4_2 a_4_3 a_4_4 a_4_5 a_4_6 a_4_7 a_4_8 a_4_9 a_4_10 a_4_11 a_4_12 a_4_13 a_4_14 a_4_15 a_4_16 a_4_17 a_5_0 a_5_1 a_5_2 a_5_3 a_5_4 a_5_5 a_5_6 a_5_7 a_5_8 a_5_9 a_5_10 a_5_11 a_5_12 a_5_13 a_5_14 a_5_15 a_5_16 a_5_17 a_6_0 a_6_1 a_6_2 a_6_3 a_6_4 a_6_5 a_6_6 a_6_7 a_6_8 a_6_9 a_6_10 a_6_11 a_6_12 a_6_13 a_6_14 a_6_15 a_6_16 a_6_17) (fun r wv_wearing_stacked wv_wearing_stack wv_search_found wv_search_wrong wv_search_more wv_search_folds wv_search_wanted wv_search_levels0_rows wv_search_levels0_cols wv_search_levels0_high wv_search_levels0_wide wv_search_levels0_folds wv_search_levels0_wrong wv_search_levels0_more wv_search_levels0_rowOf wv_search_levels0_colOf wv_search_levels0_below wv_search_levels0_face wv_search_levels0_worn wv_search_levels0_last wv_search_levels1_rows wv_search_levels1_cols wv_search_levels1_high wv_search_levels1_wide wv_search_levels1_folds wv_search_levels1_wrong wv_search_levels1_more wv_search_levels1_rowOf wv_search_levels1_colOf wv_search_levels1_below wv_search_levels1_face wv_search_levels1_worn wv_search_levels1_last wv_search_levels1_bend wv_search_levels1_tall wv_search_levels2_rows wv_search_levels2_cols wv_search_levels2_high wv_search_levels2_wide wv_search_levels2_folds wv_search_levels2_wrong wv_search_levels2_more wv_search_levels2_rowOf wv_search_levels2_colOf wv_search_levels2_below wv_search_levels2_face wv_search_levels2_worn wv_search_levels2_last wv_search_levels2_bend wv_search_levels2_tall wv_search_levels3_rows wv_search_levels3_cols wv_search_levels3_high wv_search_levels3_wide wv_search_levels3_folds wv_search_levels3_wrong wv_search_levels3_more wv_search_levels3_rowOf wv_search_levels3_colOf wv_search_levels3_below wv_search_levels3_face wv_search_levels3_worn wv_search_levels3_last wv_search_levels3_bend wv_search_levels3_tall wv_search_path wv_search_best ⟨q_0, q_1, q_2, q_3, q_4, q_5, q_6, q_7, q_8, q_9, q_10, q_11, q_12, q_13, q_14, q_15, q_16, q_17, q_18, q_19, q_20, q_21, q_22, q_23, q_24, q_25, q_26, q_27, q_28, q_29, q_30, q_31, q_32, q_33, q_34, q_35, q_36, q_37, q_38, q_39, q_40, q_41, q_42, q_43, q_44, q_45, q_46, q_47, q_48, q_49, q_50, q_51, q_52, q_53, q_54, q_55, q_56, q_57, q_58, q_59, q_60, q_61, q_62, q_63, q_64, q_65, q_66, q_67, q_68, q_69, q_70, q_71, q_72, q_73, q_74⟩ => ?_)
  exact ⟨⟨a_1_0, a_1_1, a_1_2, a_1_3, a_1_4, a_1_5, a_1_6, a_1_7, a_1_8, q_0⟩, ⟨q_1, q_2, q_3, q_4⟩, ⟨q_5, q_6, q_7, q_8, q_9, q_10, q_11, q_12, q_13, q_14, q_15, q_16, q_17, q_18, a_3_14, a_3_15, q_19, q_20⟩, ⟨q_21, q_22, q_23, q_24, q_25, q_26, q_27, q_28, q_29, q_30, q_31, q_32, q_33, q_34, q_35, q_36, q_37, q_38⟩, ⟨q_39, q_40, q_41, q_42, q_43, q_44, q_45, q_46, q_47, q_48, q_49, q_50, q_51, q_52, q_53, q_54, q_55, q_56⟩, ⟨q_57, q_58, q_59, q_60, q_61, q_62, q_63, q_64, q_65, q_66, q_67, q_68, q_69, q_70, q_71, q_72, q_73, q_74⟩⟩
set_option maxHeartbeats 4000000 in
set_option maxRecDepth 20000 in
theorem st8_wind {x1 : Int32} {x2 : Int32} {x3 : Int32} {v_now_rows : Int32} {v_now_cols : Int32} {v_now_high : Int32} {v_now_wide : Int32} {v_now_folds : Int32} {v_now_wrong : Int32} {v_now_more : Int32} {v_now_rowOf : List Int32} {v_now_colOf : List Int32} {v_now_below : List Int32} {v_now_face : List Int32} {v_now_worn : List Int32} {v_now_last : List Int32} {v_wearing_stepCount : Int32} {v_wearing_stacked : Int32} {v_wearing_steps : List Int32} {v_wearing_stack : List Int32} {v_planned_size : Int32} {v_planned_trial_rows : Int32} {v_planned_trial_cols : Int32} {v_planned_trial_high : Int32} {v_planned_trial_wide : Int32} {v_planned_trial_folds : Int32} {v_planned_trial_wrong : Int32} {v_planned_trial_more : Int32} {v_planned_trial_rowOf : List Int32} {v_planned_trial_colOf : List Int32} {v_planned_trial_below : List Int32} {v_planned_trial_face : List Int32} {v_planned_trial_worn : List Int32} {v_planned_trial_last : List Int32} {v_planned_trial_bend : List Int32} {v_planned_trial_tall : List Int32} {v_planned_lines : List Int32} {v_planned_ways : List Int32} {v_changes_value : Int32} {v_now_bend : List Int32} {v_now_tall : List Int32} {v_wearing_size : Int32} {v_wearing_draftCount : Int32} {v_wearing_tape : List Int32} {v_wearing_draft : List Int32} (g_0 : gi_sh v_now_rows v_now_cols v_now_high v_now_wide v_now_rowOf v_now_colOf v_now_below v_now_face v_now_worn v_now_last v_now_bend v_now_tall) (g_1 : gi_la v_wearing_size v_wearing_stepCount v_wearing_draftCount v_wearing_tape v_wearing_steps v_wearing_draft v_wearing_stack) (g_2 : gi_pl v_planned_size v_planned_lines v_planned_ways) (g_3 : gi_sh v_planned_trial_rows v_planned_trial_cols v_planned_trial_high v_planned_trial_wide v_planned_trial_rowOf v_planned_trial_colOf v_planned_trial_below v_planned_trial_face v_planned_trial_worn v_planned_trial_last v_planned_trial_bend v_planned_trial_tall) : wp (fX8_wind 700 x1 x2 x3 v_now_rows v_now_cols v_now_high v_now_wide v_now_folds v_now_wrong v_now_more v_now_rowOf v_now_colOf v_now_below v_now_face v_now_worn v_now_last v_wearing_stepCount v_wearing_stacked v_wearing_steps v_wearing_stack v_planned_size v_planned_trial_rows v_planned_trial_cols v_planned_trial_high v_planned_trial_wide v_planned_trial_folds v_planned_trial_wrong v_planned_trial_more v_planned_trial_rowOf v_planned_trial_colOf v_planned_trial_below v_planned_trial_face v_planned_trial_worn v_planned_trial_last v_planned_trial_bend v_planned_trial_tall v_planned_lines v_planned_ways v_changes_value) (cu18 (fun (r : Int32) (wv_wearing_stacked : Int32) (wv_wearing_stack : List Int32) (wv_planned_trial_rows : Int32) (wv_planned_trial_cols : Int32) (wv_planned_trial_high : Int32) (wv_planned_trial_wide : Int32) (wv_planned_trial_folds : Int32) (wv_planned_trial_wrong : Int32) (wv_planned_trial_more : Int32) (wv_planned_trial_rowOf : List Int32) (wv_planned_trial_colOf : List Int32) (wv_planned_trial_below : List Int32) (wv_planned_trial_face : List Int32) (wv_planned_trial_worn : List Int32) (wv_planned_trial_last : List Int32) (wv_planned_trial_bend : List Int32) (wv_planned_trial_tall : List Int32) => gi_la v_wearing_size v_wearing_stepCount v_wearing_draftCount v_wearing_tape v_wearing_steps v_wearing_draft wv_wearing_stack ∧ gi_sh wv_planned_trial_rows wv_planned_trial_cols wv_planned_trial_high wv_planned_trial_wide wv_planned_trial_rowOf wv_planned_trial_colOf wv_planned_trial_below wv_planned_trial_face wv_planned_trial_worn wv_planned_trial_last wv_planned_trial_bend wv_planned_trial_tall)) := by
  obtain ⟨a_0_0, a_0_1, a_0_2, a_0_3, a_0_4, a_0_5, a_0_6, a_0_7, a_0_8, a_0_9, a_0_10, a_0_11, a_0_12, a_0_13, a_0_14, a_0_15, a_0_16, a_0_17⟩ := id g_0
  obtain ⟨a_1_0, a_1_1, a_1_2, a_1_3, a_1_4, a_1_5, a_1_6, a_1_7, a_1_8, a_1_9⟩ := id g_1
  obtain ⟨a_2_0, a_2_1, a_2_2, a_2_3⟩ := id g_2
  obtain ⟨a_3_0, a_3_1, a_3_2, a_3_3, a_3_4, a_3_5, a_3_6, a_3_7, a_3_8, a_3_9, a_3_10, a_3_11, a_3_12, a_3_13, a_3_14, a_3_15, a_3_16, a_3_17⟩ := id g_3
  refine wp_cu18 (sf_X8_wind (Nat.le_refl 700) a_0_0 a_0_1 a_0_2 a_0_3 a_0_4 a_0_5 a_0_6 a_0_7 a_0_8 a_0_9 a_0_10 a_0_11 a_0_12 a_0_13 a_0_16 a_0_17 a_1_2 a_1_3 a_1_7 a_1_9 a_2_0 a_2_1 a_2_2 a_2_3 a_3_0 a_3_1 a_3_2 a_3_3 a_3_4 a_3_5 a_3_6 a_3_7 a_3_8 a_3_9 a_3_10 a_3_11 a_3_12 a_3_13 a_3_14 a_3_15 a_3_16 a_3_17) (fun r wv_wearing_stacked wv_wearing_stack wv_planned_trial_rows wv_planned_trial_cols wv_planned_trial_high wv_planned_trial_wide wv_planned_trial_folds wv_planned_trial_wrong wv_planned_trial_more wv_planned_trial_rowOf wv_planned_trial_colOf wv_planned_trial_below wv_planned_trial_face wv_planned_trial_worn wv_planned_trial_last wv_planned_trial_bend wv_planned_trial_tall ⟨q_0, q_1, q_2, q_3, q_4, q_5, q_6, q_7, q_8, q_9, q_10, q_11, q_12, q_13, q_14, q_15, q_16, q_17, q_18⟩ => ?_)
  exact ⟨⟨a_1_0, a_1_1, a_1_2, a_1_3, a_1_4, a_1_5, a_1_6, a_1_7, a_1_8, q_0⟩, ⟨q_1, q_2, q_3, q_4, q_5, q_6, q_7, q_8, q_9, q_10, q_11, q_12, q_13, q_14, q_15, q_16, q_17, q_18⟩⟩
set_option maxHeartbeats 4000000 in
set_option maxRecDepth 20000 in
theorem st8_crosses {x1 : Int32} {x2 : Int32} {v_strip_at : List Int32} {v_strip_list : List Int32} {v_strip_found : List Int32} (g_0 : gi_st v_strip_at v_strip_list v_strip_found) : wp (fX8_crosses 700 x1 x2 v_strip_at) (cu2 (fun (r : Int32) (wv_strip_at : List Int32) => gi_st wv_strip_at v_strip_list v_strip_found)) := by
  obtain ⟨a_0_0, a_0_1, a_0_2, a_0_3⟩ := id g_0
  refine wp_cu2 (sf_X8_crosses (Nat.le_refl 700) a_0_0) (fun r wv_strip_at q_0 => ?_)
  exact ⟨q_0, a_0_1, a_0_2, a_0_3⟩
set_option maxHeartbeats 4000000 in
set_option maxRecDepth 20000 in
theorem st8_orders {x1 : Int32} {x2 : Int32} {v_strip_list : List Int32} {v_strip_found : List Int32} {v_strip_at : List Int32} (g_0 : gi_st v_strip_at v_strip_list v_strip_found) : wp (fX8_orders 700 x1 x2 v_strip_list v_strip_found v_strip_at) (cu4 (fun (r : Int32) (wv_strip_list : List Int32) (wv_strip_found : List Int32) (wv_strip_at : List Int32) => gi_st wv_strip_at wv_strip_list wv_strip_found)) := by
  obtain ⟨a_0_0, a_0_1, a_0_2, a_0_3⟩ := id g_0
  refine wp_cu4 (sf_X8_orders (Nat.le_refl 700) a_0_1 a_0_2 a_0_0 a_0_3) (fun r wv_strip_list wv_strip_found wv_strip_at ⟨q_0, q_1, q_2, q_3⟩ => ?_)
  exact ⟨q_2, q_0, q_1, q_3⟩
set_option maxHeartbeats 4000000 in
set_option maxRecDepth 20000 in
theorem st8_bends {x1 : Int32} {x2 : Int32} {v_strip_at : List Int32} {v_strip_list : List Int32} {v_strip_found : List Int32} (g_0 : gi_st v_strip_at v_strip_list v_strip_found) : wp (fX8_bends 700 x1 x2 v_strip_at) (cu2 (fun (r : Int32) (wv_strip_at : List Int32) => gi_st wv_strip_at v_strip_list v_strip_found)) := by
  obtain ⟨a_0_0, a_0_1, a_0_2, a_0_3⟩ := id g_0
  refine wp_cu2 (sf_X8_bends (Nat.le_refl 700) a_0_0) (fun r wv_strip_at q_0 => ?_)
  exact ⟨q_0, a_0_1, a_0_2, a_0_3⟩
set_option maxHeartbeats 4000000 in
set_option maxRecDepth 20000 in
theorem st8_by {x1 : Int32} {x2 : Int32} {x3 : Int32} {v_strip_list : List Int32} {v_strip_found : List Int32} {v_strip_at : List Int32} (g_0 : gi_st v_strip_at v_strip_list v_strip_found) : wp (fX8_by 700 x1 x2 x3 v_strip_list v_strip_found v_strip_at) (cu4 (fun (r : Int32) (wv_strip_list : List Int32) (wv_strip_found : List Int32) (wv_strip_at : List Int32) => gi_st wv_strip_at wv_strip_list wv_strip_found)) := by
  obtain ⟨a_0_0, a_0_1, a_0_2, a_0_3⟩ := id g_0
  refine wp_cu4 (sf_X8_by (Nat.le_refl 700) a_0_1 a_0_2 a_0_0 a_0_3) (fun r wv_strip_list wv_strip_found wv_strip_at ⟨q_0, q_1, q_2, q_3⟩ => ?_)
  exact ⟨q_2, q_0, q_1, q_3⟩
set_option maxHeartbeats 4000000 in
set_option maxRecDepth 20000 in
theorem st8_with {x1 : Int32} {x2 : Int32} {v_strip_list : List Int32} {v_strip_found : List Int32} {v_strip_at : List Int32} (g_0 : gi_st v_strip_at v_strip_list v_strip_found) : wp (fX8_with 700 x1 x2 v_strip_list v_strip_found v_strip_at) (cu4 (fun (r : Int32) (wv_strip_list : List Int32) (wv_strip_found : List Int32) (wv_strip_at : List Int32) => gi_st wv_strip_at wv_strip_list wv_strip_found)) := by
  obtain ⟨a_0_0, a_0_1, a_0_2, a_0_3⟩ := id g_0
  refine wp_cu4 (sf_X8_with (Nat.le_refl 700) a_0_1 a_0_2 a_0_0 a_0_3) (fun r wv_strip_list wv_strip_found wv_strip_at ⟨q_0, q_1, q_2, q_3⟩ => ?_)
  exact ⟨q_2, q_0, q_1, q_3⟩
set_option maxHeartbeats 4000000 in
set_option maxRecDepth 20000 in
theorem st8_image {v_hasImage : Bool} {v_now_rows : Int32} {v_now_cols : Int32} {v_now_high : Int32} {v_now_wide : Int32} {v_now_folds : Int32} {v_now_wrong : Int32} {v_now_more : Int32} {v_now_rowOf : List Int32} {v_now_colOf : List Int32} {v_now_below : List Int32} {v_now_face : List Int32} {v_now_worn : List Int32} {v_now_last : List Int32} {v_kept_rows : Int32} {v_kept_cols : Int32} {v_kept_high : Int32} {v_kept_wide : Int32} {v_kept_folds : Int32} {v_kept_wrong : Int32} {v_kept_more : Int32} {v_kept_rowOf : List Int32} {v_kept_colOf : List Int32} {v_kept_below : List Int32} {v_kept_face : List Int32} {v_kept_worn : List Int32} {v_kept_last : List Int32} {v_now_bend : List Int32} {v_now_tall : List Int32} {v_kept_bend : List Int32} {v_kept_tall : List Int32} (g_0 : gi_sh v_now_rows v_now_cols v_now_high v_now_wide v_now_rowOf v_now_colOf v_now_below v_now_face v_now_worn v_now_last v_now_bend v_now_tall) (g_1 : gi_sh v_kept_rows v_kept_cols v_kept_high v_kept_wide v_kept_rowOf v_kept_colOf v_kept_below v_kept_face v_kept_worn v_kept_last v_kept_bend v_kept_tall) : wp (fX8_image 700 v_hasImage v_now_rows v_now_cols v_now_high v_now_wide v_now_folds v_now_wrong v_now_more v_now_rowOf v_now_colOf v_now_below v_now_face v_now_worn v_now_last v_kept_rows v_kept_cols v_kept_high v_kept_wide v_kept_folds v_kept_wrong v_kept_more v_kept_rowOf v_kept_colOf v_kept_below v_kept_face v_kept_worn v_kept_last) (cu15 (fun (r : Int32) (wv_hasImage : Bool) (wv_kept_rows : Int32) (wv_kept_cols : Int32) (wv_kept_high : Int32) (wv_kept_wide : Int32) (wv_kept_folds : Int32) (wv_kept_wrong : Int32) (wv_kept_more : Int32) (wv_kept_rowOf : List Int32) (wv_kept_colOf : List Int32) (wv_kept_below : List Int32) (wv_kept_face : List Int32) (wv_kept_worn : List Int32) (wv_kept_last : List Int32) => gi_sh wv_kept_rows wv_kept_cols wv_kept_high wv_kept_wide wv_kept_rowOf wv_kept_colOf wv_kept_below wv_kept_face wv_kept_worn wv_kept_last v_kept_bend v_kept_tall)) := by
  obtain ⟨a_0_0, a_0_1, a_0_2, a_0_3, a_0_4, a_0_5, a_0_6, a_0_7, a_0_8, a_0_9, a_0_10, a_0_11, a_0_12, a_0_13, a_0_14, a_0_15, a_0_16, a_0_17⟩ := id g_0
  obtain ⟨a_1_0, a_1_1, a_1_2, a_1_3, a_1_4, a_1_5, a_1_6, a_1_7, a_1_8, a_1_9, a_1_10, a_1_11, a_1_12, a_1_13, a_1_14, a_1_15, a_1_16, a_1_17⟩ := id g_1
  refine wp_cu15 (sf_X8_image (Nat.le_refl 700) a_0_0 a_0_1 a_0_2 a_0_3 a_0_4 a_0_5 a_0_6 a_0_7 a_0_8 a_0_9 a_0_10 a_0_11 a_0_12 a_0_13 a_0_16 a_0_17 a_1_0 a_1_1 a_1_2 a_1_3 a_1_4 a_1_5 a_1_6 a_1_7 a_1_8 a_1_9 a_1_10 a_1_11 a_1_12 a_1_13 a_1_16 a_1_17) (fun r wv_hasImage wv_kept_rows wv_kept_cols wv_kept_high wv_kept_wide wv_kept_folds wv_kept_wrong wv_kept_more wv_kept_rowOf wv_kept_colOf wv_kept_below wv_kept_face wv_kept_worn wv_kept_last ⟨q_0, q_1, q_2, q_3, q_4, q_5, q_6, q_7, q_8, q_9, q_10, q_11, q_12, q_13, q_14, q_15⟩ => ?_)
  exact ⟨q_0, q_1, q_2, q_3, q_4, q_5, q_6, q_7, q_8, q_9, q_10, q_11, q_12, q_13, a_1_14, a_1_15, q_14, q_15⟩
set_option maxHeartbeats 4000000 in
set_option maxRecDepth 20000 in
theorem st8_back {v_hasImage : Bool} {v_now_rows : Int32} {v_now_cols : Int32} {v_now_high : Int32} {v_now_wide : Int32} {v_now_folds : Int32} {v_now_wrong : Int32} {v_now_more : Int32} {v_now_rowOf : List Int32} {v_now_colOf : List Int32} {v_now_below : List Int32} {v_now_face : List Int32} {v_now_worn : List Int32} {v_now_last : List Int32} {v_kept_rows : Int32} {v_kept_cols : Int32} {v_kept_high : Int32} {v_kept_wide : Int32} {v_kept_folds : Int32} {v_kept_wrong : Int32} {v_kept_more : Int32} {v_kept_rowOf : List Int32} {v_kept_colOf : List Int32} {v_kept_below : List Int32} {v_kept_face : List Int32} {v_kept_worn : List Int32} {v_kept_last : List Int32} {v_now_bend : List Int32} {v_now_tall : List Int32} {v_kept_bend : List Int32} {v_kept_tall : List Int32} (g_0 : gi_sh v_now_rows v_now_cols v_now_high v_now_wide v_now_rowOf v_now_colOf v_now_below v_now_face v_now_worn v_now_last v_now_bend v_now_tall) (g_1 : gi_sh v_kept_rows v_kept_cols v_kept_high v_kept_wide v_kept_rowOf v_kept_colOf v_kept_below v_kept_face v_kept_worn v_kept_last v_kept_bend v_kept_tall) : wp (fX8_back 700 v_hasImage v_now_rows v_now_cols v_now_high v_now_wide v_now_folds v_now_wrong v_now_more v_now_rowOf v_now_colOf v_now_below v_now_face v_now_worn v_now_last v_kept_rows v_kept_cols v_kept_high v_kept_wide v_kept_folds v_kept_wrong v_kept_more v_kept_rowOf v_kept_colOf v_kept_below v_kept_face v_kept_worn v_kept_last) (cu14 (fun (r : Int32) (wv_now_rows : Int32) (wv_now_cols : Int32) (wv_now_high : Int32) (wv_now_wide : Int32) (wv_now_folds : Int32) (wv_now_wrong : Int32) (wv_now_more : Int32) (wv_now_rowOf : List Int32) (wv_now_colOf : List Int32) (wv_now_below : List Int32) (wv_now_face : List Int32) (wv_now_worn : List Int32) (wv_now_last : List Int32) => gi_sh wv_now_rows wv_now_cols wv_now_high wv_now_wide wv_now_rowOf wv_now_colOf wv_now_below wv_now_face wv_now_worn wv_now_last v_now_bend v_now_tall)) := by
  obtain ⟨a_0_0, a_0_1, a_0_2, a_0_3, a_0_4, a_0_5, a_0_6, a_0_7, a_0_8, a_0_9, a_0_10, a_0_11, a_0_12, a_0_13, a_0_14, a_0_15, a_0_16, a_0_17⟩ := id g_0
  obtain ⟨a_1_0, a_1_1, a_1_2, a_1_3, a_1_4, a_1_5, a_1_6, a_1_7, a_1_8, a_1_9, a_1_10, a_1_11, a_1_12, a_1_13, a_1_14, a_1_15, a_1_16, a_1_17⟩ := id g_1
  refine wp_cu14 (sf_X8_back (Nat.le_refl 700) a_0_0 a_0_1 a_0_2 a_0_3 a_0_4 a_0_5 a_0_6 a_0_7 a_0_8 a_0_9 a_0_10 a_0_11 a_0_12 a_0_13 a_0_16 a_0_17 a_1_0 a_1_1 a_1_2 a_1_3 a_1_4 a_1_5 a_1_6 a_1_7 a_1_8 a_1_9 a_1_10 a_1_11 a_1_12 a_1_13 a_1_16 a_1_17) (fun r wv_now_rows wv_now_cols wv_now_high wv_now_wide wv_now_folds wv_now_wrong wv_now_more wv_now_rowOf wv_now_colOf wv_now_below wv_now_face wv_now_worn wv_now_last ⟨q_0, q_1, q_2, q_3, q_4, q_5, q_6, q_7, q_8, q_9, q_10, q_11, q_12, q_13, q_14, q_15⟩ => ?_)
  exact ⟨q_0, q_1, q_2, q_3, q_4, q_5, q_6, q_7, q_8, q_9, q_10, q_11, q_12, q_13, a_0_14, a_0_15, q_14, q_15⟩
set_option maxHeartbeats 4000000 in
set_option maxRecDepth 20000 in
theorem st8_undo {v_changes_value : Int32} {v_changes_done : Int32} {v_changes_before : List Int32} {v_changes_size : Int32} {v_changes_after : List Int32} (g_0 : gi_ch v_changes_done v_changes_size v_changes_before v_changes_after) : wp (fX8_undo 700 v_changes_value v_changes_done v_changes_before) (cu3 (fun (r : Int32) (wv_changes_value : Int32) (wv_changes_done : Int32) => gi_ch wv_changes_done v_changes_size v_changes_before v_changes_after)) := by
  obtain ⟨a_0_0, a_0_1, a_0_2, a_0_3, a_0_4, a_0_5⟩ := id g_0
  refine wp_cu3 (sf_X8_undo (Nat.le_refl 700) a_0_0 a_0_1 a_0_4) (fun r wv_changes_value wv_changes_done ⟨q_0, q_1⟩ => ?_)
  exact ⟨q_0, q_1, a_0_2, a_0_3, a_0_4, a_0_5⟩
set_option maxHeartbeats 4000000 in
set_option maxRecDepth 20000 in
theorem st8_redo {v_changes_value : Int32} {v_changes_done : Int32} {v_changes_size : Int32} {v_changes_after : List Int32} {v_changes_before : List Int32} (g_0 : gi_ch v_changes_done v_changes_size v_changes_before v_changes_after) : wp (fX8_redo 700 v_changes_value v_changes_done v_changes_size v_changes_after) (cu3 (fun (r : Int32) (wv_changes_value : Int32) (wv_changes_done : Int32) => gi_ch wv_changes_done v_changes_size v_changes_before v_changes_after)) := by
  obtain ⟨a_0_0, a_0_1, a_0_2, a_0_3, a_0_4, a_0_5⟩ := id g_0
  refine wp_cu3 (sf_X8_redo (Nat.le_refl 700) a_0_0 a_0_1 a_0_2 a_0_3 a_0_5) (fun r wv_changes_value wv_changes_done ⟨q_0, q_1⟩ => ?_)
  exact ⟨q_0, q_1, a_0_2, a_0_3, a_0_4, a_0_5⟩
set_option maxHeartbeats 4000000 in
set_option maxRecDepth 20000 in
theorem st8_body {x1 : Int32} {v_foldings_size : Int32} {v_foldings_kinds : List Int32} {v_foldings_trace : List Int32} (g_0 : gi_fo v_foldings_size v_foldings_kinds v_foldings_trace) : wp (fX8_body 700 x1 v_foldings_size v_foldings_kinds) (cu3 (fun (r : Int32) (wv_foldings_size : Int32) (wv_foldings_kinds : List Int32) => gi_fo wv_foldings_size wv_foldings_kinds v_foldings_trace)) := by
  obtain ⟨a_0_0, a_0_1, a_0_2, a_0_3, a_0_4⟩ := id g_0
  refine wp_cu3 (sf_X8_body (Nat.le_refl 700) a_0_0 a_0_1 a_0_2 a_0_4) (fun r wv_foldings_size wv_foldings_kinds ⟨q_0, q_1, q_2, q_3⟩ => ?_)
  exact ⟨q_0, q_1, q_2, a_0_3, q_3⟩
set_option maxHeartbeats 4000000 in
set_option maxRecDepth 20000 in
theorem st8_trace {x1 : Int32} {v_foldings_ran : Int32} {v_foldings_trace : List Int32} {v_foldings_size : Int32} {v_foldings_kinds : List Int32} (g_0 : gi_fo v_foldings_size v_foldings_kinds v_foldings_trace) : wp (fX8_trace 700 x1 v_foldings_ran v_foldings_trace) (fun (r : Int32) => True) := by
  obtain ⟨a_0_0, a_0_1, a_0_2, a_0_3, a_0_4⟩ := id g_0
  refine wp_cu1 (sf_X8_trace (Nat.le_refl 700) a_0_3) (fun r _ => ?_)
  exact trivial
set_option maxHeartbeats 4000000 in
set_option maxRecDepth 20000 in
theorem st8_keep {x1 : Int32} {x2 : Int32} {v_foldings_size : Int32} {v_shelves0_holds : Int32} {v_shelves0_body : Int32} {v_shelves1_holds : Int32} {v_shelves1_body : Int32} {v_shelves2_holds : Int32} {v_shelves2_body : Int32} {v_shelves3_holds : Int32} {v_shelves3_body : Int32} {v_shelves4_holds : Int32} {v_shelves4_body : Int32} {v_shelves5_holds : Int32} {v_shelves5_body : Int32} {v_foldings_kinds : List Int32} {v_foldings_trace : List Int32} (g_0 : gi_fo v_foldings_size v_foldings_kinds v_foldings_trace) : wp (fX8_keep 700 x1 x2 v_foldings_size v_shelves0_holds v_shelves0_body v_shelves1_holds v_shelves1_body v_shelves2_holds v_shelves2_body v_shelves3_holds v_shelves3_body v_shelves4_holds v_shelves4_body v_shelves5_holds v_shelves5_body) (cu13 (fun (r : Int32) (wv_shelves0_holds : Int32) (wv_shelves0_body : Int32) (wv_shelves1_holds : Int32) (wv_shelves1_body : Int32) (wv_shelves2_holds : Int32) (wv_shelves2_body : Int32) (wv_shelves3_holds : Int32) (wv_shelves3_body : Int32) (wv_shelves4_holds : Int32) (wv_shelves4_body : Int32) (wv_shelves5_holds : Int32) (wv_shelves5_body : Int32) => True)) := by
  obtain ⟨a_0_0, a_0_1, a_0_2, a_0_3, a_0_4⟩ := id g_0
  refine wp_cu13 (sf_X8_keep (Nat.le_refl 700) a_0_0 a_0_1) (fun r wv_shelves0_holds wv_shelves0_body wv_shelves1_holds wv_shelves1_body wv_shelves2_holds wv_shelves2_body wv_shelves3_holds wv_shelves3_body wv_shelves4_holds wv_shelves4_body wv_shelves5_holds wv_shelves5_body _ => ?_)
  exact trivial
set_option maxHeartbeats 4000000 in
set_option maxRecDepth 20000 in
theorem st8_row {x1 : Int32} {x2 : Int32} {x3 : Int32} {v_shelves0_holds : Int32} {v_shelves0_sort : Int32} {v_shelves0_size : Int32} {v_shelves0_items : List Int64} {v_shelves1_holds : Int32} {v_shelves1_sort : Int32} {v_shelves1_size : Int32} {v_shelves1_items : List Int64} {v_shelves2_holds : Int32} {v_shelves2_sort : Int32} {v_shelves2_size : Int32} {v_shelves2_items : List Int64} {v_shelves3_holds : Int32} {v_shelves3_sort : Int32} {v_shelves3_size : Int32} {v_shelves3_items : List Int64} {v_shelves4_holds : Int32} {v_shelves4_sort : Int32} {v_shelves4_size : Int32} {v_shelves4_items : List Int64} {v_shelves5_holds : Int32} {v_shelves5_sort : Int32} {v_shelves5_size : Int32} {v_shelves5_items : List Int64} (g_0 : gi_sf v_shelves0_size v_shelves0_items) (g_1 : gi_sf v_shelves1_size v_shelves1_items) (g_2 : gi_sf v_shelves2_size v_shelves2_items) (g_3 : gi_sf v_shelves3_size v_shelves3_items) (g_4 : gi_sf v_shelves4_size v_shelves4_items) (g_5 : gi_sf v_shelves5_size v_shelves5_items) : wp (fX8_row 700 x1 x2 x3 v_shelves0_holds v_shelves0_sort v_shelves0_size v_shelves0_items v_shelves1_holds v_shelves1_sort v_shelves1_size v_shelves1_items v_shelves2_holds v_shelves2_sort v_shelves2_size v_shelves2_items v_shelves3_holds v_shelves3_sort v_shelves3_size v_shelves3_items v_shelves4_holds v_shelves4_sort v_shelves4_size v_shelves4_items v_shelves5_holds v_shelves5_sort v_shelves5_size v_shelves5_items) (cu25 (fun (r : Int32) (wv_shelves0_holds : Int32) (wv_shelves0_sort : Int32) (wv_shelves0_size : Int32) (wv_shelves0_items : List Int64) (wv_shelves1_holds : Int32) (wv_shelves1_sort : Int32) (wv_shelves1_size : Int32) (wv_shelves1_items : List Int64) (wv_shelves2_holds : Int32) (wv_shelves2_sort : Int32) (wv_shelves2_size : Int32) (wv_shelves2_items : List Int64) (wv_shelves3_holds : Int32) (wv_shelves3_sort : Int32) (wv_shelves3_size : Int32) (wv_shelves3_items : List Int64) (wv_shelves4_holds : Int32) (wv_shelves4_sort : Int32) (wv_shelves4_size : Int32) (wv_shelves4_items : List Int64) (wv_shelves5_holds : Int32) (wv_shelves5_sort : Int32) (wv_shelves5_size : Int32) (wv_shelves5_items : List Int64) => gi_sf wv_shelves0_size wv_shelves0_items ∧ gi_sf wv_shelves1_size wv_shelves1_items ∧ gi_sf wv_shelves2_size wv_shelves2_items ∧ gi_sf wv_shelves3_size wv_shelves3_items ∧ gi_sf wv_shelves4_size wv_shelves4_items ∧ gi_sf wv_shelves5_size wv_shelves5_items)) := by
  obtain ⟨a_0_0, a_0_1, a_0_2⟩ := id g_0
  obtain ⟨a_1_0, a_1_1, a_1_2⟩ := id g_1
  obtain ⟨a_2_0, a_2_1, a_2_2⟩ := id g_2
  obtain ⟨a_3_0, a_3_1, a_3_2⟩ := id g_3
  obtain ⟨a_4_0, a_4_1, a_4_2⟩ := id g_4
  obtain ⟨a_5_0, a_5_1, a_5_2⟩ := id g_5
  refine wp_cu25 (sf_X8_row (Nat.le_refl 700) a_0_0 a_0_1 a_0_2 a_1_0 a_1_1 a_1_2 a_2_0 a_2_1 a_2_2 a_3_0 a_3_1 a_3_2 a_4_0 a_4_1 a_4_2 a_5_0 a_5_1 a_5_2) (fun r wv_shelves0_holds wv_shelves0_sort wv_shelves0_size wv_shelves0_items wv_shelves1_holds wv_shelves1_sort wv_shelves1_size wv_shelves1_items wv_shelves2_holds wv_shelves2_sort wv_shelves2_size wv_shelves2_items wv_shelves3_holds wv_shelves3_sort wv_shelves3_size wv_shelves3_items wv_shelves4_holds wv_shelves4_sort wv_shelves4_size wv_shelves4_items wv_shelves5_holds wv_shelves5_sort wv_shelves5_size wv_shelves5_items ⟨q_0, q_1, q_2, q_3, q_4, q_5, q_6, q_7, q_8, q_9, q_10, q_11, q_12, q_13, q_14, q_15, q_16, q_17⟩ => ?_)
  exact ⟨⟨q_0, q_1, q_2⟩, ⟨q_3, q_4, q_5⟩, ⟨q_6, q_7, q_8⟩, ⟨q_9, q_10, q_11⟩, ⟨q_12, q_13, q_14⟩, ⟨q_15, q_16, q_17⟩⟩
set_option maxHeartbeats 4000000 in
set_option maxRecDepth 20000 in
theorem st8_put {x1 : Int32} {x2 : Int32} {x3 : Int64} {v_shelves0_holds : Int32} {v_shelves0_sort : Int32} {v_shelves0_size : Int32} {v_shelves0_items : List Int64} {v_shelves1_holds : Int32} {v_shelves1_sort : Int32} {v_shelves1_size : Int32} {v_shelves1_items : List Int64} {v_shelves2_holds : Int32} {v_shelves2_sort : Int32} {v_shelves2_size : Int32} {v_shelves2_items : List Int64} {v_shelves3_holds : Int32} {v_shelves3_sort : Int32} {v_shelves3_size : Int32} {v_shelves3_items : List Int64} {v_shelves4_holds : Int32} {v_shelves4_sort : Int32} {v_shelves4_size : Int32} {v_shelves4_items : List Int64} {v_shelves5_holds : Int32} {v_shelves5_sort : Int32} {v_shelves5_size : Int32} {v_shelves5_items : List Int64} (g_0 : gi_sf v_shelves0_size v_shelves0_items) (g_1 : gi_sf v_shelves1_size v_shelves1_items) (g_2 : gi_sf v_shelves2_size v_shelves2_items) (g_3 : gi_sf v_shelves3_size v_shelves3_items) (g_4 : gi_sf v_shelves4_size v_shelves4_items) (g_5 : gi_sf v_shelves5_size v_shelves5_items) : wp (fX8_put 700 x1 x2 x3 v_shelves0_holds v_shelves0_sort v_shelves0_size v_shelves0_items v_shelves1_holds v_shelves1_sort v_shelves1_size v_shelves1_items v_shelves2_holds v_shelves2_sort v_shelves2_size v_shelves2_items v_shelves3_holds v_shelves3_sort v_shelves3_size v_shelves3_items v_shelves4_holds v_shelves4_sort v_shelves4_size v_shelves4_items v_shelves5_holds v_shelves5_sort v_shelves5_size v_shelves5_items) (cu7 (fun (r : Int32) (wv_shelves0_items : List Int64) (wv_shelves1_items : List Int64) (wv_shelves2_items : List Int64) (wv_shelves3_items : List Int64) (wv_shelves4_items : List Int64) (wv_shelves5_items : List Int64) => gi_sf v_shelves0_size wv_shelves0_items ∧ gi_sf v_shelves1_size wv_shelves1_items ∧ gi_sf v_shelves2_size wv_shelves2_items ∧ gi_sf v_shelves3_size wv_shelves3_items ∧ gi_sf v_shelves4_size wv_shelves4_items ∧ gi_sf v_shelves5_size wv_shelves5_items)) := by
  obtain ⟨a_0_0, a_0_1, a_0_2⟩ := id g_0
  obtain ⟨a_1_0, a_1_1, a_1_2⟩ := id g_1
  obtain ⟨a_2_0, a_2_1, a_2_2⟩ := id g_2
  obtain ⟨a_3_0, a_3_1, a_3_2⟩ := id g_3
  obtain ⟨a_4_0, a_4_1, a_4_2⟩ := id g_4
  obtain ⟨a_5_0, a_5_1, a_5_2⟩ := id g_5
  refine wp_cu7 (sf_X8_put (Nat.le_refl 700) a_0_0 a_0_1 a_0_2 a_1_0 a_1_1 a_1_2 a_2_0 a_2_1 a_2_2 a_3_0 a_3_1 a_3_2 a_4_0 a_4_1 a_4_2 a_5_0 a_5_1 a_5_2) (fun r wv_shelves0_items wv_shelves1_items wv_shelves2_items wv_shelves3_items wv_shelves4_items wv_shelves5_items ⟨q_0, q_1, q_2, q_3, q_4, q_5⟩ => ?_)
  exact ⟨⟨a_0_0, a_0_1, q_0⟩, ⟨a_1_0, a_1_1, q_1⟩, ⟨a_2_0, a_2_1, q_2⟩, ⟨a_3_0, a_3_1, q_3⟩, ⟨a_4_0, a_4_1, q_4⟩, ⟨a_5_0, a_5_1, q_5⟩⟩
set_option maxHeartbeats 4000000 in
set_option maxRecDepth 20000 in
theorem st8_element {x1 : Int32} {x2 : Int32} {v_shelves0_holds : Int32} {v_shelves0_size : Int32} {v_shelves0_items : List Int64} {v_shelves1_holds : Int32} {v_shelves1_size : Int32} {v_shelves1_items : List Int64} {v_shelves2_holds : Int32} {v_shelves2_size : Int32} {v_shelves2_items : List Int64} {v_shelves3_holds : Int32} {v_shelves3_size : Int32} {v_shelves3_items : List Int64} {v_shelves4_holds : Int32} {v_shelves4_size : Int32} {v_shelves4_items : List Int64} {v_shelves5_holds : Int32} {v_shelves5_size : Int32} {v_shelves5_items : List Int64} (g_0 : gi_sf v_shelves0_size v_shelves0_items) (g_1 : gi_sf v_shelves1_size v_shelves1_items) (g_2 : gi_sf v_shelves2_size v_shelves2_items) (g_3 : gi_sf v_shelves3_size v_shelves3_items) (g_4 : gi_sf v_shelves4_size v_shelves4_items) (g_5 : gi_sf v_shelves5_size v_shelves5_items) : wp (fX8_element 700 x1 x2 v_shelves0_holds v_shelves0_size v_shelves0_items v_shelves1_holds v_shelves1_size v_shelves1_items v_shelves2_holds v_shelves2_size v_shelves2_items v_shelves3_holds v_shelves3_size v_shelves3_items v_shelves4_holds v_shelves4_size v_shelves4_items v_shelves5_holds v_shelves5_size v_shelves5_items) (fun (r : Int64) => True) := by
  obtain ⟨a_0_0, a_0_1, a_0_2⟩ := id g_0
  obtain ⟨a_1_0, a_1_1, a_1_2⟩ := id g_1
  obtain ⟨a_2_0, a_2_1, a_2_2⟩ := id g_2
  obtain ⟨a_3_0, a_3_1, a_3_2⟩ := id g_3
  obtain ⟨a_4_0, a_4_1, a_4_2⟩ := id g_4
  obtain ⟨a_5_0, a_5_1, a_5_2⟩ := id g_5
  refine wp_cu1 (sf_X8_element (Nat.le_refl 700) a_0_0 a_0_1 a_0_2 a_1_0 a_1_1 a_1_2 a_2_0 a_2_1 a_2_2 a_3_0 a_3_1 a_3_2 a_4_0 a_4_1 a_4_2 a_5_0 a_5_1 a_5_2) (fun r _ => ?_)
  exact trivial
set_option maxHeartbeats 4000000 in
set_option maxRecDepth 20000 in
theorem st8_shift {x1 : Int32} {x2 : Int32} {x3 : Int32} {x4 : Int32} {x5 : Int32} {v_shelves0_holds : Int32} {v_shelves0_sort : Int32} {v_shelves0_size : Int32} {v_shelves0_items : List Int64} {v_shelves1_holds : Int32} {v_shelves1_sort : Int32} {v_shelves1_size : Int32} {v_shelves1_items : List Int64} {v_shelves2_holds : Int32} {v_shelves2_sort : Int32} {v_shelves2_size : Int32} {v_shelves2_items : List Int64} {v_shelves3_holds : Int32} {v_shelves3_sort : Int32} {v_shelves3_size : Int32} {v_shelves3_items : List Int64} {v_shelves4_holds : Int32} {v_shelves4_sort : Int32} {v_shelves4_size : Int32} {v_shelves4_items : List Int64} {v_shelves5_holds : Int32} {v_shelves5_sort : Int32} {v_shelves5_size : Int32} {v_shelves5_items : List Int64} (g_0 : gi_sf v_shelves0_size v_shelves0_items) (g_1 : gi_sf v_shelves1_size v_shelves1_items) (g_2 : gi_sf v_shelves2_size v_shelves2_items) (g_3 : gi_sf v_shelves3_size v_shelves3_items) (g_4 : gi_sf v_shelves4_size v_shelves4_items) (g_5 : gi_sf v_shelves5_size v_shelves5_items) : wp (fX8_shift 700 x1 x2 x3 x4 x5 v_shelves0_holds v_shelves0_sort v_shelves0_size v_shelves0_items v_shelves1_holds v_shelves1_sort v_shelves1_size v_shelves1_items v_shelves2_holds v_shelves2_sort v_shelves2_size v_shelves2_items v_shelves3_holds v_shelves3_sort v_shelves3_size v_shelves3_items v_shelves4_holds v_shelves4_sort v_shelves4_size v_shelves4_items v_shelves5_holds v_shelves5_sort v_shelves5_size v_shelves5_items) (cu7 (fun (r : Int32) (wv_shelves0_items : List Int64) (wv_shelves1_items : List Int64) (wv_shelves2_items : List Int64) (wv_shelves3_items : List Int64) (wv_shelves4_items : List Int64) (wv_shelves5_items : List Int64) => gi_sf v_shelves0_size wv_shelves0_items ∧ gi_sf v_shelves1_size wv_shelves1_items ∧ gi_sf v_shelves2_size wv_shelves2_items ∧ gi_sf v_shelves3_size wv_shelves3_items ∧ gi_sf v_shelves4_size wv_shelves4_items ∧ gi_sf v_shelves5_size wv_shelves5_items)) := by
  obtain ⟨a_0_0, a_0_1, a_0_2⟩ := id g_0
  obtain ⟨a_1_0, a_1_1, a_1_2⟩ := id g_1
  obtain ⟨a_2_0, a_2_1, a_2_2⟩ := id g_2
  obtain ⟨a_3_0, a_3_1, a_3_2⟩ := id g_3
  obtain ⟨a_4_0, a_4_1, a_4_2⟩ := id g_4
  obtain ⟨a_5_0, a_5_1, a_5_2⟩ := id g_5
  refine wp_cu7 (sf_X8_shift (Nat.le_refl 700) a_0_0 a_0_1 a_0_2 a_1_0 a_1_1 a_1_2 a_2_0 a_2_1 a_2_2 a_3_0 a_3_1 a_3_2 a_4_0 a_4_1 a_4_2 a_5_0 a_5_1 a_5_2) (fun r wv_shelves0_items wv_shelves1_items wv_shelves2_items wv_shelves3_items wv_shelves4_items wv_shelves5_items ⟨q_0, q_1, q_2, q_3, q_4, q_5⟩ => ?_)
  exact ⟨⟨a_0_0, a_0_1, q_0⟩, ⟨a_1_0, a_1_1, q_1⟩, ⟨a_2_0, a_2_1, q_2⟩, ⟨a_3_0, a_3_1, q_3⟩, ⟨a_4_0, a_4_1, q_4⟩, ⟨a_5_0, a_5_1, q_5⟩⟩
set_option maxHeartbeats 4000000 in
set_option maxRecDepth 20000 in
theorem st8_taken {x1 : Int32} {x2 : Int32} {v_foldings_size : Int32} {v_foldings_kinds : List Int32} {v_shelves0_holds : Int32} {v_shelves0_body : Int32} {v_shelves1_holds : Int32} {v_shelves1_body : Int32} {v_shelves2_holds : Int32} {v_shelves2_body : Int32} {v_shelves3_holds : Int32} {v_shelves3_body : Int32} {v_shelves4_holds : Int32} {v_shelves4_body : Int32} {v_shelves5_holds : Int32} {v_shelves5_body : Int32} {v_foldings_trace : List Int32} (g_0 : gi_fo v_foldings_size v_foldings_kinds v_foldings_trace) : wp (fX8_taken 700 x1 x2 v_foldings_size v_foldings_kinds v_shelves0_holds v_shelves0_body v_shelves1_holds v_shelves1_body v_shelves2_holds v_shelves2_body v_shelves3_holds v_shelves3_body v_shelves4_holds v_shelves4_body v_shelves5_holds v_shelves5_body) (fun (r : Int32) => True) := by
  obtain ⟨a_0_0, a_0_1, a_0_2, a_0_3, a_0_4⟩ := id g_0
  refine wp_cu1 (sf_X8_taken (Nat.le_refl 700) a_0_0 a_0_1 a_0_2 a_0_4) (fun r _ => ?_)
  exact trivial
set_option maxHeartbeats 4000000 in
set_option maxRecDepth 20000 in
theorem st8_count {x1 : Int32} {v_now_rows : Int32} {v_now_cols : Int32} {v_wearing_size : Int32} {v_planned_size : Int32} {v_changes_done : Int32} {v_foldings_size : Int32} {v_foldings_ran : Int32} {v_now_high : Int32} {v_now_wide : Int32} {v_now_rowOf : List Int32} {v_now_colOf : List Int32} {v_now_below : List Int32} {v_now_face : List Int32} {v_now_worn : List Int32} {v_now_last : List Int32} {v_now_bend : List Int32} {v_now_tall : List Int32} {v_changes_size : Int32} {v_changes_before : List Int32} {v_changes_after : List Int32} {v_wearing_stepCount : Int32} {v_wearing_draftCount : Int32} {v_wearing_tape : List Int32} {v_wearing_steps : List Int32} {v_wearing_draft : List Int32} {v_wearing_stack : List Int32} {v_planned_lines : List Int32} {v_planned_ways : List Int32} {v_foldings_kinds : List Int32} {v_foldings_trace : List Int32} (g_0 : gi_sh v_now_rows v_now_cols v_now_high v_now_wide v_now_rowOf v_now_colOf v_now_below v_now_face v_now_worn v_now_last v_now_bend v_now_tall) (g_1 : gi_ch v_changes_done v_changes_size v_changes_before v_changes_after) (g_2 : gi_la v_wearing_size v_wearing_stepCount v_wearing_draftCount v_wearing_tape v_wearing_steps v_wearing_draft v_wearing_stack) (g_3 : gi_pl v_planned_size v_planned_lines v_planned_ways) (g_4 : gi_fo v_foldings_size v_foldings_kinds v_foldings_trace) : wp (fX8_count 700 x1 v_now_rows v_now_cols v_wearing_size v_planned_size v_changes_done v_foldings_size v_foldings_ran) (fun (r : Int32) => True) := by
  obtain ⟨a_0_0, a_0_1, a_0_2, a_0_3, a_0_4, a_0_5, a_0_6, a_0_7, a_0_8, a_0_9, a_0_10, a_0_11, a_0_12, a_0_13, a_0_14, a_0_15, a_0_16, a_0_17⟩ := id g_0
  obtain ⟨a_1_0, a_1_1, a_1_2, a_1_3, a_1_4, a_1_5⟩ := id g_1
  obtain ⟨a_2_0, a_2_1, a_2_2, a_2_3, a_2_4, a_2_5, a_2_6, a_2_7, a_2_8, a_2_9⟩ := id g_2
  obtain ⟨a_3_0, a_3_1, a_3_2, a_3_3⟩ := id g_3
  obtain ⟨a_4_0, a_4_1, a_4_2, a_4_3, a_4_4⟩ := id g_4
  refine wp_cu1 (sf_X8_count (Nat.le_refl 700) a_0_0 a_0_1 a_0_2 a_0_3 a_2_0 a_2_1 a_3_0 a_3_1 a_1_0 a_1_1 a_4_0 a_4_1) (fun r _ => ?_)
  exact trivial
end
section
/-! The reference: each call keeps the invariants -/

theorem sfb_X9_body {x1 : Int32} {v_bodies : Int32} {v_bodyKind : List Int32} (h_0 : 0 ≤ v_bodies.toInt) (h_1 : v_bodies.toInt ≤ 50) (h_2 : v_bodyKind.length = 50) (h_3 : zn v_bodyKind 0 v_bodies.toInt 0 8) : wp (fX9_body 700 x1 v_bodies v_bodyKind) (cu3 (fun (r : Int32) (wv_bodies : Int32) (wv_bodyKind : List Int32) => 0 ≤ wv_bodies.toInt ∧ wv_bodies.toInt ≤ 50 ∧ wv_bodyKind.length = 50 ∧ zn wv_bodyKind 0 wv_bodies.toInt 0 8)) := by
  unfold fX9_body
  have n_1 := i_64 x1
  have n_2 : (0 : Int64).toInt = 0 := by decide
  have n_3 : (7 : Int64).toInt = 7 := by decide
  have n_4 : (1 : Int32).toInt = 1 := by decide
  have n_5 : (50 : Int32).toInt = 50 := by decide
  refine wp_bd1 (sf_X9_within (Nat.le_refl 700)) (fun r q => ?_)
  rcases q with ⟨rfl, q0, q1⟩ | ⟨rfl, -⟩
  · refine wp_ifn (by decide) ?_
    refine wp_if (fun _ => wp_so3 ⟨h_0, h_1, h_2, h_3⟩) (fun c1 => ?_)
    have d1 : v_bodies.toInt < 50 := by
      have : v_bodies.toInt ≠ 50 := fun e => c1 (Int32.toInt_inj.mp (by omega))
      omega
    refine wp_ck (i_inb (by omega) (by omega)) ?_
    refine wp_nm (fun l hl => ?_)
    refine wp_nm (fun y hy => ?_)
    have e := i_addE hy.symm (by omega) (by omega)
    subst hl
    exact wp_so3 ⟨by omega, by omega, by rw [is_len]; exact h_2, zn_ext h_3 h_0 rfl (by omega) (by omega) (by omega)⟩
  · refine wp_ifp rfl ?_
    exact wp_so3 ⟨h_0, h_1, h_2, h_3⟩
theorem sb_X9_isBody {x1 : Int32} {v_bodies : Int32} (h_0 : 0 ≤ v_bodies.toInt) (h_1 : v_bodies.toInt ≤ 50) : wp (fX9_isBody 700 x1 v_bodies) (fun (r : Bool) => (r = true ∧ 0 ≤ x1.toInt ∧ x1.toInt < v_bodies.toInt) ∨ (r = false ∧ True)) := by
  unfold fX9_isBody
  have n_1 := i_64 x1
  have n_2 : (0 : Int64).toInt = 0 := by decide
  have n_4 : (1 : Int32).toInt = 1 := by decide
  have n_3 := i_64 (v_bodies - (1 : Int32))
  have e := i_subE (rfl : v_bodies - (1 : Int32) = _) (by omega) (by omega)
  refine wp_bd1 (sf_X9_within (Nat.le_refl 700)) (fun r q => ?_)
  rcases q with ⟨rfl, q0, q1⟩ | ⟨rfl, -⟩
  · exact wp_so1 (Or.inl ⟨rfl, by rw [n_1, n_2] at q0; exact q0, by rw [n_1, n_3, e, n_4] at q1; omega⟩)
  · exact wp_so1 (Or.inr ⟨rfl, trivial⟩)
theorem st9_act {x1 : Int32} {x2 : Int32} {x3 : Int32} {v_bodies : Int32} {v_ran : Int32} {v_ownKind : Int32} {v_ownNumber : Int32} {v_bodyKind : List Int32} {v_trace : List Int32} (g_0 : gm_bo v_bodies v_bodyKind v_trace) : wp (fX9_act 700 x1 x2 x3 v_bodies v_ran v_ownKind v_ownNumber v_bodyKind v_trace) (cu5 (fun (r : Int32) (wv_ran : Int32) (wv_ownKind : Int32) (wv_ownNumber : Int32) (wv_trace : List Int32) => gm_bo v_bodies v_bodyKind wv_trace)) := by
  obtain ⟨a_0, a_1, a_2, a_3, a_4⟩ := id g_0
  unfold fX9_act
  refine wp_bd1 (sb_X9_isBody a_0 a_1) (fun r q => ?_)
  rcases q with ⟨rfl, q0, q1⟩ | ⟨rfl, -⟩
  · refine wp_ifn (by decide) ?_
    refine wp_ck (i_inb (by omega) (by omega)) ?_
    refine wp_nm (fun y hy => ?_)
    have z := zn_get a_4 q0 q0 (by omega) (by omega)
    rw [← hy] at z
    have F : ∀ (t : List Int32), t.length = 24 → gm_bo v_bodies v_bodyKind t := fun t h => ⟨a_0, a_1, a_2, h, a_4⟩
    refine wp_if (fun _ => ?_) (fun _ => wp_if (fun _ => ?_) (fun _ => wp_if (fun _ => ?_) (fun _ => wp_if (fun _ => ?_) (fun _ => wp_so5 g_0))))
    · obtain ⟨r, c, t, -, e1, e3⟩ := ac_0 z.1 z.2 x3 x1 v_trace a_3
      exact wp_bd3 (R := fun (_ : Int32) (_ : Int32) (t : List Int32) => t.length = 24) ⟨(r, c, t), e1, e3⟩ (fun _ _ _ h => wp_so5 (F _ h))
    · obtain ⟨r, c, t, -, e1, e3⟩ := ac_1 z.1 z.2 x3 x1 v_trace a_3
      exact wp_bd3 (R := fun (_ : Int32) (_ : Int32) (t : List Int32) => t.length = 24) ⟨(r, c, t), e1, e3⟩ (fun _ _ _ h => wp_so5 (F _ h))
    · obtain ⟨r, c, t, -, e1, e3⟩ := ac_2 z.1 z.2 x3 x1 v_trace a_3
      exact wp_bd3 (R := fun (_ : Int32) (_ : Int32) (t : List Int32) => t.length = 24) ⟨(r, c, t), e1, e3⟩ (fun _ _ _ h => wp_so5 (F _ h))
    · obtain ⟨r, c, t, -, e1, e3⟩ := ac_3 z.1 z.2 x3 x1 v_trace a_3
      exact wp_bd3 (R := fun (_ : Int32) (_ : Int32) (t : List Int32) => t.length = 24) ⟨(r, c, t), e1, e3⟩ (fun _ _ _ h => wp_so5 (F _ h))
  · refine wp_ifp rfl ?_
    exact wp_so5 g_0
set_option maxHeartbeats 4000000 in
set_option maxRecDepth 20000 in
theorem st9_sheet {x1 : Int32} {v_rowsOf : Int32} {v_columnsOf : Int32} {v_folded : Int32} {v_wronged : Int32} {v_shapeRows : List Int32} {v_shapeColumns : List Int32} {v_row : List Int32} {v_column : List Int32} {v_below : List Int32} {v_face : List Int32} {v_worn : List Int32} {v_lastBend : List Int32} {v_isKept : Bool} {v_imageRows : Int32} {v_imageColumns : Int32} (g_0 : gm_sh v_rowsOf v_columnsOf v_isKept v_imageRows v_imageColumns v_shapeRows v_shapeColumns v_row v_column v_below v_face v_worn v_lastBend) : wp (fX9_sheet 700 x1 v_rowsOf v_columnsOf v_folded v_wronged v_shapeRows v_shapeColumns v_row v_column v_below v_face v_worn v_lastBend) (cu13 (fun (r : Int32) (wv_rowsOf : Int32) (wv_columnsOf : Int32) (wv_folded : Int32) (wv_wronged : Int32) (wv_shapeRows : List Int32) (wv_shapeColumns : List Int32) (wv_row : List Int32) (wv_column : List Int32) (wv_below : List Int32) (wv_face : List Int32) (wv_worn : List Int32) (wv_lastBend : List Int32) => gm_sh wv_rowsOf wv_columnsOf v_isKept v_imageRows v_imageColumns wv_shapeRows wv_shapeColumns wv_row wv_column wv_below wv_face wv_worn wv_lastBend)) := by
  obtain ⟨a_0_0, a_0_1, a_0_2, a_0_3, a_0_4, a_0_5, a_0_6, a_0_7, a_0_8, a_0_9, a_0_10, a_0_11, a_0_12, a_0_13⟩ := id g_0
  have n0 : (0 : Int32).toInt = 0 := by decide
  have n1 : (1 : Int32).toInt = 1 := by decide
  have n5 : (5 : Int32).toInt = 5 := by decide
  refine wp_cu13 (sf_X9_sheet (u_row := v_row) (u_col := v_column) (u_sR := v_shapeRows) (u_sC := v_shapeColumns) (A := 0) (B9 := 32) (a9 := 0) (b9 := 1) (Nat.le_refl 700) a_0_0 a_0_1 a_0_2 a_0_3 a_0_4 a_0_5 a_0_6 a_0_7 a_0_8 a_0_9 a_0_10 a_0_11 (fr_refl _ _ _) (fr_refl _ _ _) (fr_refl _ _ _) (fr_refl _ _ _) (by omega) (by omega) (by omega) (by omega) a_0_12) (fun r wv_rowsOf wv_columnsOf wv_folded wv_wronged wv_shapeRows wv_shapeColumns wv_row wv_column wv_below wv_face wv_worn wv_lastBend ⟨q_0, q_1, q_2, q_3, q_4, q_5, q_6, q_7, q_8, q_9, q_10, q_11, q_12, q_13, q_14, q_15, q_16⟩ => ?_)
  have l_5 : ¬ (v_isKept = false) → 1 ≤ v_imageRows.toInt ∧ v_imageRows.toInt ≤ 4 ∧ 1 ≤ v_imageColumns.toInt ∧ v_imageColumns.toInt ≤ 8 ∧ lv9 v_imageRows v_imageColumns wv_shapeRows wv_shapeColumns wv_row wv_column (5 : Int32) := fun hk => (by
    obtain ⟨j_0, j_1, j_2, j_3, j_4⟩ := a_0_13 hk
    exact ⟨j_0, j_1, j_2, j_3, lv9_fr j_4 q_14 q_15 q_12 q_13 (by omega) (by omega) (by omega) (by omega) (i_fl j_0 j_1 j_2 j_3).2.2⟩)
  exact ⟨q_0, q_1, q_2, q_3, q_4, q_5, q_6, q_7, q_8, q_9, q_10, q_11, q_16, l_5⟩
set_option maxHeartbeats 4000000 in
set_option maxRecDepth 20000 in
theorem st9_limit {x1 : Int32} {v_keptMany : Int32} {v_done : Int32} {v_limit : List Int32} {v_changeWas : List Int32} {v_changeIs : List Int32} (g_0 : gm_ch v_keptMany v_done v_limit v_changeWas v_changeIs) : wp (fX9_limit 700 x1 v_keptMany v_done v_limit v_changeWas v_changeIs) (cu6 (fun (r : Int32) (wv_keptMany : Int32) (wv_done : Int32) (wv_limit : List Int32) (wv_changeWas : List Int32) (wv_changeIs : List Int32) => gm_ch wv_keptMany wv_done wv_limit wv_changeWas wv_changeIs)) := by
  obtain ⟨a_0_0, a_0_1, a_0_2, a_0_3, a_0_4, a_0_5, a_0_6, a_0_7⟩ := id g_0
  refine wp_cu6 (sf_X9_limit (Nat.le_refl 700) a_0_0 a_0_1 a_0_2 a_0_3 a_0_4 a_0_5 a_0_6 a_0_7) (fun r wv_keptMany wv_done wv_limit wv_changeWas wv_changeIs ⟨q_0, q_1, q_2, q_3, q_4, q_5, q_6, q_7⟩ => ?_)
  exact ⟨q_0, q_1, q_2, q_3, q_4, q_5, q_6, q_7⟩
set_option maxHeartbeats 4000000 in
set_option maxRecDepth 20000 in
theorem st9_feed {x1 : Int32} {v_tapeMany : Int32} {v_tape : List Int32} {v_textMany : Int32} {v_text : List Int32} {v_names : List Int32} {v_bends : List Int32} {v_high : List Int32} {v_to : List Int32} {v_pileSize : List Int32} (g_0 : gm_tx v_tapeMany v_textMany v_tape v_text v_names v_bends v_high v_to v_pileSize) : wp (fX9_feed 700 x1 v_tapeMany v_tape) (cu3 (fun (r : Int32) (wv_tapeMany : Int32) (wv_tape : List Int32) => gm_tx wv_tapeMany v_textMany wv_tape v_text v_names v_bends v_high v_to v_pileSize)) := by
  obtain ⟨a_0_0, a_0_1, a_0_2, a_0_3, a_0_4, a_0_5, a_0_6, a_0_7, a_0_8, a_0_9, a_0_10⟩ := id g_0
  refine wp_cu3 (sf_X9_feed (Nat.le_refl 700) a_0_0 a_0_1 a_0_4) (fun r wv_tapeMany wv_tape ⟨q_0, q_1, q_2⟩ => ?_)
  exact ⟨q_0, q_1, a_0_2, a_0_3, q_2, a_0_5, a_0_6, a_0_7, a_0_8, a_0_9, a_0_10⟩
set_option maxHeartbeats 4000000 in
set_option maxRecDepth 20000 in
theorem st9_law {v_tapeMany : Int32} {v_textMany : Int32} {v_base : Int32} {v_at : Int32} {v_ends : Int32} {v_fault : Int32} {v_opened : Int32} {v_tape : List Int32} {v_text : List Int32} {v_names : List Int32} {v_bends : List Int32} {v_high : List Int32} {v_to : List Int32} {v_pileSize : List Int32} (g_0 : gm_tx v_tapeMany v_textMany v_tape v_text v_names v_bends v_high v_to v_pileSize) : wp (fX9_law 700 v_tapeMany v_textMany v_base v_at v_ends v_fault v_opened v_tape v_text v_names) (cu9 (fun (r : Int32) (wv_tapeMany : Int32) (wv_textMany : Int32) (wv_base : Int32) (wv_at : Int32) (wv_ends : Int32) (wv_fault : Int32) (wv_opened : Int32) (wv_text : List Int32) => gm_tx wv_tapeMany wv_textMany v_tape wv_text v_names v_bends v_high v_to v_pileSize)) := by
  obtain ⟨a_0_0, a_0_1, a_0_2, a_0_3, a_0_4, a_0_5, a_0_6, a_0_7, a_0_8, a_0_9, a_0_10⟩ := id g_0
  refine wp_cu9 (sf_X9_law (Nat.le_refl 700) a_0_0 a_0_1 a_0_2 a_0_3 a_0_4 a_0_5 a_0_6) (fun r wv_tapeMany wv_textMany wv_base wv_at wv_ends wv_fault wv_opened wv_text ⟨q_0, q_1, q_2, q_3, q_4⟩ => ?_)
  exact ⟨q_0, q_1, q_2, q_3, a_0_4, q_4, a_0_6, a_0_7, a_0_8, a_0_9, a_0_10⟩
set_option maxHeartbeats 4000000 in
set_option maxRecDepth 20000 in
theorem st9_fold {x1 : Int32} {x2 : Int32} {v_rowsOf : Int32} {v_columnsOf : Int32} {v_folded : Int32} {v_wronged : Int32} {v_textMany : Int32} {v_base : Int32} {v_at : Int32} {v_ends : Int32} {v_fault : Int32} {v_opened : Int32} {v_bentMany : Int32} {v_bentWrong : Int32} {v_moreWorn : Int32} {v_limit : List Int32} {v_shapeRows : List Int32} {v_shapeColumns : List Int32} {v_row : List Int32} {v_column : List Int32} {v_below : List Int32} {v_face : List Int32} {v_worn : List Int32} {v_lastBend : List Int32} {v_tape : List Int32} {v_text : List Int32} {v_names : List Int32} {v_bends : List Int32} {v_high : List Int32} {v_to : List Int32} {v_pileSize : List Int32} {v_keptMany : Int32} {v_done : Int32} {v_changeWas : List Int32} {v_changeIs : List Int32} {v_isKept : Bool} {v_imageRows : Int32} {v_imageColumns : Int32} {v_tapeMany : Int32} (g_0 : gm_ch v_keptMany v_done v_limit v_changeWas v_changeIs) (g_1 : gm_sh v_rowsOf v_columnsOf v_isKept v_imageRows v_imageColumns v_shapeRows v_shapeColumns v_row v_column v_below v_face v_worn v_lastBend) (g_2 : gm_tx v_tapeMany v_textMany v_tape v_text v_names v_bends v_high v_to v_pileSize) : wp (fX9_fold 700 x1 x2 v_rowsOf v_columnsOf v_folded v_wronged v_textMany v_base v_at v_ends v_fault v_opened v_bentMany v_bentWrong v_moreWorn v_limit v_shapeRows v_shapeColumns v_row v_column v_below v_face v_worn v_lastBend v_tape v_text v_names v_bends v_high v_to v_pileSize) (cu24 (fun (r : Int32) (wv_folded : Int32) (wv_wronged : Int32) (wv_base : Int32) (wv_at : Int32) (wv_ends : Int32) (wv_fault : Int32) (wv_opened : Int32) (wv_bentMany : Int32) (wv_bentWrong : Int32) (wv_moreWorn : Int32) (wv_shapeRows : List Int32) (wv_shapeColumns : List Int32) (wv_row : List Int32) (wv_column : List Int32) (wv_below : List Int32) (wv_face : List Int32) (wv_worn : List Int32) (wv_lastBend : List Int32) (wv_names : List Int32) (wv_bends : List Int32) (wv_high : List Int32) (wv_to : List Int32) (wv_pileSize : List Int32) => gm_sh v_rowsOf v_columnsOf v_isKept v_imageRows v_imageColumns wv_shapeRows wv_shapeColumns wv_row wv_column wv_below wv_face wv_worn wv_lastBend ∧ gm_tx v_tapeMany v_textMany v_tape v_text wv_names wv_bends wv_high wv_to wv_pileSize)) := by
  obtain ⟨a_0_0, a_0_1, a_0_2, a_0_3, a_0_4, a_0_5, a_0_6, a_0_7⟩ := id g_0
  obtain ⟨a_1_0, a_1_1, a_1_2, a_1_3, a_1_4, a_1_5, a_1_6, a_1_7, a_1_8, a_1_9, a_1_10, a_1_11, a_1_12, a_1_13⟩ := id g_1
  obtain ⟨a_2_0, a_2_1, a_2_2, a_2_3, a_2_4, a_2_5, a_2_6, a_2_7, a_2_8, a_2_9, a_2_10⟩ := id g_2
  have n0 : (0 : Int32).toInt = 0 := by decide
  have n1 : (1 : Int32).toInt = 1 := by decide
  have n5 : (5 : Int32).toInt = 5 := by decide
  refine wp_cu24 (sf_X9_fold (u_row := v_row) (u_col := v_column) (u_sR := v_shapeRows) (u_sC := v_shapeColumns) (A := 0) (B9 := 32) (a9 := 0) (b9 := 1) (Nat.le_refl 700) a_1_0 a_1_1 a_1_2 a_1_3 a_2_2 a_2_3 a_0_4 a_1_4 a_1_5 a_1_6 a_1_7 a_1_8 a_1_9 a_1_10 a_1_11 a_2_4 a_2_5 a_2_6 a_2_7 a_2_8 a_2_9 a_2_10 (fr_refl _ _ _) (fr_refl _ _ _) (fr_refl _ _ _) (fr_refl _ _ _) (by omega) (by omega) (by omega) (by omega) a_1_12) (fun r wv_folded wv_wronged wv_base wv_at wv_ends wv_fault wv_opened wv_bentMany wv_bentWrong wv_moreWorn wv_shapeRows wv_shapeColumns wv_row wv_column wv_below wv_face wv_worn wv_lastBend wv_names wv_bends wv_high wv_to wv_pileSize ⟨q_0, q_1, q_2, q_3, q_4, q_5, q_6, q_7, q_8, q_9, q_10, q_11, q_12, q_13, q_14, q_15, q_16, q_17⟩ => ?_)
  have l_5 : ¬ (v_isKept = false) → 1 ≤ v_imageRows.toInt ∧ v_imageRows.toInt ≤ 4 ∧ 1 ≤ v_imageColumns.toInt ∧ v_imageColumns.toInt ≤ 8 ∧ lv9 v_imageRows v_imageColumns wv_shapeRows wv_shapeColumns wv_row wv_column (5 : Int32) := fun hk => (by
    obtain ⟨j_0, j_1, j_2, j_3, j_4⟩ := a_1_13 hk
    exact ⟨j_0, j_1, j_2, j_3, lv9_fr j_4 q_15 q_16 q_13 q_14 (by omega) (by omega) (by omega) (by omega) (i_fl j_0 j_1 j_2 j_3).2.2⟩)
  exact ⟨⟨a_1_0, a_1_1, a_1_2, a_1_3, q_0, q_1, q_2, q_3, q_4, q_5, q_6, q_7, q_17, l_5⟩, ⟨a_2_0, a_2_1, a_2_2, a_2_3, a_2_4, a_2_5, q_8, q_9, q_10, q_11, q_12⟩⟩
set_option maxHeartbeats 4000000 in
set_option maxRecDepth 20000 in
theorem st9_flat {v_rowsOf : Int32} {v_columnsOf : Int32} {v_shapeRows : List Int32} {v_shapeColumns : List Int32} {v_row : List Int32} {v_column : List Int32} {v_below : List Int32} {v_face : List Int32} {v_isKept : Bool} {v_imageRows : Int32} {v_imageColumns : Int32} {v_worn : List Int32} {v_lastBend : List Int32} (g_0 : gm_sh v_rowsOf v_columnsOf v_isKept v_imageRows v_imageColumns v_shapeRows v_shapeColumns v_row v_column v_below v_face v_worn v_lastBend) : wp (fX9_flat 700 v_rowsOf v_columnsOf v_shapeRows v_shapeColumns v_row v_column v_below v_face) (cu7 (fun (r : Int32) (wv_shapeRows : List Int32) (wv_shapeColumns : List Int32) (wv_row : List Int32) (wv_column : List Int32) (wv_below : List Int32) (wv_face : List Int32) => gm_sh v_rowsOf v_columnsOf v_isKept v_imageRows v_imageColumns wv_shapeRows wv_shapeColumns wv_row wv_column wv_below wv_face v_worn v_lastBend)) := by
  obtain ⟨a_0_0, a_0_1, a_0_2, a_0_3, a_0_4, a_0_5, a_0_6, a_0_7, a_0_8, a_0_9, a_0_10, a_0_11, a_0_12, a_0_13⟩ := id g_0
  have n0 : (0 : Int32).toInt = 0 := by decide
  have n1 : (1 : Int32).toInt = 1 := by decide
  have n5 : (5 : Int32).toInt = 5 := by decide
  refine wp_cu7 (sf_X9_flat (u_row := v_row) (u_col := v_column) (u_sR := v_shapeRows) (u_sC := v_shapeColumns) (A := 0) (B9 := 32) (a9 := 0) (b9 := 1) (Nat.le_refl 700) a_0_0 a_0_1 a_0_2 a_0_3 a_0_4 a_0_5 a_0_6 a_0_7 a_0_8 a_0_9 (fr_refl _ _ _) (fr_refl _ _ _) (fr_refl _ _ _) (fr_refl _ _ _) (by omega) (by omega) (by omega) (by omega) a_0_12) (fun r wv_shapeRows wv_shapeColumns wv_row wv_column wv_below wv_face ⟨q_0, q_1, q_2, q_3, q_4, q_5, q_6, q_7, q_8, q_9, q_10⟩ => ?_)
  have l_5 : ¬ (v_isKept = false) → 1 ≤ v_imageRows.toInt ∧ v_imageRows.toInt ≤ 4 ∧ 1 ≤ v_imageColumns.toInt ∧ v_imageColumns.toInt ≤ 8 ∧ lv9 v_imageRows v_imageColumns wv_shapeRows wv_shapeColumns wv_row wv_column (5 : Int32) := fun hk => (by
    obtain ⟨j_0, j_1, j_2, j_3, j_4⟩ := a_0_13 hk
    exact ⟨j_0, j_1, j_2, j_3, lv9_fr j_4 q_8 q_9 q_6 q_7 (by omega) (by omega) (by omega) (by omega) (i_fl j_0 j_1 j_2 j_3).2.2⟩)
  exact ⟨a_0_0, a_0_1, a_0_2, a_0_3, q_0, q_1, q_2, q_3, q_4, q_5, a_0_10, a_0_11, q_10, l_5⟩
set_option maxHeartbeats 4000000 in
set_option maxRecDepth 20000 in
theorem st9_crease {x1 : Int32} {x2 : Int32} {v_rowsOf : Int32} {v_columnsOf : Int32} {v_limit : List Int32} {v_worn : List Int32} {v_lastBend : List Int32} {v_keptMany : Int32} {v_done : Int32} {v_changeWas : List Int32} {v_changeIs : List Int32} {v_isKept : Bool} {v_imageRows : Int32} {v_imageColumns : Int32} {v_shapeRows : List Int32} {v_shapeColumns : List Int32} {v_row : List Int32} {v_column : List Int32} {v_below : List Int32} {v_face : List Int32} (g_0 : gm_ch v_keptMany v_done v_limit v_changeWas v_changeIs) (g_1 : gm_sh v_rowsOf v_columnsOf v_isKept v_imageRows v_imageColumns v_shapeRows v_shapeColumns v_row v_column v_below v_face v_worn v_lastBend) : wp (fX9_crease 700 x1 x2 v_rowsOf v_columnsOf v_limit v_worn v_lastBend) (fun (r : Int32) => True) := by
  obtain ⟨a_0_0, a_0_1, a_0_2, a_0_3, a_0_4, a_0_5, a_0_6, a_0_7⟩ := id g_0
  obtain ⟨a_1_0, a_1_1, a_1_2, a_1_3, a_1_4, a_1_5, a_1_6, a_1_7, a_1_8, a_1_9, a_1_10, a_1_11, a_1_12, a_1_13⟩ := id g_1
  refine wp_cu1 (sf_X9_crease (Nat.le_refl 700) a_1_0 a_1_1 a_1_2 a_1_3 a_0_4 a_1_10 a_1_11) (fun r _ => ?_)
  exact trivial
set_option maxHeartbeats 4000000 in
set_option maxRecDepth 20000 in
theorem st9_shape {x1 : Int32} {v_rowsOf : Int32} {v_columnsOf : Int32} {v_shapeRows : List Int32} {v_shapeColumns : List Int32} {v_below : List Int32} {v_isKept : Bool} {v_imageRows : Int32} {v_imageColumns : Int32} {v_row : List Int32} {v_column : List Int32} {v_face : List Int32} {v_worn : List Int32} {v_lastBend : List Int32} (g_0 : gm_sh v_rowsOf v_columnsOf v_isKept v_imageRows v_imageColumns v_shapeRows v_shapeColumns v_row v_column v_below v_face v_worn v_lastBend) : wp (fX9_shape 700 x1 v_rowsOf v_columnsOf v_shapeRows v_shapeColumns v_below) (fun (r : Int32) => True) := by
  obtain ⟨a_0_0, a_0_1, a_0_2, a_0_3, a_0_4, a_0_5, a_0_6, a_0_7, a_0_8, a_0_9, a_0_10, a_0_11, a_0_12, a_0_13⟩ := id g_0
  refine wp_cu1 (sf_X9_shape (Nat.le_refl 700) a_0_0 a_0_1 a_0_2 a_0_3 a_0_4 a_0_5 a_0_8) (fun r _ => ?_)
  exact trivial
set_option maxHeartbeats 4000000 in
set_option maxRecDepth 20000 in
theorem st9_where {x1 : Int32} {x2 : Int32} {v_rowsOf : Int32} {v_columnsOf : Int32} {v_row : List Int32} {v_column : List Int32} {v_below : List Int32} {v_face : List Int32} {v_isKept : Bool} {v_imageRows : Int32} {v_imageColumns : Int32} {v_shapeRows : List Int32} {v_shapeColumns : List Int32} {v_worn : List Int32} {v_lastBend : List Int32} (g_0 : gm_sh v_rowsOf v_columnsOf v_isKept v_imageRows v_imageColumns v_shapeRows v_shapeColumns v_row v_column v_below v_face v_worn v_lastBend) : wp (fX9_where 700 x1 x2 v_rowsOf v_columnsOf v_row v_column v_below v_face) (fun (r : Int32) => True) := by
  obtain ⟨a_0_0, a_0_1, a_0_2, a_0_3, a_0_4, a_0_5, a_0_6, a_0_7, a_0_8, a_0_9, a_0_10, a_0_11, a_0_12, a_0_13⟩ := id g_0
  refine wp_cu1 (sf_X9_where (Nat.le_refl 700) a_0_0 a_0_1 a_0_2 a_0_3 a_0_6 a_0_7 a_0_8 a_0_9) (fun r _ => ?_)
  exact trivial
set_option maxHeartbeats 4000000 in
set_option maxRecDepth 20000 in
theorem st9_pile {x1 : Int32} {x2 : Int32} {v_rowsOf : Int32} {v_columnsOf : Int32} {v_shapeRows : List Int32} {v_shapeColumns : List Int32} {v_row : List Int32} {v_column : List Int32} {v_below : List Int32} {v_isKept : Bool} {v_imageRows : Int32} {v_imageColumns : Int32} {v_face : List Int32} {v_worn : List Int32} {v_lastBend : List Int32} (g_0 : gm_sh v_rowsOf v_columnsOf v_isKept v_imageRows v_imageColumns v_shapeRows v_shapeColumns v_row v_column v_below v_face v_worn v_lastBend) : wp (fX9_pile 700 x1 x2 v_rowsOf v_columnsOf v_shapeRows v_shapeColumns v_row v_column v_below) (fun (r : Int32) => True) := by
  obtain ⟨a_0_0, a_0_1, a_0_2, a_0_3, a_0_4, a_0_5, a_0_6, a_0_7, a_0_8, a_0_9, a_0_10, a_0_11, a_0_12, a_0_13⟩ := id g_0
  refine wp_cu1 (sf_X9_pile (Nat.le_refl 700) a_0_0 a_0_1 a_0_2 a_0_3 a_0_4 a_0_5 a_0_6 a_0_7 a_0_8) (fun r _ => ?_)
  exact trivial
set_option maxHeartbeats 4000000 in
set_option maxRecDepth 20000 in
theorem st9_led {x1 : Int32} {v_rowsOf : Int32} {v_columnsOf : Int32} {v_folded : Int32} {v_wronged : Int32} {v_limit : List Int32} {v_worn : List Int32} {v_keptMany : Int32} {v_done : Int32} {v_changeWas : List Int32} {v_changeIs : List Int32} {v_isKept : Bool} {v_imageRows : Int32} {v_imageColumns : Int32} {v_shapeRows : List Int32} {v_shapeColumns : List Int32} {v_row : List Int32} {v_column : List Int32} {v_below : List Int32} {v_face : List Int32} {v_lastBend : List Int32} (g_0 : gm_ch v_keptMany v_done v_limit v_changeWas v_changeIs) (g_1 : gm_sh v_rowsOf v_columnsOf v_isKept v_imageRows v_imageColumns v_shapeRows v_shapeColumns v_row v_column v_below v_face v_worn v_lastBend) : wp (fX9_led 700 x1 v_rowsOf v_columnsOf v_folded v_wronged v_limit v_worn) (fun (r : Int32) => True) := by
  obtain ⟨a_0_0, a_0_1, a_0_2, a_0_3, a_0_4, a_0_5, a_0_6, a_0_7⟩ := id g_0
  obtain ⟨a_1_0, a_1_1, a_1_2, a_1_3, a_1_4, a_1_5, a_1_6, a_1_7, a_1_8, a_1_9, a_1_10, a_1_11, a_1_12, a_1_13⟩ := id g_1
  refine wp_cu1 (sf_X9_led (Nat.le_refl 700) a_1_0 a_1_1 a_1_2 a_1_3 a_0_4 a_1_10) (fun r _ => ?_)
  exact trivial
set_option maxHeartbeats 4000000 in
set_option maxRecDepth 20000 in
theorem st9_plan {x1 : Int32} {x2 : Int32} {v_planned : Int32} {v_planLine : List Int32} {v_planWay : List Int32} (g_0 : gm_pl v_planned v_planLine v_planWay) : wp (fX9_plan 700 x1 x2 v_planned v_planLine v_planWay) (cu4 (fun (r : Int32) (wv_planned : Int32) (wv_planLine : List Int32) (wv_planWay : List Int32) => gm_pl wv_planned wv_planLine wv_planWay)) := by
  obtain ⟨a_0_0, a_0_1, a_0_2, a_0_3⟩ := id g_0
  refine wp_cu4 (sf_X9_plan (Nat.le_refl 700) a_0_0 a_0_1 a_0_2 a_0_3) (fun r wv_planned wv_planLine wv_planWay ⟨q_0, q_1, q_2, q_3⟩ => ?_)
  exact ⟨q_0, q_1, q_2, q_3⟩
set_option maxHeartbeats 4000000 in
set_option maxRecDepth 20000 in
theorem st9_plans {x1 : Int32} {x2 : Int32} {x3 : Int32} {v_planned : Int32} {v_planLine : List Int32} {v_planWay : List Int32} {v_shelf : List Int32} {v_many : List Int32} {v_items : List Int64} {v_carried : List Int64} (g_0 : gm_pl v_planned v_planLine v_planWay) (g_1 : gm_sf v_shelf v_many v_items v_carried) : wp (fX9_plans 700 x1 x2 x3 v_planned v_planLine v_planWay v_shelf v_many v_items) (cu4 (fun (r : Int32) (wv_planned : Int32) (wv_planLine : List Int32) (wv_planWay : List Int32) => gm_pl wv_planned wv_planLine wv_planWay)) := by
  obtain ⟨a_0_0, a_0_1, a_0_2, a_0_3⟩ := id g_0
  obtain ⟨a_1_0, a_1_1, a_1_2, a_1_3, a_1_4⟩ := id g_1
  refine wp_cu4 (sf_X9_plans (Nat.le_refl 700) a_0_0 a_0_1 a_0_2 a_0_3 a_1_0 a_1_1 a_1_2 a_1_4) (fun r wv_planned wv_planLine wv_planWay ⟨q_0, q_1, q_2, q_3⟩ => ?_)
  exact ⟨q_0, q_1, q_2, q_3⟩
set_option maxHeartbeats 4000000 in
set_option maxRecDepth 20000 in
theorem st9_cost {x1 : Int32} {v_rowsOf : Int32} {v_columnsOf : Int32} {v_textMany : Int32} {v_base : Int32} {v_at : Int32} {v_ends : Int32} {v_fault : Int32} {v_opened : Int32} {v_bentMany : Int32} {v_bentWrong : Int32} {v_moreWorn : Int32} {v_planned : Int32} {v_allWrong : Int32} {v_allWorn : Int32} {v_z : Int32} {v_limit : List Int32} {v_shapeRows : List Int32} {v_shapeColumns : List Int32} {v_row : List Int32} {v_column : List Int32} {v_below : List Int32} {v_face : List Int32} {v_worn : List Int32} {v_lastBend : List Int32} {v_tape : List Int32} {v_text : List Int32} {v_names : List Int32} {v_bends : List Int32} {v_high : List Int32} {v_to : List Int32} {v_pileSize : List Int32} {v_planLine : List Int32} {v_planWay : List Int32} {v_keptMany : Int32} {v_done : Int32} {v_changeWas : List Int32} {v_changeIs : List Int32} {v_isKept : Bool} {v_imageRows : Int32} {v_imageColumns : Int32} {v_tapeMany : Int32} (g_0 : gm_ch v_keptMany v_done v_limit v_changeWas v_changeIs) (g_1 : gm_sh v_rowsOf v_columnsOf v_isKept v_imageRows v_imageColumns v_shapeRows v_shapeColumns v_row v_column v_below v_face v_worn v_lastBend) (g_2 : gm_tx v_tapeMany v_textMany v_tape v_text v_names v_bends v_high v_to v_pileSize) (g_3 : gm_pl v_planned v_planLine v_planWay) : wp (fX9_cost 700 x1 v_rowsOf v_columnsOf v_textMany v_base v_at v_ends v_fault v_opened v_bentMany v_bentWrong v_moreWorn v_planned v_allWrong v_allWorn v_z v_limit v_shapeRows v_shapeColumns v_row v_column v_below v_face v_worn v_lastBend v_tape v_text v_names v_bends v_high v_to v_pileSize v_planLine v_planWay) (cu25 (fun (r : Int32) (wv_base : Int32) (wv_at : Int32) (wv_ends : Int32) (wv_fault : Int32) (wv_opened : Int32) (wv_bentMany : Int32) (wv_bentWrong : Int32) (wv_moreWorn : Int32) (wv_allWrong : Int32) (wv_allWorn : Int32) (wv_z : Int32) (wv_shapeRows : List Int32) (wv_shapeColumns : List Int32) (wv_row : List Int32) (wv_column : List Int32) (wv_below : List Int32) (wv_face : List Int32) (wv_worn : List Int32) (wv_lastBend : List Int32) (wv_names : List Int32) (wv_bends : List Int32) (wv_high : List Int32) (wv_to : List Int32) (wv_pileSize : List Int32) => gm_sh v_rowsOf v_columnsOf v_isKept v_imageRows v_imageColumns wv_shapeRows wv_shapeColumns wv_row wv_column wv_below wv_face wv_worn wv_lastBend ∧ gm_tx v_tapeMany v_textMany v_tape v_text wv_names wv_bends wv_high wv_to wv_pileSize)) := by
  obtain ⟨a_0_0, a_0_1, a_0_2, a_0_3, a_0_4, a_0_5, a_0_6, a_0_7⟩ := id g_0
  obtain ⟨a_1_0, a_1_1, a_1_2, a_1_3, a_1_4, a_1_5, a_1_6, a_1_7, a_1_8, a_1_9, a_1_10, a_1_11, a_1_12, a_1_13⟩ := id g_1
  obtain ⟨a_2_0, a_2_1, a_2_2, a_2_3, a_2_4, a_2_5, a_2_6, a_2_7, a_2_8, a_2_9, a_2_10⟩ := id g_2
  obtain ⟨a_3_0, a_3_1, a_3_2, a_3_3⟩ := id g_3
  have n0 : (0 : Int32).toInt = 0 := by decide
  have n1 : (1 : Int32).toInt = 1 := by decide
  have n5 : (5 : Int32).toInt = 5 := by decide
  refine wp_cu25 (sf_X9_cost (u_row := v_row) (u_col := v_column) (u_sR := v_shapeRows) (u_sC := v_shapeColumns) (A := 32) (B9 := 160) (a9 := 1) (b9 := 5) (Nat.le_refl 700) a_1_0 a_1_1 a_1_2 a_1_3 a_2_2 a_2_3 a_3_0 a_3_1 a_0_4 a_1_4 a_1_5 a_1_6 a_1_7 a_1_8 a_1_9 a_1_10 a_1_11 a_2_4 a_2_5 a_2_6 a_2_7 a_2_8 a_2_9 a_2_10 a_3_2 a_3_3 (fr_refl _ _ _) (fr_refl _ _ _) (fr_refl _ _ _) (fr_refl _ _ _) (by omega) (by omega) (by omega) (by omega)) (fun r wv_base wv_at wv_ends wv_fault wv_opened wv_bentMany wv_bentWrong wv_moreWorn wv_allWrong wv_allWorn wv_z wv_shapeRows wv_shapeColumns wv_row wv_column wv_below wv_face wv_worn wv_lastBend wv_names wv_bends wv_high wv_to wv_pileSize ⟨q_0, q_1, q_2, q_3, q_4, q_5, q_6, q_7, q_8, q_9, q_10, q_11, q_12, q_13, q_14, q_15, q_16⟩ => ?_)
  have l_0 : lv9 v_rowsOf v_columnsOf wv_shapeRows wv_shapeColumns wv_row wv_column (0 : Int32) := lv9_fr a_1_12 q_15 q_16 q_13 q_14 (by omega) (by omega) (by omega) (by omega) (i_fl a_1_0 a_1_1 a_1_2 a_1_3).2.2
  have l_5 : ¬ (v_isKept = false) → 1 ≤ v_imageRows.toInt ∧ v_imageRows.toInt ≤ 4 ∧ 1 ≤ v_imageColumns.toInt ∧ v_imageColumns.toInt ≤ 8 ∧ lv9 v_imageRows v_imageColumns wv_shapeRows wv_shapeColumns wv_row wv_column (5 : Int32) := fun hk => (by
    obtain ⟨j_0, j_1, j_2, j_3, j_4⟩ := a_1_13 hk
    exact ⟨j_0, j_1, j_2, j_3, lv9_fr j_4 q_15 q_16 q_13 q_14 (by omega) (by omega) (by omega) (by omega) (i_fl j_0 j_1 j_2 j_3).2.2⟩)
  exact ⟨⟨a_1_0, a_1_1, a_1_2, a_1_3, q_0, q_1, q_2, q_3, q_4, q_5, q_6, q_7, l_0, l_5⟩, ⟨a_2_0, a_2_1, a_2_2, a_2_3, a_2_4, a_2_5, q_8, q_9, q_10, q_11, q_12⟩⟩
set_option maxHeartbeats 4000000 in
set_option maxRecDepth 20000 in
theorem st9_lies {x1 : Int32} {x2 : Int32} {v_rowsOf : Int32} {v_columnsOf : Int32} {v_textMany : Int32} {v_base : Int32} {v_at : Int32} {v_ends : Int32} {v_fault : Int32} {v_opened : Int32} {v_bentMany : Int32} {v_bentWrong : Int32} {v_moreWorn : Int32} {v_planned : Int32} {v_allWrong : Int32} {v_allWorn : Int32} {v_z : Int32} {v_limit : List Int32} {v_shapeRows : List Int32} {v_shapeColumns : List Int32} {v_row : List Int32} {v_column : List Int32} {v_below : List Int32} {v_face : List Int32} {v_worn : List Int32} {v_lastBend : List Int32} {v_tape : List Int32} {v_text : List Int32} {v_names : List Int32} {v_bends : List Int32} {v_high : List Int32} {v_to : List Int32} {v_pileSize : List Int32} {v_planLine : List Int32} {v_planWay : List Int32} {v_keptMany : Int32} {v_done : Int32} {v_changeWas : List Int32} {v_changeIs : List Int32} {v_isKept : Bool} {v_imageRows : Int32} {v_imageColumns : Int32} {v_tapeMany : Int32} (g_0 : gm_ch v_keptMany v_done v_limit v_changeWas v_changeIs) (g_1 : gm_sh v_rowsOf v_columnsOf v_isKept v_imageRows v_imageColumns v_shapeRows v_shapeColumns v_row v_column v_below v_face v_worn v_lastBend) (g_2 : gm_tx v_tapeMany v_textMany v_tape v_text v_names v_bends v_high v_to v_pileSize) (g_3 : gm_pl v_planned v_planLine v_planWay) : wp (fX9_lies 700 x1 x2 v_rowsOf v_columnsOf v_textMany v_base v_at v_ends v_fault v_opened v_bentMany v_bentWrong v_moreWorn v_planned v_allWrong v_allWorn v_z v_limit v_shapeRows v_shapeColumns v_row v_column v_below v_face v_worn v_lastBend v_tape v_text v_names v_bends v_high v_to v_pileSize v_planLine v_planWay) (cu25 (fun (r : Int32) (wv_base : Int32) (wv_at : Int32) (wv_ends : Int32) (wv_fault : Int32) (wv_opened : Int32) (wv_bentMany : Int32) (wv_bentWrong : Int32) (wv_moreWorn : Int32) (wv_allWrong : Int32) (wv_allWorn : Int32) (wv_z : Int32) (wv_shapeRows : List Int32) (wv_shapeColumns : List Int32) (wv_row : List Int32) (wv_column : List Int32) (wv_below : List Int32) (wv_face : List Int32) (wv_worn : List Int32) (wv_lastBend : List Int32) (wv_names : List Int32) (wv_bends : List Int32) (wv_high : List Int32) (wv_to : List Int32) (wv_pileSize : List Int32) => gm_sh v_rowsOf v_columnsOf v_isKept v_imageRows v_imageColumns wv_shapeRows wv_shapeColumns wv_row wv_column wv_below wv_face wv_worn wv_lastBend ∧ gm_tx v_tapeMany v_textMany v_tape v_text wv_names wv_bends wv_high wv_to wv_pileSize)) := by
  obtain ⟨a_0_0, a_0_1, a_0_2, a_0_3, a_0_4, a_0_5, a_0_6, a_0_7⟩ := id g_0
  obtain ⟨a_1_0, a_1_1, a_1_2, a_1_3, a_1_4, a_1_5, a_1_6, a_1_7, a_1_8, a_1_9, a_1_10, a_1_11, a_1_12, a_1_13⟩ := id g_1
  obtain ⟨a_2_0, a_2_1, a_2_2, a_2_3, a_2_4, a_2_5, a_2_6, a_2_7, a_2_8, a_2_9, a_2_10⟩ := id g_2
  obtain ⟨a_3_0, a_3_1, a_3_2, a_3_3⟩ := id g_3
  have n0 : (0 : Int32).toInt = 0 := by decide
  have n1 : (1 : Int32).toInt = 1 := by decide
  have n5 : (5 : Int32).toInt = 5 := by decide
  refine wp_cu25 (sf_X9_lies (u_row := v_row) (u_col := v_column) (u_sR := v_shapeRows) (u_sC := v_shapeColumns) (A := 32) (B9 := 160) (a9 := 1) (b9 := 5) (Nat.le_refl 700) a_1_0 a_1_1 a_1_2 a_1_3 a_2_2 a_2_3 a_3_0 a_3_1 a_0_4 a_1_4 a_1_5 a_1_6 a_1_7 a_1_8 a_1_9 a_1_10 a_1_11 a_2_4 a_2_5 a_2_6 a_2_7 a_2_8 a_2_9 a_2_10 a_3_2 a_3_3 (fr_refl _ _ _) (fr_refl _ _ _) (fr_refl _ _ _) (fr_refl _ _ _) (by omega) (by omega) (by omega) (by omega)) (fun r wv_base wv_at wv_ends wv_fault wv_opened wv_bentMany wv_bentWrong wv_moreWorn wv_allWrong wv_allWorn wv_z wv_shapeRows wv_shapeColumns wv_row wv_column wv_below wv_face wv_worn wv_lastBend wv_names wv_bends wv_high wv_to wv_pileSize ⟨q_0, q_1, q_2, q_3, q_4, q_5, q_6, q_7, q_8, q_9, q_10, q_11, q_12, q_13, q_14, q_15, q_16⟩ => ?_)
  have l_0 : lv9 v_rowsOf v_columnsOf wv_shapeRows wv_shapeColumns wv_row wv_column (0 : Int32) := lv9_fr a_1_12 q_15 q_16 q_13 q_14 (by omega) (by omega) (by omega) (by omega) (i_fl a_1_0 a_1_1 a_1_2 a_1_3).2.2
  have l_5 : ¬ (v_isKept = false) → 1 ≤ v_imageRows.toInt ∧ v_imageRows.toInt ≤ 4 ∧ 1 ≤ v_imageColumns.toInt ∧ v_imageColumns.toInt ≤ 8 ∧ lv9 v_imageRows v_imageColumns wv_shapeRows wv_shapeColumns wv_row wv_column (5 : Int32) := fun hk => (by
    obtain ⟨j_0, j_1, j_2, j_3, j_4⟩ := a_1_13 hk
    exact ⟨j_0, j_1, j_2, j_3, lv9_fr j_4 q_15 q_16 q_13 q_14 (by omega) (by omega) (by omega) (by omega) (i_fl j_0 j_1 j_2 j_3).2.2⟩)
  exact ⟨⟨a_1_0, a_1_1, a_1_2, a_1_3, q_0, q_1, q_2, q_3, q_4, q_5, q_6, q_7, l_0, l_5⟩, ⟨a_2_0, a_2_1, a_2_2, a_2_3, a_2_4, a_2_5, q_8, q_9, q_10, q_11, q_12⟩⟩
set_option maxHeartbeats 4000000 in
set_option maxRecDepth 20000 in
theorem st9_top {x1 : Int32} {x2 : Int32} {v_rowsOf : Int32} {v_columnsOf : Int32} {v_textMany : Int32} {v_base : Int32} {v_at : Int32} {v_ends : Int32} {v_fault : Int32} {v_opened : Int32} {v_bentMany : Int32} {v_bentWrong : Int32} {v_moreWorn : Int32} {v_planned : Int32} {v_allWrong : Int32} {v_allWorn : Int32} {v_z : Int32} {v_limit : List Int32} {v_shapeRows : List Int32} {v_shapeColumns : List Int32} {v_row : List Int32} {v_column : List Int32} {v_below : List Int32} {v_face : List Int32} {v_worn : List Int32} {v_lastBend : List Int32} {v_tape : List Int32} {v_text : List Int32} {v_names : List Int32} {v_bends : List Int32} {v_high : List Int32} {v_to : List Int32} {v_pileSize : List Int32} {v_planLine : List Int32} {v_planWay : List Int32} {v_keptMany : Int32} {v_done : Int32} {v_changeWas : List Int32} {v_changeIs : List Int32} {v_isKept : Bool} {v_imageRows : Int32} {v_imageColumns : Int32} {v_tapeMany : Int32} (g_0 : gm_ch v_keptMany v_done v_limit v_changeWas v_changeIs) (g_1 : gm_sh v_rowsOf v_columnsOf v_isKept v_imageRows v_imageColumns v_shapeRows v_shapeColumns v_row v_column v_below v_face v_worn v_lastBend) (g_2 : gm_tx v_tapeMany v_textMany v_tape v_text v_names v_bends v_high v_to v_pileSize) (g_3 : gm_pl v_planned v_planLine v_planWay) : wp (fX9_top 700 x1 x2 v_rowsOf v_columnsOf v_textMany v_base v_at v_ends v_fault v_opened v_bentMany v_bentWrong v_moreWorn v_planned v_allWrong v_allWorn v_z v_limit v_shapeRows v_shapeColumns v_row v_column v_below v_face v_worn v_lastBend v_tape v_text v_names v_bends v_high v_to v_pileSize v_planLine v_planWay) (cu25 (fun (r : Int32) (wv_base : Int32) (wv_at : Int32) (wv_ends : Int32) (wv_fault : Int32) (wv_opened : Int32) (wv_bentMany : Int32) (wv_bentWrong : Int32) (wv_moreWorn : Int32) (wv_allWrong : Int32) (wv_allWorn : Int32) (wv_z : Int32) (wv_shapeRows : List Int32) (wv_shapeColumns : List Int32) (wv_row : List Int32) (wv_column : List Int32) (wv_below : List Int32) (wv_face : List Int32) (wv_worn : List Int32) (wv_lastBend : List Int32) (wv_names : List Int32) (wv_bends : List Int32) (wv_high : List Int32) (wv_to : List Int32) (wv_pileSize : List Int32) => gm_sh v_rowsOf v_columnsOf v_isKept v_imageRows v_imageColumns wv_shapeRows wv_shapeColumns wv_row wv_column wv_below wv_face wv_worn wv_lastBend ∧ gm_tx v_tapeMany v_textMany v_tape v_text wv_names wv_bends wv_high wv_to wv_pileSize)) := by
  obtain ⟨a_0_0, a_0_1, a_0_2, a_0_3, a_0_4, a_0_5, a_0_6, a_0_7⟩ := id g_0
  obtain ⟨a_1_0, a_1_1, a_1_2, a_1_3, a_1_4, a_1_5, a_1_6, a_1_7, a_1_8, a_1_9, a_1_10, a_1_11, a_1_12, a_1_13⟩ := id g_1
  obtain ⟨a_2_0, a_2_1, a_2_2, a_2_3, a_2_4, a_2_5, a_2_6, a_2_7, a_2_8, a_2_9, a_2_10⟩ := id g_2
  obtain ⟨a_3_0, a_3_1, a_3_2, a_3_3⟩ := id g_3
  have n0 : (0 : Int32).toInt = 0 := by decide
  have n1 : (1 : Int32).toInt = 1 := by decide
  have n5 : (5 : Int32).toInt = 5 := by decide
  refine wp_cu25 (sf_X9_top (u_row := v_row) (u_col := v_column) (u_sR := v_shapeRows) (u_sC := v_shapeColumns) (A := 32) (B9 := 160) (a9 := 1) (b9 := 5) (Nat.le_refl 700) a_1_0 a_1_1 a_1_2 a_1_3 a_2_2 a_2_3 a_3_0 a_3_1 a_0_4 a_1_4 a_1_5 a_1_6 a_1_7 a_1_8 a_1_9 a_1_10 a_1_11 a_2_4 a_2_5 a_2_6 a_2_7 a_2_8 a_2_9 a_2_10 a_3_2 a_3_3 (fr_refl _ _ _) (fr_refl _ _ _) (fr_refl _ _ _) (fr_refl _ _ _) (by omega) (by omega) (by omega) (by omega)) (fun r wv_base wv_at wv_ends wv_fault wv_opened wv_bentMany wv_bentWrong wv_moreWorn wv_allWrong wv_allWorn wv_z wv_shapeRows wv_shapeColumns wv_row wv_column wv_below wv_face wv_worn wv_lastBend wv_names wv_bends wv_high wv_to wv_pileSize ⟨q_0, q_1, q_2, q_3, q_4, q_5, q_6, q_7, q_8, q_9, q_10, q_11, q_12, q_13, q_14, q_15, q_16⟩ => ?_)
  have l_0 : lv9 v_rowsOf v_columnsOf wv_shapeRows wv_shapeColumns wv_row wv_column (0 : Int32) := lv9_fr a_1_12 q_15 q_16 q_13 q_14 (by omega) (by omega) (by omega) (by omega) (i_fl a_1_0 a_1_1 a_1_2 a_1_3).2.2
  have l_5 : ¬ (v_isKept = false) → 1 ≤ v_imageRows.toInt ∧ v_imageRows.toInt ≤ 4 ∧ 1 ≤ v_imageColumns.toInt ∧ v_imageColumns.toInt ≤ 8 ∧ lv9 v_imageRows v_imageColumns wv_shapeRows wv_shapeColumns wv_row wv_column (5 : Int32) := fun hk => (by
    obtain ⟨j_0, j_1, j_2, j_3, j_4⟩ := a_1_13 hk
    exact ⟨j_0, j_1, j_2, j_3, lv9_fr j_4 q_15 q_16 q_13 q_14 (by omega) (by omega) (by omega) (by omega) (i_fl j_0 j_1 j_2 j_3).2.2⟩)
  exact ⟨⟨a_1_0, a_1_1, a_1_2, a_1_3, q_0, q_1, q_2, q_3, q_4, q_5, q_6, q_7, l_0, l_5⟩, ⟨a_2_0, a_2_1, a_2_2, a_2_3, a_2_4, a_2_5, q_8, q_9, q_10, q_11, q_12⟩⟩
set_option maxHeartbeats 4000000 in
set_option maxRecDepth 20000 in
theorem st9_beside {x1 : Int32} {x2 : Int32} {v_rowsOf : Int32} {v_columnsOf : Int32} {v_textMany : Int32} {v_base : Int32} {v_at : Int32} {v_ends : Int32} {v_fault : Int32} {v_opened : Int32} {v_bentMany : Int32} {v_bentWrong : Int32} {v_moreWorn : Int32} {v_planned : Int32} {v_allWrong : Int32} {v_allWorn : Int32} {v_z : Int32} {v_limit : List Int32} {v_shapeRows : List Int32} {v_shapeColumns : List Int32} {v_row : List Int32} {v_column : List Int32} {v_below : List Int32} {v_face : List Int32} {v_worn : List Int32} {v_lastBend : List Int32} {v_tape : List Int32} {v_text : List Int32} {v_names : List Int32} {v_bends : List Int32} {v_high : List Int32} {v_to : List Int32} {v_pileSize : List Int32} {v_planLine : List Int32} {v_planWay : List Int32} {v_keptMany : Int32} {v_done : Int32} {v_changeWas : List Int32} {v_changeIs : List Int32} {v_isKept : Bool} {v_imageRows : Int32} {v_imageColumns : Int32} {v_tapeMany : Int32} (g_0 : gm_ch v_keptMany v_done v_limit v_changeWas v_changeIs) (g_1 : gm_sh v_rowsOf v_columnsOf v_isKept v_imageRows v_imageColumns v_shapeRows v_shapeColumns v_row v_column v_below v_face v_worn v_lastBend) (g_2 : gm_tx v_tapeMany v_textMany v_tape v_text v_names v_bends v_high v_to v_pileSize) (g_3 : gm_pl v_planned v_planLine v_planWay) : wp (fX9_beside 700 x1 x2 v_rowsOf v_columnsOf v_textMany v_base v_at v_ends v_fault v_opened v_bentMany v_bentWrong v_moreWorn v_planned v_allWrong v_allWorn v_z v_limit v_shapeRows v_shapeColumns v_row v_column v_below v_face v_worn v_lastBend v_tape v_text v_names v_bends v_high v_to v_pileSize v_planLine v_planWay) (cu25 (fun (r : Int32) (wv_base : Int32) (wv_at : Int32) (wv_ends : Int32) (wv_fault : Int32) (wv_opened : Int32) (wv_bentMany : Int32) (wv_bentWrong : Int32) (wv_moreWorn : Int32) (wv_allWrong : Int32) (wv_allWorn : Int32) (wv_z : Int32) (wv_shapeRows : List Int32) (wv_shapeColumns : List Int32) (wv_row : List Int32) (wv_column : List Int32) (wv_below : List Int32) (wv_face : List Int32) (wv_worn : List Int32) (wv_lastBend : List Int32) (wv_names : List Int32) (wv_bends : List Int32) (wv_high : List Int32) (wv_to : List Int32) (wv_pileSize : List Int32) => gm_sh v_rowsOf v_columnsOf v_isKept v_imageRows v_imageColumns wv_shapeRows wv_shapeColumns wv_row wv_column wv_below wv_face wv_worn wv_lastBend ∧ gm_tx v_tapeMany v_textMany v_tape v_text wv_names wv_bends wv_high wv_to wv_pileSize)) := by
  obtain ⟨a_0_0, a_0_1, a_0_2, a_0_3, a_0_4, a_0_5, a_0_6, a_0_7⟩ := id g_0
  obtain ⟨a_1_0, a_1_1, a_1_2, a_1_3, a_1_4, a_1_5, a_1_6, a_1_7, a_1_8, a_1_9, a_1_10, a_1_11, a_1_12, a_1_13⟩ := id g_1
  obtain ⟨a_2_0, a_2_1, a_2_2, a_2_3, a_2_4, a_2_5, a_2_6, a_2_7, a_2_8, a_2_9, a_2_10⟩ := id g_2
  obtain ⟨a_3_0, a_3_1, a_3_2, a_3_3⟩ := id g_3
  have n0 : (0 : Int32).toInt = 0 := by decide
  have n1 : (1 : Int32).toInt = 1 := by decide
  have n5 : (5 : Int32).toInt = 5 := by decide
  refine wp_cu25 (sf_X9_beside (u_row := v_row) (u_col := v_column) (u_sR := v_shapeRows) (u_sC := v_shapeColumns) (A := 32) (B9 := 160) (a9 := 1) (b9 := 5) (Nat.le_refl 700) a_1_0 a_1_1 a_1_2 a_1_3 a_2_2 a_2_3 a_3_0 a_3_1 a_0_4 a_1_4 a_1_5 a_1_6 a_1_7 a_1_8 a_1_9 a_1_10 a_1_11 a_2_4 a_2_5 a_2_6 a_2_7 a_2_8 a_2_9 a_2_10 a_3_2 a_3_3 (fr_refl _ _ _) (fr_refl _ _ _) (fr_refl _ _ _) (fr_refl _ _ _) (by omega) (by omega) (by omega) (by omega)) (fun r wv_base wv_at wv_ends wv_fault wv_opened wv_bentMany wv_bentWrong wv_moreWorn wv_allWrong wv_allWorn wv_z wv_shapeRows wv_shapeColumns wv_row wv_column wv_below wv_face wv_worn wv_lastBend wv_names wv_bends wv_high wv_to wv_pileSize ⟨q_0, q_1, q_2, q_3, q_4, q_5, q_6, q_7, q_8, q_9, q_10, q_11, q_12, q_13, q_14, q_15, q_16⟩ => ?_)
  have l_0 : lv9 v_rowsOf v_columnsOf wv_shapeRows wv_shapeColumns wv_row wv_column (0 : Int32) := lv9_fr a_1_12 q_15 q_16 q_13 q_14 (by omega) (by omega) (by omega) (by omega) (i_fl a_1_0 a_1_1 a_1_2 a_1_3).2.2
  have l_5 : ¬ (v_isKept = false) → 1 ≤ v_imageRows.toInt ∧ v_imageRows.toInt ≤ 4 ∧ 1 ≤ v_imageColumns.toInt ∧ v_imageColumns.toInt ≤ 8 ∧ lv9 v_imageRows v_imageColumns wv_shapeRows wv_shapeColumns wv_row wv_column (5 : Int32) := fun hk => (by
    obtain ⟨j_0, j_1, j_2, j_3, j_4⟩ := a_1_13 hk
    exact ⟨j_0, j_1, j_2, j_3, lv9_fr j_4 q_15 q_16 q_13 q_14 (by omega) (by omega) (by omega) (by omega) (i_fl j_0 j_1 j_2 j_3).2.2⟩)
  exact ⟨⟨a_1_0, a_1_1, a_1_2, a_1_3, q_0, q_1, q_2, q_3, q_4, q_5, q_6, q_7, l_0, l_5⟩, ⟨a_2_0, a_2_1, a_2_2, a_2_3, a_2_4, a_2_5, q_8, q_9, q_10, q_11, q_12⟩⟩
set_option maxHeartbeats 4000000 in
set_option maxRecDepth 20000 in
theorem st9_wished {x1 : Int32} {x2 : Int32} {v_rowsOf : Int32} {v_columnsOf : Int32} {v_textMany : Int32} {v_base : Int32} {v_at : Int32} {v_ends : Int32} {v_fault : Int32} {v_opened : Int32} {v_bentMany : Int32} {v_bentWrong : Int32} {v_moreWorn : Int32} {v_wishedField : Int32} {v_isFound : Bool} {v_bestWrong : Int32} {v_bestWorn : Int32} {v_bestMany : Int32} {v_limit : List Int32} {v_shapeRows : List Int32} {v_shapeColumns : List Int32} {v_row : List Int32} {v_column : List Int32} {v_below : List Int32} {v_face : List Int32} {v_worn : List Int32} {v_lastBend : List Int32} {v_tape : List Int32} {v_text : List Int32} {v_names : List Int32} {v_bends : List Int32} {v_high : List Int32} {v_to : List Int32} {v_pileSize : List Int32} {v_way1 : List Int32} {v_bestWay : List Int32} {v_keptMany : Int32} {v_done : Int32} {v_changeWas : List Int32} {v_changeIs : List Int32} {v_isKept : Bool} {v_imageRows : Int32} {v_imageColumns : Int32} {v_tapeMany : Int32} (g_0 : gm_ch v_keptMany v_done v_limit v_changeWas v_changeIs) (g_1 : gm_sh v_rowsOf v_columnsOf v_isKept v_imageRows v_imageColumns v_shapeRows v_shapeColumns v_row v_column v_below v_face v_worn v_lastBend) (g_2 : gm_tx v_tapeMany v_textMany v_tape v_text v_names v_bends v_high v_to v_pileSize) (g_3 : gm_se v_bestMany v_way1 v_bestWay) : wp (fX9_wished 700 x1 x2 v_rowsOf v_columnsOf v_textMany v_base v_at v_ends v_fault v_opened v_bentMany v_bentWrong v_moreWorn v_wishedField v_isFound v_bestWrong v_bestWorn v_bestMany v_limit v_shapeRows v_shapeColumns v_row v_column v_below v_face v_worn v_lastBend v_tape v_text v_names v_bends v_high v_to v_pileSize v_way1 v_bestWay) (cu29 (fun (r : Int32) (wv_base : Int32) (wv_at : Int32) (wv_ends : Int32) (wv_fault : Int32) (wv_opened : Int32) (wv_bentMany : Int32) (wv_bentWrong : Int32) (wv_moreWorn : Int32) (wv_wishedField : Int32) (wv_isFound : Bool) (wv_bestWrong : Int32) (wv_bestWorn : Int32) (wv_bestMany : Int32) (wv_shapeRows : List Int32) (wv_shapeColumns : List Int32) (wv_row : List Int32) (wv_column : List Int32) (wv_below : List Int32) (wv_face : List Int32) (wv_worn : List Int32) (wv_lastBend : List Int32) (wv_names : List Int32) (wv_bends : List Int32) (wv_high : List Int32) (wv_to : List Int32) (wv_pileSize : List Int32) (wv_way1 : List Int32) (wv_bestWay : List Int32) => gm_sh v_rowsOf v_columnsOf v_isKept v_imageRows v_imageColumns wv_shapeRows wv_shapeColumns wv_row wv_column wv_below wv_face wv_worn wv_lastBend ∧ gm_tx v_tapeMany v_textMany v_tape v_text wv_names wv_bends wv_high wv_to wv_pileSize ∧ gm_se wv_bestMany wv_way1 wv_bestWay)) := by
  obtain ⟨a_0_0, a_0_1, a_0_2, a_0_3, a_0_4, a_0_5, a_0_6, a_0_7⟩ := id g_0
  obtain ⟨a_1_0, a_1_1, a_1_2, a_1_3, a_1_4, a_1_5, a_1_6, a_1_7, a_1_8, a_1_9, a_1_10, a_1_11, a_1_12, a_1_13⟩ := id g_1
  obtain ⟨a_2_0, a_2_1, a_2_2, a_2_3, a_2_4, a_2_5, a_2_6, a_2_7, a_2_8, a_2_9, a_2_10⟩ := id g_2
  obtain ⟨a_3_0, a_3_1, a_3_2, a_3_3⟩ := id g_3
  have n0 : (0 : Int32).toInt = 0 := by decide
  have n1 : (1 : Int32).toInt = 1 := by decide
  have n5 : (5 : Int32).toInt = 5 := by decide
  refine wp_cu29 (sf_X9_wished (u_row := v_row) (u_col := v_column) (u_sR := v_shapeRows) (u_sC := v_shapeColumns) (A := 32) (B9 := 160) (a9 := 1) (b9 := 5) (Nat.le_refl 700) a_1_0 a_1_1 a_1_2 a_1_3 a_2_2 a_2_3 a_3_0 a_3_1 a_0_4 a_1_4 a_1_5 a_1_6 a_1_7 a_1_8 a_1_9 a_1_10 a_1_11 a_2_4 a_2_5 a_2_6 a_2_7 a_2_8 a_2_9 a_2_10 a_3_2 a_3_3 (fr_refl _ _ _) (fr_refl _ _ _) (fr_refl _ _ _) (fr_refl _ _ _) (by omega) (by omega) (by omega) (by omega)) (fun r wv_base wv_at wv_ends wv_fault wv_opened wv_bentMany wv_bentWrong wv_moreWorn wv_wishedField wv_isFound wv_bestWrong wv_bestWorn wv_bestMany wv_shapeRows wv_shapeColumns wv_row wv_column wv_below wv_face wv_worn wv_lastBend wv_names wv_bends wv_high wv_to wv_pileSize wv_way1 wv_bestWay ⟨q_0, q_1, q_2, q_3, q_4, q_5, q_6, q_7, q_8, q_9, q_10, q_11, q_12, q_13, q_14, q_15, q_16, q_17, q_18, q_19, q_20⟩ => ?_)
  have l_0 : lv9 v_rowsOf v_columnsOf wv_shapeRows wv_shapeColumns wv_row wv_column (0 : Int32) := lv9_fr a_1_12 q_19 q_20 q_17 q_18 (by omega) (by omega) (by omega) (by omega) (i_fl a_1_0 a_1_1 a_1_2 a_1_3).2.2
  have l_5 : ¬ (v_isKept = false) → 1 ≤ v_imageRows.toInt ∧ v_imageRows.toInt ≤ 4 ∧ 1 ≤ v_imageColumns.toInt ∧ v_imageColumns.toInt ≤ 8 ∧ lv9 v_imageRows v_imageColumns wv_shapeRows wv_shapeColumns wv_row wv_column (5 : Int32) := fun hk => (by
    obtain ⟨j_0, j_1, j_2, j_3, j_4⟩ := a_1_13 hk
    exact ⟨j_0, j_1, j_2, j_3, lv9_fr j_4 q_19 q_20 q_17 q_18 (by omega) (by omega) (by omega) (by omega) (i_fl j_0 j_1 j_2 j_3).2.2⟩)
  exact ⟨⟨a_1_0, a_1_1, a_1_2, a_1_3, q_2, q_3, q_4, q_5, q_6, q_7, q_8, q_9, l_0, l_5⟩, ⟨a_2_0, a_2_1, a_2_2, a_2_3, a_2_4, a_2_5, q_10, q_11, q_12, q_13, q_14⟩, ⟨q_0, q_1, q_15, q_16⟩⟩
set_option maxHeartbeats 4000000 in
set_option maxRecDepth 20000 in
theorem st9_right {x1 : Int32} {v_rowsOf : Int32} {v_columnsOf : Int32} {v_textMany : Int32} {v_base : Int32} {v_at : Int32} {v_ends : Int32} {v_fault : Int32} {v_opened : Int32} {v_bentMany : Int32} {v_bentWrong : Int32} {v_moreWorn : Int32} {v_wishedField : Int32} {v_isFound : Bool} {v_bestWrong : Int32} {v_bestWorn : Int32} {v_bestMany : Int32} {v_limit : List Int32} {v_shapeRows : List Int32} {v_shapeColumns : List Int32} {v_row : List Int32} {v_column : List Int32} {v_below : List Int32} {v_face : List Int32} {v_worn : List Int32} {v_lastBend : List Int32} {v_tape : List Int32} {v_text : List Int32} {v_names : List Int32} {v_bends : List Int32} {v_high : List Int32} {v_to : List Int32} {v_pileSize : List Int32} {v_way1 : List Int32} {v_bestWay : List Int32} {v_keptMany : Int32} {v_done : Int32} {v_changeWas : List Int32} {v_changeIs : List Int32} {v_isKept : Bool} {v_imageRows : Int32} {v_imageColumns : Int32} {v_tapeMany : Int32} (g_0 : gm_ch v_keptMany v_done v_limit v_changeWas v_changeIs) (g_1 : gm_sh v_rowsOf v_columnsOf v_isKept v_imageRows v_imageColumns v_shapeRows v_shapeColumns v_row v_column v_below v_face v_worn v_lastBend) (g_2 : gm_tx v_tapeMany v_textMany v_tape v_text v_names v_bends v_high v_to v_pileSize) (g_3 : gm_se v_bestMany v_way1 v_bestWay) : wp (fX9_right 700 x1 v_rowsOf v_columnsOf v_textMany v_base v_at v_ends v_fault v_opened v_bentMany v_bentWrong v_moreWorn v_wishedField v_isFound v_bestWrong v_bestWorn v_bestMany v_limit v_shapeRows v_shapeColumns v_row v_column v_below v_face v_worn v_lastBend v_tape v_text v_names v_bends v_high v_to v_pileSize v_way1 v_bestWay) (cu29 (fun (r : Int32) (wv_base : Int32) (wv_at : Int32) (wv_ends : Int32) (wv_fault : Int32) (wv_opened : Int32) (wv_bentMany : Int32) (wv_bentWrong : Int32) (wv_moreWorn : Int32) (wv_wishedField : Int32) (wv_isFound : Bool) (wv_bestWrong : Int32) (wv_bestWorn : Int32) (wv_bestMany : Int32) (wv_shapeRows : List Int32) (wv_shapeColumns : List Int32) (wv_row : List Int32) (wv_column : List Int32) (wv_below : List Int32) (wv_face : List Int32) (wv_worn : List Int32) (wv_lastBend : List Int32) (wv_names : List Int32) (wv_bends : List Int32) (wv_high : List Int32) (wv_to : List Int32) (wv_pileSize : List Int32) (wv_way1 : List Int32) (wv_bestWay : List Int32) => gm_sh v_rowsOf v_columnsOf v_isKept v_imageRows v_imageColumns wv_shapeRows wv_shapeColumns wv_row wv_column wv_below wv_face wv_worn wv_lastBend ∧ gm_tx v_tapeMany v_textMany v_tape v_text wv_names wv_bends wv_high wv_to wv_pileSize ∧ gm_se wv_bestMany wv_way1 wv_bestWay)) := by
  obtain ⟨a_0_0, a_0_1, a_0_2, a_0_3, a_0_4, a_0_5, a_0_6, a_0_7⟩ := id g_0
  obtain ⟨a_1_0, a_1_1, a_1_2, a_1_3, a_1_4, a_1_5, a_1_6, a_1_7, a_1_8, a_1_9, a_1_10, a_1_11, a_1_12, a_1_13⟩ := id g_1
  obtain ⟨a_2_0, a_2_1, a_2_2, a_2_3, a_2_4, a_2_5, a_2_6, a_2_7, a_2_8, a_2_9, a_2_10⟩ := id g_2
  obtain ⟨a_3_0, a_3_1, a_3_2, a_3_3⟩ := id g_3
  have n0 : (0 : Int32).toInt = 0 := by decide
  have n1 : (1 : Int32).toInt = 1 := by decide
  have n5 : (5 : Int32).toInt = 5 := by decide
  refine wp_cu29 (sf_X9_right (u_row := v_row) (u_col := v_column) (u_sR := v_shapeRows) (u_sC := v_shapeColumns) (A := 32) (B9 := 160) (a9 := 1) (b9 := 5) (Nat.le_refl 700) a_1_0 a_1_1 a_1_2 a_1_3 a_2_2 a_2_3 a_3_0 a_3_1 a_0_4 a_1_4 a_1_5 a_1_6 a_1_7 a_1_8 a_1_9 a_1_10 a_1_11 a_2_4 a_2_5 a_2_6 a_2_7 a_2_8 a_2_9 a_2_10 a_3_2 a_3_3 (fr_refl _ _ _) (fr_refl _ _ _) (fr_refl _ _ _) (fr_refl _ _ _) (by omega) (by omega) (by omega) (by omega)) (fun r wv_base wv_at wv_ends wv_fault wv_opened wv_bentMany wv_bentWrong wv_moreWorn wv_wishedField wv_isFound wv_bestWrong wv_bestWorn wv_bestMany wv_shapeRows wv_shapeColumns wv_row wv_column wv_below wv_face wv_worn wv_lastBend wv_names wv_bends wv_high wv_to wv_pileSize wv_way1 wv_bestWay ⟨q_0, q_1, q_2, q_3, q_4, q_5, q_6, q_7, q_8, q_9, q_10, q_11, q_12, q_13, q_14, q_15, q_16, q_17, q_18, q_19, q_20⟩ => ?_)
  have l_0 : lv9 v_rowsOf v_columnsOf wv_shapeRows wv_shapeColumns wv_row wv_column (0 : Int32) := lv9_fr a_1_12 q_19 q_20 q_17 q_18 (by omega) (by omega) (by omega) (by omega) (i_fl a_1_0 a_1_1 a_1_2 a_1_3).2.2
  have l_5 : ¬ (v_isKept = false) → 1 ≤ v_imageRows.toInt ∧ v_imageRows.toInt ≤ 4 ∧ 1 ≤ v_imageColumns.toInt ∧ v_imageColumns.toInt ≤ 8 ∧ lv9 v_imageRows v_imageColumns wv_shapeRows wv_shapeColumns wv_row wv_column (5 : Int32) := fun hk => (by
    obtain ⟨j_0, j_1, j_2, j_3, j_4⟩ := a_1_13 hk
    exact ⟨j_0, j_1, j_2, j_3, lv9_fr j_4 q_19 q_20 q_17 q_18 (by omega) (by omega) (by omega) (by omega) (i_fl j_0 j_1 j_2 j_3).2.2⟩)
  exact ⟨⟨a_1_0, a_1_1, a_1_2, a_1_3, q_2, q_3, q_4, q_5, q_6, q_7, q_8, q_9, l_0, l_5⟩, ⟨a_2_0, a_2_1, a_2_2, a_2_3, a_2_4, a_2_5, q_10, q_11, q_12, q_13, q_14⟩, ⟨q_0, q_1, q_15, q_16⟩⟩
set_option maxHeartbeats 4000000 in
set_option maxRecDepth 20000 in
theorem st9_wind {x1 : Int32} {x2 : Int32} {x3 : Int32} {v_rowsOf : Int32} {v_columnsOf : Int32} {v_textMany : Int32} {v_base : Int32} {v_at : Int32} {v_ends : Int32} {v_fault : Int32} {v_opened : Int32} {v_bentMany : Int32} {v_bentWrong : Int32} {v_moreWorn : Int32} {v_planned : Int32} {v_allWrong : Int32} {v_allWorn : Int32} {v_z : Int32} {v_limit : List Int32} {v_shapeRows : List Int32} {v_shapeColumns : List Int32} {v_row : List Int32} {v_column : List Int32} {v_below : List Int32} {v_face : List Int32} {v_worn : List Int32} {v_lastBend : List Int32} {v_tape : List Int32} {v_text : List Int32} {v_names : List Int32} {v_bends : List Int32} {v_high : List Int32} {v_to : List Int32} {v_pileSize : List Int32} {v_planLine : List Int32} {v_planWay : List Int32} {v_keptMany : Int32} {v_done : Int32} {v_changeWas : List Int32} {v_changeIs : List Int32} {v_isKept : Bool} {v_imageRows : Int32} {v_imageColumns : Int32} {v_tapeMany : Int32} (g_0 : gm_ch v_keptMany v_done v_limit v_changeWas v_changeIs) (g_1 : gm_sh v_rowsOf v_columnsOf v_isKept v_imageRows v_imageColumns v_shapeRows v_shapeColumns v_row v_column v_below v_face v_worn v_lastBend) (g_2 : gm_tx v_tapeMany v_textMany v_tape v_text v_names v_bends v_high v_to v_pileSize) (g_3 : gm_pl v_planned v_planLine v_planWay) : wp (fX9_wind 700 x1 x2 x3 v_rowsOf v_columnsOf v_textMany v_base v_at v_ends v_fault v_opened v_bentMany v_bentWrong v_moreWorn v_planned v_allWrong v_allWorn v_z v_limit v_shapeRows v_shapeColumns v_row v_column v_below v_face v_worn v_lastBend v_tape v_text v_names v_bends v_high v_to v_pileSize v_planLine v_planWay) (cu25 (fun (r : Int32) (wv_base : Int32) (wv_at : Int32) (wv_ends : Int32) (wv_fault : Int32) (wv_opened : Int32) (wv_bentMany : Int32) (wv_bentWrong : Int32) (wv_moreWorn : Int32) (wv_allWrong : Int32) (wv_allWorn : Int32) (wv_z : Int32) (wv_shapeRows : List Int32) (wv_shapeColumns : List Int32) (wv_row : List Int32) (wv_column : List Int32) (wv_below : List Int32) (wv_face : List Int32) (wv_worn : List Int32) (wv_lastBend : List Int32) (wv_names : List Int32) (wv_bends : List Int32) (wv_high : List Int32) (wv_to : List Int32) (wv_pileSize : List Int32) => gm_sh v_rowsOf v_columnsOf v_isKept v_imageRows v_imageColumns wv_shapeRows wv_shapeColumns wv_row wv_column wv_below wv_face wv_worn wv_lastBend ∧ gm_tx v_tapeMany v_textMany v_tape v_text wv_names wv_bends wv_high wv_to wv_pileSize)) := by
  obtain ⟨a_0_0, a_0_1, a_0_2, a_0_3, a_0_4, a_0_5, a_0_6, a_0_7⟩ := id g_0
  obtain ⟨a_1_0, a_1_1, a_1_2, a_1_3, a_1_4, a_1_5, a_1_6, a_1_7, a_1_8, a_1_9, a_1_10, a_1_11, a_1_12, a_1_13⟩ := id g_1
  obtain ⟨a_2_0, a_2_1, a_2_2, a_2_3, a_2_4, a_2_5, a_2_6, a_2_7, a_2_8, a_2_9, a_2_10⟩ := id g_2
  obtain ⟨a_3_0, a_3_1, a_3_2, a_3_3⟩ := id g_3
  have n0 : (0 : Int32).toInt = 0 := by decide
  have n1 : (1 : Int32).toInt = 1 := by decide
  have n5 : (5 : Int32).toInt = 5 := by decide
  refine wp_cu25 (sf_X9_wind (u_row := v_row) (u_col := v_column) (u_sR := v_shapeRows) (u_sC := v_shapeColumns) (A := 32) (B9 := 160) (a9 := 1) (b9 := 5) (Nat.le_refl 700) a_1_0 a_1_1 a_1_2 a_1_3 a_2_2 a_2_3 a_3_0 a_3_1 a_0_4 a_1_4 a_1_5 a_1_6 a_1_7 a_1_8 a_1_9 a_1_10 a_1_11 a_2_4 a_2_5 a_2_6 a_2_7 a_2_8 a_2_9 a_2_10 a_3_2 a_3_3 (fr_refl _ _ _) (fr_refl _ _ _) (fr_refl _ _ _) (fr_refl _ _ _) (by omega) (by omega) (by omega) (by omega)) (fun r wv_base wv_at wv_ends wv_fault wv_opened wv_bentMany wv_bentWrong wv_moreWorn wv_allWrong wv_allWorn wv_z wv_shapeRows wv_shapeColumns wv_row wv_column wv_below wv_face wv_worn wv_lastBend wv_names wv_bends wv_high wv_to wv_pileSize ⟨q_0, q_1, q_2, q_3, q_4, q_5, q_6, q_7, q_8, q_9, q_10, q_11, q_12, q_13, q_14, q_15, q_16⟩ => ?_)
  have l_0 : lv9 v_rowsOf v_columnsOf wv_shapeRows wv_shapeColumns wv_row wv_column (0 : Int32) := lv9_fr a_1_12 q_15 q_16 q_13 q_14 (by omega) (by omega) (by omega) (by omega) (i_fl a_1_0 a_1_1 a_1_2 a_1_3).2.2
  have l_5 : ¬ (v_isKept = false) → 1 ≤ v_imageRows.toInt ∧ v_imageRows.toInt ≤ 4 ∧ 1 ≤ v_imageColumns.toInt ∧ v_imageColumns.toInt ≤ 8 ∧ lv9 v_imageRows v_imageColumns wv_shapeRows wv_shapeColumns wv_row wv_column (5 : Int32) := fun hk => (by
    obtain ⟨j_0, j_1, j_2, j_3, j_4⟩ := a_1_13 hk
    exact ⟨j_0, j_1, j_2, j_3, lv9_fr j_4 q_15 q_16 q_13 q_14 (by omega) (by omega) (by omega) (by omega) (i_fl j_0 j_1 j_2 j_3).2.2⟩)
  exact ⟨⟨a_1_0, a_1_1, a_1_2, a_1_3, q_0, q_1, q_2, q_3, q_4, q_5, q_6, q_7, l_0, l_5⟩, ⟨a_2_0, a_2_1, a_2_2, a_2_3, a_2_4, a_2_5, q_8, q_9, q_10, q_11, q_12⟩⟩
set_option maxHeartbeats 4000000 in
set_option maxRecDepth 20000 in
theorem st9_crosses {x1 : Int32} {x2 : Int32} {v_order1 : List Int32} {v_placeIn : List Int32} (g_0 : gm_or v_order1 v_placeIn) : wp (fX9_crosses 700 x1 x2 v_order1 v_placeIn) (cu3 (fun (r : Int32) (wv_order1 : List Int32) (wv_placeIn : List Int32) => gm_or wv_order1 wv_placeIn)) := by
  obtain ⟨a_0_0, a_0_1⟩ := id g_0
  refine wp_cu3 (sf_X9_crosses (Nat.le_refl 700) a_0_0 a_0_1) (fun r wv_order1 wv_placeIn ⟨q_0, q_1⟩ => ?_)
  exact ⟨q_0, q_1⟩
set_option maxHeartbeats 4000000 in
set_option maxRecDepth 20000 in
theorem st9_orders {x1 : Int32} {x2 : Int32} {v_soughtBy : Int32} {v_sought : Int32} {v_soughtAt : Int32} {v_foundMany : Int32} {v_foundOrder : Int32} {v_order1 : List Int32} {v_placeIn : List Int32} (g_0 : gm_or v_order1 v_placeIn) : wp (fX9_orders 700 x1 x2 v_soughtBy v_sought v_soughtAt v_foundMany v_foundOrder v_order1 v_placeIn) (cu8 (fun (r : Int32) (wv_soughtBy : Int32) (wv_sought : Int32) (wv_soughtAt : Int32) (wv_foundMany : Int32) (wv_foundOrder : Int32) (wv_order1 : List Int32) (wv_placeIn : List Int32) => gm_or wv_order1 wv_placeIn)) := by
  obtain ⟨a_0_0, a_0_1⟩ := id g_0
  refine wp_cu8 (sf_X9_orders (Nat.le_refl 700) a_0_0 a_0_1) (fun r wv_soughtBy wv_sought wv_soughtAt wv_foundMany wv_foundOrder wv_order1 wv_placeIn ⟨q_0, q_1⟩ => ?_)
  exact ⟨q_0, q_1⟩
set_option maxHeartbeats 4000000 in
set_option maxRecDepth 20000 in
theorem st9_bends {x1 : Int32} {x2 : Int32} {v_order1 : List Int32} {v_placeIn : List Int32} (g_0 : gm_or v_order1 v_placeIn) : wp (fX9_bends 700 x1 x2 v_order1 v_placeIn) (cu3 (fun (r : Int32) (wv_order1 : List Int32) (wv_placeIn : List Int32) => gm_or wv_order1 wv_placeIn)) := by
  obtain ⟨a_0_0, a_0_1⟩ := id g_0
  refine wp_cu3 (sf_X9_bends (Nat.le_refl 700) a_0_0 a_0_1) (fun r wv_order1 wv_placeIn ⟨q_0, q_1⟩ => ?_)
  exact ⟨q_0, q_1⟩
set_option maxHeartbeats 4000000 in
set_option maxRecDepth 20000 in
theorem st9_by {x1 : Int32} {x2 : Int32} {x3 : Int32} {v_soughtBy : Int32} {v_sought : Int32} {v_soughtAt : Int32} {v_foundMany : Int32} {v_foundOrder : Int32} {v_order1 : List Int32} {v_placeIn : List Int32} (g_0 : gm_or v_order1 v_placeIn) : wp (fX9_by 700 x1 x2 x3 v_soughtBy v_sought v_soughtAt v_foundMany v_foundOrder v_order1 v_placeIn) (cu8 (fun (r : Int32) (wv_soughtBy : Int32) (wv_sought : Int32) (wv_soughtAt : Int32) (wv_foundMany : Int32) (wv_foundOrder : Int32) (wv_order1 : List Int32) (wv_placeIn : List Int32) => gm_or wv_order1 wv_placeIn)) := by
  obtain ⟨a_0_0, a_0_1⟩ := id g_0
  refine wp_cu8 (sf_X9_by (Nat.le_refl 700) a_0_0 a_0_1) (fun r wv_soughtBy wv_sought wv_soughtAt wv_foundMany wv_foundOrder wv_order1 wv_placeIn ⟨q_0, q_1⟩ => ?_)
  exact ⟨q_0, q_1⟩
set_option maxHeartbeats 4000000 in
set_option maxRecDepth 20000 in
theorem st9_with {x1 : Int32} {x2 : Int32} {v_soughtBy : Int32} {v_sought : Int32} {v_soughtAt : Int32} {v_foundMany : Int32} {v_foundOrder : Int32} {v_order1 : List Int32} {v_placeIn : List Int32} (g_0 : gm_or v_order1 v_placeIn) : wp (fX9_with 700 x1 x2 v_soughtBy v_sought v_soughtAt v_foundMany v_foundOrder v_order1 v_placeIn) (cu8 (fun (r : Int32) (wv_soughtBy : Int32) (wv_sought : Int32) (wv_soughtAt : Int32) (wv_foundMany : Int32) (wv_foundOrder : Int32) (wv_order1 : List Int32) (wv_placeIn : List Int32) => gm_or wv_order1 wv_placeIn)) := by
  obtain ⟨a_0_0, a_0_1⟩ := id g_0
  refine wp_cu8 (sf_X9_with (Nat.le_refl 700) a_0_0 a_0_1) (fun r wv_soughtBy wv_sought wv_soughtAt wv_foundMany wv_foundOrder wv_order1 wv_placeIn ⟨q_0, q_1⟩ => ?_)
  exact ⟨q_0, q_1⟩
set_option maxHeartbeats 4000000 in
set_option maxRecDepth 20000 in
theorem st9_image {v_rowsOf : Int32} {v_columnsOf : Int32} {v_folded : Int32} {v_wronged : Int32} {v_isKept : Bool} {v_imageRows : Int32} {v_imageColumns : Int32} {v_imageFolded : Int32} {v_imageWronged : Int32} {v_shapeRows : List Int32} {v_shapeColumns : List Int32} {v_row : List Int32} {v_column : List Int32} {v_below : List Int32} {v_face : List Int32} {v_worn : List Int32} {v_lastBend : List Int32} (g_0 : gm_sh v_rowsOf v_columnsOf v_isKept v_imageRows v_imageColumns v_shapeRows v_shapeColumns v_row v_column v_below v_face v_worn v_lastBend) : wp (fX9_image 700 v_rowsOf v_columnsOf v_folded v_wronged v_isKept v_imageRows v_imageColumns v_imageFolded v_imageWronged v_shapeRows v_shapeColumns v_row v_column v_below v_face v_worn v_lastBend) (cu14 (fun (r : Int32) (wv_isKept : Bool) (wv_imageRows : Int32) (wv_imageColumns : Int32) (wv_imageFolded : Int32) (wv_imageWronged : Int32) (wv_shapeRows : List Int32) (wv_shapeColumns : List Int32) (wv_row : List Int32) (wv_column : List Int32) (wv_below : List Int32) (wv_face : List Int32) (wv_worn : List Int32) (wv_lastBend : List Int32) => gm_sh v_rowsOf v_columnsOf wv_isKept wv_imageRows wv_imageColumns wv_shapeRows wv_shapeColumns wv_row wv_column wv_below wv_face wv_worn wv_lastBend)) := by
  obtain ⟨a_0_0, a_0_1, a_0_2, a_0_3, a_0_4, a_0_5, a_0_6, a_0_7, a_0_8, a_0_9, a_0_10, a_0_11, a_0_12, a_0_13⟩ := id g_0
  have n0 : (0 : Int32).toInt = 0 := by decide
  have n1 : (1 : Int32).toInt = 1 := by decide
  have n5 : (5 : Int32).toInt = 5 := by decide
  refine wp_cu14 (sf_X9_image (u_row := v_row) (u_col := v_column) (u_sR := v_shapeRows) (u_sC := v_shapeColumns) (A := 160) (B9 := 192) (a9 := 5) (b9 := 6) (Nat.le_refl 700) a_0_0 a_0_1 a_0_2 a_0_3 a_0_4 a_0_5 a_0_6 a_0_7 a_0_8 a_0_9 a_0_10 a_0_11 (fr_refl _ _ _) (fr_refl _ _ _) (fr_refl _ _ _) (fr_refl _ _ _) (by omega) (by omega) (by omega) (by omega) a_0_12) (fun r wv_isKept wv_imageRows wv_imageColumns wv_imageFolded wv_imageWronged wv_shapeRows wv_shapeColumns wv_row wv_column wv_below wv_face wv_worn wv_lastBend ⟨q_0, q_1, q_2, q_3, q_4, q_5, q_6, q_7, q_8, q_9, q_10, q_11, q_12, q_13, q_14, q_15, q_16⟩ => ?_)
  have l_0 : lv9 v_rowsOf v_columnsOf wv_shapeRows wv_shapeColumns wv_row wv_column (0 : Int32) := lv9_fr a_0_12 q_10 q_11 q_8 q_9 (by omega) (by omega) (by omega) (by omega) (i_fl a_0_0 a_0_1 a_0_2 a_0_3).2.2
  exact ⟨a_0_0, a_0_1, a_0_2, a_0_3, q_0, q_1, q_2, q_3, q_4, q_5, q_6, q_7, l_0, (fun _ => ⟨q_13, q_14, q_15, q_16, q_12⟩)⟩
set_option maxHeartbeats 4000000 in
set_option maxRecDepth 20000 in
theorem st9_back {v_rowsOf : Int32} {v_columnsOf : Int32} {v_folded : Int32} {v_wronged : Int32} {v_isKept : Bool} {v_imageRows : Int32} {v_imageColumns : Int32} {v_imageFolded : Int32} {v_imageWronged : Int32} {v_shapeRows : List Int32} {v_shapeColumns : List Int32} {v_row : List Int32} {v_column : List Int32} {v_below : List Int32} {v_face : List Int32} {v_worn : List Int32} {v_lastBend : List Int32} (g_0 : gm_sh v_rowsOf v_columnsOf v_isKept v_imageRows v_imageColumns v_shapeRows v_shapeColumns v_row v_column v_below v_face v_worn v_lastBend) : wp (fX9_back 700 v_rowsOf v_columnsOf v_folded v_wronged v_isKept v_imageRows v_imageColumns v_imageFolded v_imageWronged v_shapeRows v_shapeColumns v_row v_column v_below v_face v_worn v_lastBend) (cu13 (fun (r : Int32) (wv_rowsOf : Int32) (wv_columnsOf : Int32) (wv_folded : Int32) (wv_wronged : Int32) (wv_shapeRows : List Int32) (wv_shapeColumns : List Int32) (wv_row : List Int32) (wv_column : List Int32) (wv_below : List Int32) (wv_face : List Int32) (wv_worn : List Int32) (wv_lastBend : List Int32) => gm_sh wv_rowsOf wv_columnsOf v_isKept v_imageRows v_imageColumns wv_shapeRows wv_shapeColumns wv_row wv_column wv_below wv_face wv_worn wv_lastBend)) := by
  obtain ⟨a_0_0, a_0_1, a_0_2, a_0_3, a_0_4, a_0_5, a_0_6, a_0_7, a_0_8, a_0_9, a_0_10, a_0_11, a_0_12, a_0_13⟩ := id g_0
  have n0 : (0 : Int32).toInt = 0 := by decide
  have n1 : (1 : Int32).toInt = 1 := by decide
  have n5 : (5 : Int32).toInt = 5 := by decide
  by_cases hK : v_isKept = false
  · subst hK
    exact wp_of (bk_f _ _ _ _ _ _ _ _ _ _ _ _ _ _ _ _ _) (wp_so13 g_0)
  · obtain ⟨k_0, k_1, k_2, k_3, k_4⟩ := a_0_13 hK
    refine wp_cu13 (sf_X9_back (u_row := v_row) (u_col := v_column) (u_sR := v_shapeRows) (u_sC := v_shapeColumns) (A := 0) (B9 := 32) (a9 := 0) (b9 := 1) (Nat.le_refl 700) a_0_0 a_0_1 a_0_2 a_0_3 a_0_4 a_0_5 a_0_6 a_0_7 a_0_8 a_0_9 a_0_10 a_0_11 (fr_refl _ _ _) (fr_refl _ _ _) (fr_refl _ _ _) (fr_refl _ _ _) (by omega) (by omega) (by omega) (by omega) hK k_0 k_1 k_2 k_3 k_4) (fun r wv_rowsOf wv_columnsOf wv_folded wv_wronged wv_shapeRows wv_shapeColumns wv_row wv_column wv_below wv_face wv_worn wv_lastBend ⟨q_0, q_1, q_2, q_3, q_4, q_5, q_6, q_7, q_8, q_9, q_10, q_11, q_12, q_13, q_14, q_15, q_16⟩ => ?_)
    have l_5 : ¬ (v_isKept = false) → 1 ≤ v_imageRows.toInt ∧ v_imageRows.toInt ≤ 4 ∧ 1 ≤ v_imageColumns.toInt ∧ v_imageColumns.toInt ≤ 8 ∧ lv9 v_imageRows v_imageColumns wv_shapeRows wv_shapeColumns wv_row wv_column (5 : Int32) := fun hk => (by
      obtain ⟨j_0, j_1, j_2, j_3, j_4⟩ := a_0_13 hk
      exact ⟨j_0, j_1, j_2, j_3, lv9_fr j_4 q_14 q_15 q_12 q_13 (by omega) (by omega) (by omega) (by omega) (i_fl j_0 j_1 j_2 j_3).2.2⟩)
    exact ⟨q_0, q_1, q_2, q_3, q_4, q_5, q_6, q_7, q_8, q_9, q_10, q_11, q_16, l_5⟩
set_option maxHeartbeats 4000000 in
set_option maxRecDepth 20000 in
theorem st9_undo {v_done : Int32} {v_limit : List Int32} {v_changeWas : List Int32} {v_keptMany : Int32} {v_changeIs : List Int32} (g_0 : gm_ch v_keptMany v_done v_limit v_changeWas v_changeIs) : wp (fX9_undo 700 v_done v_limit v_changeWas) (cu3 (fun (r : Int32) (wv_done : Int32) (wv_limit : List Int32) => gm_ch v_keptMany wv_done wv_limit v_changeWas v_changeIs)) := by
  obtain ⟨a_0_0, a_0_1, a_0_2, a_0_3, a_0_4, a_0_5, a_0_6, a_0_7⟩ := id g_0
  refine wp_cu3 (sf_X9_undo (Nat.le_refl 700) a_0_2 a_0_3 a_0_4 a_0_5) (fun r wv_done wv_limit ⟨q_0, q_1, q_2, q_3⟩ => ?_)
  exact ⟨a_0_0, a_0_1, q_0, q_1, q_2, a_0_5, a_0_6, (by omega)⟩
set_option maxHeartbeats 4000000 in
set_option maxRecDepth 20000 in
theorem st9_redo {v_keptMany : Int32} {v_done : Int32} {v_limit : List Int32} {v_changeIs : List Int32} {v_changeWas : List Int32} (g_0 : gm_ch v_keptMany v_done v_limit v_changeWas v_changeIs) : wp (fX9_redo 700 v_keptMany v_done v_limit v_changeIs) (cu3 (fun (r : Int32) (wv_done : Int32) (wv_limit : List Int32) => gm_ch v_keptMany wv_done wv_limit v_changeWas v_changeIs)) := by
  obtain ⟨a_0_0, a_0_1, a_0_2, a_0_3, a_0_4, a_0_5, a_0_6, a_0_7⟩ := id g_0
  refine wp_cu3 (sf_X9_redo (Nat.le_refl 700) a_0_0 a_0_1 a_0_2 a_0_3 a_0_4 a_0_6 a_0_7) (fun r wv_done wv_limit ⟨q_0, q_1, q_2, q_3⟩ => ?_)
  exact ⟨a_0_0, a_0_1, q_0, q_1, q_2, a_0_5, a_0_6, q_3⟩
set_option maxHeartbeats 4000000 in
set_option maxRecDepth 20000 in
theorem st9_body {x1 : Int32} {v_bodies : Int32} {v_bodyKind : List Int32} {v_trace : List Int32} (g_0 : gm_bo v_bodies v_bodyKind v_trace) : wp (fX9_body 700 x1 v_bodies v_bodyKind) (cu3 (fun (r : Int32) (wv_bodies : Int32) (wv_bodyKind : List Int32) => gm_bo wv_bodies wv_bodyKind v_trace)) := by
  obtain ⟨a_0_0, a_0_1, a_0_2, a_0_3, a_0_4⟩ := id g_0
  refine wp_cu3 (sfb_X9_body a_0_0 a_0_1 a_0_2 a_0_4) (fun r wv_bodies wv_bodyKind ⟨q_0, q_1, q_2, q_3⟩ => ?_)
  exact ⟨q_0, q_1, q_2, a_0_3, q_3⟩
set_option maxHeartbeats 4000000 in
set_option maxRecDepth 20000 in
theorem st9_trace {x1 : Int32} {v_ran : Int32} {v_trace : List Int32} {v_bodies : Int32} {v_bodyKind : List Int32} (g_0 : gm_bo v_bodies v_bodyKind v_trace) : wp (fX9_trace 700 x1 v_ran v_trace) (fun (r : Int32) => True) := by
  obtain ⟨a_0_0, a_0_1, a_0_2, a_0_3, a_0_4⟩ := id g_0
  refine wp_cu1 (sf_X9_trace (Nat.le_refl 700) a_0_3) (fun r _ => ?_)
  exact trivial
set_option maxHeartbeats 4000000 in
set_option maxRecDepth 20000 in
theorem st9_keep {x1 : Int32} {x2 : Int32} {v_bodies : Int32} {v_shelf : List Int32} {v_many : List Int32} {v_bodyKind : List Int32} {v_trace : List Int32} {v_items : List Int64} {v_carried : List Int64} (g_0 : gm_bo v_bodies v_bodyKind v_trace) (g_1 : gm_sf v_shelf v_many v_items v_carried) : wp (fX9_keep 700 x1 x2 v_bodies v_shelf v_many) (cu3 (fun (r : Int32) (wv_shelf : List Int32) (wv_many : List Int32) => gm_sf wv_shelf wv_many v_items v_carried)) := by
  obtain ⟨a_0_0, a_0_1, a_0_2, a_0_3, a_0_4⟩ := id g_0
  obtain ⟨a_1_0, a_1_1, a_1_2, a_1_3, a_1_4⟩ := id g_1
  refine wp_cu3 (sf_X9_keep (Nat.le_refl 700) a_0_0 a_0_1 a_1_0 a_1_1 a_1_4) (fun r wv_shelf wv_many ⟨q_0, q_1, q_2⟩ => ?_)
  exact ⟨q_0, q_1, a_1_2, a_1_3, q_2⟩
set_option maxHeartbeats 4000000 in
set_option maxRecDepth 20000 in
theorem st9_row {x1 : Int32} {x2 : Int32} {x3 : Int32} {v_shelf : List Int32} {v_many : List Int32} {v_items : List Int64} {v_carried : List Int64} (g_0 : gm_sf v_shelf v_many v_items v_carried) : wp (fX9_row 700 x1 x2 x3 v_shelf v_many v_items) (cu4 (fun (r : Int32) (wv_shelf : List Int32) (wv_many : List Int32) (wv_items : List Int64) => gm_sf wv_shelf wv_many wv_items v_carried)) := by
  obtain ⟨a_0_0, a_0_1, a_0_2, a_0_3, a_0_4⟩ := id g_0
  refine wp_cu4 (sf_X9_row (Nat.le_refl 700) a_0_0 a_0_1 a_0_2 a_0_4) (fun r wv_shelf wv_many wv_items ⟨q_0, q_1, q_2, q_3⟩ => ?_)
  exact ⟨q_0, q_1, q_2, a_0_3, q_3⟩
set_option maxHeartbeats 4000000 in
set_option maxRecDepth 20000 in
theorem st9_put {x1 : Int32} {x2 : Int32} {x3 : Int64} {v_shelf : List Int32} {v_many : List Int32} {v_items : List Int64} {v_carried : List Int64} (g_0 : gm_sf v_shelf v_many v_items v_carried) : wp (fX9_put 700 x1 x2 x3 v_shelf v_many v_items) (cu2 (fun (r : Int32) (wv_items : List Int64) => gm_sf v_shelf v_many wv_items v_carried)) := by
  obtain ⟨a_0_0, a_0_1, a_0_2, a_0_3, a_0_4⟩ := id g_0
  refine wp_cu2 (sf_X9_put (Nat.le_refl 700) a_0_0 a_0_1 a_0_2 a_0_4) (fun r wv_items q_0 => ?_)
  exact ⟨a_0_0, a_0_1, q_0, a_0_3, a_0_4⟩
set_option maxHeartbeats 4000000 in
set_option maxRecDepth 20000 in
theorem st9_element {x1 : Int32} {x2 : Int32} {v_shelf : List Int32} {v_many : List Int32} {v_items : List Int64} {v_carried : List Int64} (g_0 : gm_sf v_shelf v_many v_items v_carried) : wp (fX9_element 700 x1 x2 v_shelf v_many v_items) (fun (r : Int64) => True) := by
  obtain ⟨a_0_0, a_0_1, a_0_2, a_0_3, a_0_4⟩ := id g_0
  refine wp_cu1 (sf_X9_element (Nat.le_refl 700) a_0_0 a_0_1 a_0_2 a_0_4) (fun r _ => ?_)
  exact trivial
set_option maxHeartbeats 4000000 in
set_option maxRecDepth 20000 in
theorem st9_shift {x1 : Int32} {x2 : Int32} {x3 : Int32} {x4 : Int32} {x5 : Int32} {v_shelf : List Int32} {v_many : List Int32} {v_items : List Int64} {v_carried : List Int64} (g_0 : gm_sf v_shelf v_many v_items v_carried) : wp (fX9_shift 700 x1 x2 x3 x4 x5 v_shelf v_many v_items v_carried) (cu3 (fun (r : Int32) (wv_items : List Int64) (wv_carried : List Int64) => gm_sf v_shelf v_many wv_items wv_carried)) := by
  obtain ⟨a_0_0, a_0_1, a_0_2, a_0_3, a_0_4⟩ := id g_0
  refine wp_cu3 (sf_X9_shift (Nat.le_refl 700) a_0_0 a_0_1 a_0_2 a_0_3 a_0_4) (fun r wv_items wv_carried ⟨q_0, q_1⟩ => ?_)
  exact ⟨a_0_0, a_0_1, q_0, q_1, a_0_4⟩
set_option maxHeartbeats 4000000 in
set_option maxRecDepth 20000 in
theorem st9_taken {x1 : Int32} {x2 : Int32} {v_bodyKind : List Int32} {v_shelf : List Int32} {v_bodies : Int32} {v_trace : List Int32} {v_many : List Int32} {v_items : List Int64} {v_carried : List Int64} (g_0 : gm_bo v_bodies v_bodyKind v_trace) (g_1 : gm_sf v_shelf v_many v_items v_carried) : wp (fX9_taken 700 x1 x2 v_bodyKind v_shelf) (fun (r : Int32) => True) := by
  obtain ⟨a_0_0, a_0_1, a_0_2, a_0_3, a_0_4⟩ := id g_0
  obtain ⟨a_1_0, a_1_1, a_1_2, a_1_3, a_1_4⟩ := id g_1
  refine wp_cu1 (sf_X9_taken (Nat.le_refl 700) a_0_2 a_1_0) (fun r _ => ?_)
  exact trivial
set_option maxHeartbeats 4000000 in
set_option maxRecDepth 20000 in
theorem st9_count {x1 : Int32} {v_done : Int32} {v_rowsOf : Int32} {v_columnsOf : Int32} {v_tapeMany : Int32} {v_planned : Int32} {v_bodies : Int32} {v_ran : Int32} {v_keptMany : Int32} {v_limit : List Int32} {v_changeWas : List Int32} {v_changeIs : List Int32} {v_isKept : Bool} {v_imageRows : Int32} {v_imageColumns : Int32} {v_shapeRows : List Int32} {v_shapeColumns : List Int32} {v_row : List Int32} {v_column : List Int32} {v_below : List Int32} {v_face : List Int32} {v_worn : List Int32} {v_lastBend : List Int32} {v_textMany : Int32} {v_tape : List Int32} {v_text : List Int32} {v_names : List Int32} {v_bends : List Int32} {v_high : List Int32} {v_to : List Int32} {v_pileSize : List Int32} {v_planLine : List Int32} {v_planWay : List Int32} {v_bodyKind : List Int32} {v_trace : List Int32} (g_0 : gm_ch v_keptMany v_done v_limit v_changeWas v_changeIs) (g_1 : gm_sh v_rowsOf v_columnsOf v_isKept v_imageRows v_imageColumns v_shapeRows v_shapeColumns v_row v_column v_below v_face v_worn v_lastBend) (g_2 : gm_tx v_tapeMany v_textMany v_tape v_text v_names v_bends v_high v_to v_pileSize) (g_3 : gm_pl v_planned v_planLine v_planWay) (g_4 : gm_bo v_bodies v_bodyKind v_trace) : wp (fX9_count 700 x1 v_done v_rowsOf v_columnsOf v_tapeMany v_planned v_bodies v_ran) (fun (r : Int32) => True) := by
  obtain ⟨a_0_0, a_0_1, a_0_2, a_0_3, a_0_4, a_0_5, a_0_6, a_0_7⟩ := id g_0
  obtain ⟨a_1_0, a_1_1, a_1_2, a_1_3, a_1_4, a_1_5, a_1_6, a_1_7, a_1_8, a_1_9, a_1_10, a_1_11, a_1_12, a_1_13⟩ := id g_1
  obtain ⟨a_2_0, a_2_1, a_2_2, a_2_3, a_2_4, a_2_5, a_2_6, a_2_7, a_2_8, a_2_9, a_2_10⟩ := id g_2
  obtain ⟨a_3_0, a_3_1, a_3_2, a_3_3⟩ := id g_3
  obtain ⟨a_4_0, a_4_1, a_4_2, a_4_3, a_4_4⟩ := id g_4
  refine wp_cu1 (sf_X9_count (Nat.le_refl 700) a_0_2 a_0_3 a_1_0 a_1_1 a_1_2 a_1_3 a_2_0 a_2_1 a_3_0 a_3_1 a_4_0 a_4_1) (fun r _ => ?_)
  exact trivial
end
section
/-! The fresh objects -/
theorem fnd_0 : fnd (mm_zs 8) := fun i j h1 h2 e => by
  have f : ∀ c : Int32, j.toInt = c.toInt → j = c := fun c e => Int32.toInt_inj.mp e
  have g : ∀ c : Int32, i.toInt = c.toInt → i = c := fun c e => Int32.toInt_inj.mp e
  have n2 : (2 : Int32).toInt = 2 := by decide
  have n3 : (3 : Int32).toInt = 3 := by decide
  have n4 : (4 : Int32).toInt = 4 := by decide
  have n5 : (5 : Int32).toInt = 5 := by decide
  have n6 : (6 : Int32).toInt = 6 := by decide
  have n7 : (7 : Int32).toInt = 7 := by decide
  have n8 : (8 : Int32).toInt = 8 := by decide
  rcases (show i.toInt = 2 ∨ i.toInt = 3 ∨ i.toInt = 4 ∨ i.toInt = 5 ∨ i.toInt = 6 ∨ i.toInt = 7 by omega) with k | k | k | k | k | k
  · rw [f 3 (by omega), g 2 (by omega)]; decide +kernel
  · rw [f 4 (by omega), g 3 (by omega)]; decide +kernel
  · rw [f 5 (by omega), g 4 (by omega)]; decide +kernel
  · rw [f 6 (by omega), g 5 (by omega)]; decide +kernel
  · rw [f 7 (by omega), g 6 (by omega)]; decide +kernel
  · rw [f 8 (by omega), g 7 (by omega)]; decide +kernel
theorem nw_sh : gi_sh 2 4 2 4 z5_rowOf z5_colOf (mm_zs 32) (mm_zs 32) (mm_zs 64) (mm_zs 64) (mm_zs 64) (mm_zs 32) := ⟨(by decide), (by decide), (by decide), (by decide), (by decide), (by decide), (by decide), (by decide), (by decide +kernel), (by decide +kernel), (by decide +kernel), (by decide +kernel), (by decide +kernel), (by decide +kernel), (by decide +kernel), (by decide +kernel), (zn_len (by decide +kernel) _), (zn_len (by decide +kernel) _)⟩
theorem nw_ch : gi_ch 0 0 (mm_zs 40) (mm_zs 40) := ⟨(by decide), (by decide), (by decide), (by decide), (by decide +kernel), (by decide +kernel)⟩
theorem nw_la : gi_la 0 0 0 (mm_zs 120) (mm_zs 121) (mm_zs 121) (mm_zs 121) := ⟨(by decide), (by decide), (by decide), (by decide), (by decide), (by decide), (by decide +kernel), (by decide +kernel), (by decide +kernel), (by decide +kernel)⟩
theorem nw_pl : gi_pl 0 (mm_zs 12) (mm_zs 12) := ⟨(by decide), (by decide), (by decide +kernel), (by decide +kernel)⟩
theorem nw_sf : gi_sf 0 (mm_zl 60) := ⟨(by decide), (by decide), (by decide +kernel)⟩
theorem nw_se : gi_se 0 (mm_zs 3) (mm_zs 3) := ⟨(by decide), (by decide), (by decide +kernel), (by decide +kernel)⟩
theorem nw_st : gi_st (mm_zs 7) (mm_zs 680) (mm_zs 8) := ⟨(by decide +kernel), (by decide +kernel), (by decide +kernel), fnd_0⟩
theorem nw_fo : gi_fo 0 (mm_zs 50) (mm_zs 24) := ⟨(by decide), (by decide), (by decide +kernel), (by decide +kernel), (zn_len (by decide +kernel) _)⟩
theorem nw_gm_ch : gm_ch 0 0 z9_limit (mm_zs 40) (mm_zs 40) := ⟨(by decide), (by decide), (by decide), (by decide), (by decide +kernel), (by decide +kernel), (by decide +kernel), (by decide)⟩
theorem nw_gm_sh : gm_sh 2 4 false 0 0 z9_shapeRows z9_shapeColumns z9_row z9_column (mm_zs 192) (mm_zs 192) (mm_zs 384) (mm_zs 384) := ⟨(by decide), (by decide), (by decide), (by decide), (by decide +kernel), (by decide +kernel), (by decide +kernel), (by decide +kernel), (by decide +kernel), (by decide +kernel), (by decide +kernel), (by decide +kernel), ⟨by decide +kernel, by decide +kernel, by decide +kernel, by decide +kernel, zn_len (by decide +kernel) _, zn_len (by decide +kernel) _⟩, (fun h => absurd rfl h)⟩
theorem nw_gm_tx : gm_tx 0 (-1) (mm_zs 120) (mm_zs 120) (mm_zs 6) (mm_zs 64) (mm_zs 32) (mm_zs 32) (mm_zs 64) := ⟨(by decide), (by decide), (by decide), (by decide), (by decide +kernel), (by decide +kernel), (by decide +kernel), (by decide +kernel), (by decide +kernel), (by decide +kernel), (by decide +kernel)⟩
theorem nw_gm_pl : gm_pl 0 (mm_zs 12) (mm_zs 12) := ⟨(by decide), (by decide), (by decide +kernel), (by decide +kernel)⟩
theorem nw_gm_se : gm_se 0 (mm_zs 3) (mm_zs 3) := ⟨(by decide), (by decide), (by decide +kernel), (by decide +kernel)⟩
theorem nw_gm_or : gm_or (mm_zs 7) (mm_zs 7) := ⟨(by decide +kernel), (by decide +kernel)⟩
theorem nw_gm_bo : gm_bo 0 (mm_zs 50) (mm_zs 24) := ⟨(by decide), (by decide), (by decide +kernel), (by decide +kernel), (zn_len (by decide +kernel) _)⟩
theorem nw_gm_sf : gm_sf z9_shelf (mm_zs 6) (mm_zl 360) (mm_zl 60) := ⟨(by decide +kernel), (by decide +kernel), (by decide +kernel), (by decide +kernel), (zn_len (by decide +kernel) _)⟩
end
section
/-! limit, undo, redo: class and reference alike -/
theorem wp_get {α : Type} {o : Option α} {Q : α → Prop} {a : α} (h : wp o Q) (e : o = some a) : Q a := by
  obtain ⟨r, e1, q⟩ := h
  rw [e1] at e
  injection e with e
  rw [← e]
  exact q
theorem ck_t {α : Type} {c : Bool} {x : Option α} (h : c = true) : mm_ck c x = x := by
  unfold mm_ck
  rw [if_pos h]
theorem nm_eq {α β : Type} (x : α) (k : α → Option β) : mm_nm x k = k x := rfl
theorem bs_1 {α β : Type} (a : α) (k : α → Option β) : mm_bd1 (some a) k = k a := rfl
theorem bs_2 {α0 α1 β : Type} (a0 : α0) (a1 : α1) (k : α0 → α1 → Option β) : mm_bd2 (some (a0, a1)) k = k a0 a1 := rfl
theorem bs_3 {α0 α1 α2 β : Type} (a0 : α0) (a1 : α1) (a2 : α2) (k : α0 → α1 → α2 → Option β) : mm_bd3 (some (a0, a1, a2)) k = k a0 a1 a2 := rfl
def shf (l : List Int32) (k : Nat) : List Int32 := l.take (k - 1) ++ (l.drop k ++ l.drop 39)
theorem shf_step (l : List Int32) (j : Nat) (h : j + 1 < 40) (hl : l.length = 40) : shf (l.set j (l.getD (j + 1) 0)) (j + 2) = shf l (j + 1) := by
  unfold shf
  have h1 : (l.set j (l.getD (j + 1) 0)).take (j + 2 - 1) = l.take j ++ [l.getD (j + 1) 0] := by
    rw [show j + 2 - 1 = j + 1 by omega, List.take_add_one, List.take_set_of_le (Nat.le_refl j), List.getElem?_set_self (by omega)]
    rfl
  have h2 : l.drop (j + 1) = l.getD (j + 1) 0 :: l.drop (j + 2) := by
    rw [List.drop_eq_getElem_cons (by omega), List.getD_eq_getElem?_getD, List.getElem?_eq_getElem (by omega)]
    rfl
  rw [h1, h2, List.drop_set_of_lt (by omega), List.drop_set_of_lt (by omega), show j + 1 - 1 = j by omega, List.append_assoc]
  rfl
theorem shf_end (l : List Int32) (hl : l.length = 40) : shf l 40 = l := by
  unfold shf
  rw [List.drop_of_length_le (by omega), List.nil_append, show 40 - 1 = 39 by omega, List.take_append_drop]
theorem shf_cp (l : List Int32) (hl : l.length = 40) : mm_cp l l (1 : Int32) (0 : Int32) (39 : Int32) = shf l 1 := by
  unfold mm_cp shf
  rw [show (1 : Int32).toNatClampNeg = 1 by decide, show (0 : Int32).toNatClampNeg = 0 by decide, show (39 : Int32).toNatClampNeg = 39 by decide, List.take_of_length_le (l := l.drop 1) (by rw [List.length_drop]; omega)]
theorem shf_len (l : List Int32) (hl : l.length = 40) : (shf l 1).length = 40 := by
  unfold shf
  rw [List.length_append, List.length_append, List.length_take, List.length_drop, List.length_drop]
  omega
theorem li_39 (x1 x2 k d : Int32) (lim : List Int32) : ∀ (i n j : Nat) (x3 : Int32) (was is : List Int32), i + j = 39 → i < n → x3.toInt = j + 1 → was.length = 40 → is.length = 40 → fX9_limit_39 700 n x1 x2 x3 k d lim was is = fX9_limit_89 700 x1 x2 k (d - (1 : Int32)) lim (shf was (j + 1)) (shf is (j + 1)) := by
  have n40 : (40 : Int32).toInt = 40 := by decide
  have n1 : (1 : Int32).toInt = 1 := by decide
  intro i
  induction i with
  | zero =>
    intro n j x3 was is e hn hx h1 h2
    obtain ⟨n, rfl⟩ : ∃ m, n = m + 1 := ⟨n - 1, by omega⟩
    obtain rfl : j = 39 := by omega
    rw [shf_end _ h1, shf_end _ h2]
    show (if (40 : Int32) ≤ x3 then _ else _) = _
    rw [if_pos (by rw [Int32.le_iff_toInt_le]; omega)]
    rfl
  | succ i ih =>
    intro n j x3 was is e hn hx h1 h2
    obtain ⟨n, rfl⟩ : ∃ m, n = m + 1 := ⟨n - 1, by omega⟩
    have ea : (x3 - (1 : Int32)).toInt = j := by rw [i_subE rfl (by omega) (by omega)]; omega
    have eb : (x3 + (1 : Int32)).toInt = (j + 1 : Nat) + 1 := by rw [i_addE rfl (by omega) (by omega)]; omega
    have c3 : x3.toNatClampNeg = j + 1 := by show x3.toInt.toNat = _; omega
    have c2 : (x3 - (1 : Int32)).toNatClampNeg = j := by show (x3 - (1 : Int32)).toInt.toNat = _; omega
    have L := ih n (j + 1) (x3 + (1 : Int32)) (mm_is was (x3 - (1 : Int32)) (mm_ig was x3)) (mm_is is (x3 - (1 : Int32)) (mm_ig is x3)) (by omega) (by omega) eb (by rw [is_len]; exact h1) (by rw [is_len]; exact h2)
    have s1 : shf (mm_is was (x3 - (1 : Int32)) (mm_ig was x3)) (j + 1 + 1) = shf was (j + 1) := by
      unfold mm_is mm_ig
      rw [c2, c3]
      exact shf_step was j (by omega) h1
    have s2 : shf (mm_is is (x3 - (1 : Int32)) (mm_ig is x3)) (j + 1 + 1) = shf is (j + 1) := by
      unfold mm_is mm_ig
      rw [c2, c3]
      exact shf_step is j (by omega) h2
    rw [s1, s2] at L
    rw [← L]
    show (if (40 : Int32) ≤ x3 then _ else _) = _
    rw [if_neg (by rw [Int32.le_iff_toInt_le]; omega)]
    rw [ck_t (i_inb (by omega) (by omega)), nm_eq, ck_t (i_inb (by omega) (by omega)), nm_eq, ck_t (i_inb (by omega) (by omega)), nm_eq, ck_t (i_inb (by omega) (by omega)), nm_eq, nm_eq]
def rl_ch (v_value v_done v_size : Int32) (v_before v_after : List Int32) (m_keptMany m_done : Int32) (m_limit m_changeWas m_changeIs : List Int32) : Prop := m_keptMany = v_size ∧ m_done = v_done ∧ m_limit = [v_value] ∧ m_changeWas = v_before ∧ m_changeIs = v_after
theorem rl_same {v d s : Int32} {b a : List Int32} : rl_ch v d s b a s d [v] b a := ⟨rfl, rfl, rfl, rfl, rfl⟩
theorem li_89 (x v k d d' s : Int32) (b a : List Int32) (h0 : 0 ≤ d.toInt) (h1 : d.toInt < 40) (hb : b.length = 40) (ha : a.length = 40) : fX0_become_22 700 x v d s b a = some (x, d + (1 : Int32), d + (1 : Int32), mm_is b d v, mm_is a d x) ∧ fX9_limit_89 700 x v k d [v] b a = some (v, d + (1 : Int32), d + (1 : Int32), [x], mm_is b d v, mm_is a d x) := by
  unfold fX0_become_22 fX9_limit_89
  constructor
  · rw [ck_t (i_inb (by omega) (by omega)), nm_eq, ck_t (i_inb (by omega) (by omega)), nm_eq, nm_eq]
  · rw [ck_t (i_inb (by omega) (by omega)), nm_eq, ck_t (i_inb (by omega) (by omega)), nm_eq, nm_eq, ck_t (show mm_inb (0 : Int32) [v].length = true by rfl), nm_eq]
    rfl
theorem rc_limit {x v d s : Int32} {b a : List Int32} (g : gi_ch d s b a) : ∃ (r v' d' s' : Int32) (b' a' : List Int32), fX8_limit 700 x v d s b a = some (r, v', d', s', b', a') ∧ fX9_limit 700 x s d [v] b a = some (r, s', d', [v'], b', a') := by
  obtain ⟨a0, a1, a2, a3, a4, a5⟩ := g
  have n1 : (1 : Int32).toInt = 1 := by decide
  have n40 : (40 : Int32).toInt = 40 := by decide
  have n99 : (99 : Int32).toInt = 99 := by decide
  have m1 : (1 : Int64).toInt = 1 := by decide
  have m99 : (99 : Int64).toInt = 99 := by decide
  have mx := i_64 x
  unfold fX8_limit fX9_limit
  obtain ⟨w, ew, qw⟩ := sf_X9_within (Nat.le_refl 700) (x0 := x.toInt64) (x2 := 1) (x4 := 99)
  rw [ew]
  rcases qw with ⟨rfl, q0, q1⟩ | ⟨rfl, q0⟩
  · rw [if_neg (by rw [Int32.lt_iff_toInt_lt]; omega), if_pos (by rw [Int32.le_iff_toInt_le]; omega)]
    unfold fX0_become
    rw [bs_1, if_neg (show ¬ (true = false) by decide), ck_t (show mm_inb (0 : Int32) [v].length = true by rfl), nm_eq, show mm_ig [v] (0 : Int32) = v from rfl]
    by_cases e : x = v
    · rw [if_pos e, if_pos e.symm]
      exact ⟨_, _, _, _, _, _, rfl, rfl⟩
    · rw [if_neg e, if_neg (show ¬ v = x from fun h => e h.symm)]
      by_cases e4 : d = (40 : Int32)
      · rw [if_pos e4, if_pos e4]
        have hd : (d - (1 : Int32)).toInt = 39 := by rw [i_subE rfl (by rw [e4]; omega) (by rw [e4]; omega), e4]; omega
        obtain ⟨k1, k2⟩ := li_89 x v s (d - (1 : Int32)) d s (shf b 1) (shf a 1) (by omega) (by omega) (shf_len b a4) (shf_len a a5)
        rw [show fX0_forgetOldest 700 d b a = some (d - (1 : Int32), shf b 1, shf a 1) by
          unfold fX0_forgetOldest
          rw [a4, ck_t (by decide), nm_eq, a5, ck_t (by decide), nm_eq, nm_eq, shf_cp b a4, shf_cp a a5]]
        rw [li_39 x v s d [v] 39 700 0 1 b a (by omega) (by omega) (by omega) a4 a5]
        rw [bs_3, k1, k2]
        exact ⟨_, _, _, _, _, _, rfl, rfl⟩
      · rw [if_neg e4, if_neg e4]
        have hd : d.toInt < 40 := by
          have : d.toInt ≠ 40 := fun h => e4 (Int32.toInt_inj.mp (by omega))
          omega
        obtain ⟨k1, k2⟩ := li_89 x v s d d s b a a0 hd a4 a5
        rw [k1, k2]
        exact ⟨_, _, _, _, _, _, rfl, rfl⟩
  · refine ⟨(-1 : Int32), v, d, s, b, a, ?_, rfl⟩
    by_cases c : x < (1 : Int32)
    · rw [if_pos c]
    · rw [if_neg c, if_neg (by rw [Int32.lt_iff_toInt_lt] at c; rw [Int32.le_iff_toInt_le]; omega)]
theorem rc_undo {v d s : Int32} {b a : List Int32} (g : gi_ch d s b a) : ∃ (r v' d' : Int32), fX8_undo 700 v d b = some (r, v', d') ∧ fX9_undo 700 d [v] b = some (r, d', [v']) := by
  obtain ⟨a0, a1, a2, a3, a4, a5⟩ := g
  have n1 : (1 : Int32).toInt = 1 := by decide
  have n0 : (0 : Int32).toInt = 0 := by decide
  unfold fX8_undo fX9_undo fX0_stepBack
  by_cases e : d = 0
  · rw [if_pos e, if_pos e]
    exact ⟨_, _, _, rfl, rfl⟩
  · rw [if_neg e, if_neg e]
    have hd : 0 < d.toInt := by
      have : d.toInt ≠ 0 := fun h => e (Int32.toInt_inj.mp (by omega))
      omega
    have ed : (d - (1 : Int32)).toInt = d.toInt - 1 := by rw [i_subE rfl (by omega) (by omega)]; omega
    rw [if_neg (by rw [Int32.le_iff_toInt_le]; omega)]
    rw [nm_eq, nm_eq, ck_t (i_inb (by omega) (by omega)), bs_2, nm_eq, ck_t (i_inb (by omega) (by omega)), nm_eq, ck_t (show mm_inb (0 : Int32) [v].length = true by rfl), nm_eq]
    exact ⟨_, _, _, rfl, rfl⟩
theorem rc_redo {v d s : Int32} {b a : List Int32} (g : gi_ch d s b a) (h : d.toInt ≤ s.toInt) : ∃ (r v' d' : Int32), fX8_redo 700 v d s a = some (r, v', d') ∧ fX9_redo 700 s d [v] a = some (r, d', [v']) := by
  obtain ⟨a0, a1, a2, a3, a4, a5⟩ := g
  have n1 : (1 : Int32).toInt = 1 := by decide
  unfold fX8_redo fX9_redo fX0_stepOn
  by_cases e : d = s
  · rw [if_pos e, if_pos e]
    exact ⟨_, _, _, rfl, rfl⟩
  · rw [if_neg e, if_neg e]
    have hd : d.toInt < s.toInt := by
      have : d.toInt ≠ s.toInt := fun h => e (Int32.toInt_inj.mp h)
      omega
    rw [if_neg (by rw [Int32.le_iff_toInt_le]; omega)]
    rw [ck_t (i_inb (by omega) (by omega)), nm_eq, nm_eq, bs_2, ck_t (i_inb (by omega) (by omega)), nm_eq, ck_t (show mm_inb (0 : Int32) [v].length = true by rfl), nm_eq, nm_eq]
    exact ⟨_, _, _, rfl, rfl⟩
end
section
/-! limit, undo, redo: one step -/
theorem rs_limit {x1 v_changes_value v_changes_done v_changes_size : Int32} {v_changes_before v_changes_after : List Int32} {m_keptMany m_done : Int32} {m_limit m_changeWas m_changeIs : List Int32} (g8 : gi_ch v_changes_done v_changes_size v_changes_before v_changes_after) (g9 : gm_ch m_keptMany m_done m_limit m_changeWas m_changeIs) (hr : rl_ch v_changes_value v_changes_done v_changes_size v_changes_before v_changes_after m_keptMany m_done m_limit m_changeWas m_changeIs) : ∃ (r p_value p_done p_size : Int32) (p_before p_after : List Int32) (q_keptMany q_done : Int32) (q_limit q_changeWas q_changeIs : List Int32), fX8_limit 700 x1 v_changes_value v_changes_done v_changes_size v_changes_before v_changes_after = some (r, p_value, p_done, p_size, p_before, p_after) ∧ fX9_limit 700 x1 m_keptMany m_done m_limit m_changeWas m_changeIs = some (r, q_keptMany, q_done, q_limit, q_changeWas, q_changeIs) ∧ gi_ch p_done p_size p_before p_after ∧ gm_ch q_keptMany q_done q_limit q_changeWas q_changeIs ∧ rl_ch p_value p_done p_size p_before p_after q_keptMany q_done q_limit q_changeWas q_changeIs := by
  obtain ⟨rfl, rfl, rfl, rfl, rfl⟩ := hr
  obtain ⟨r, v', d', s', b', a', e8, e9⟩ := rc_limit (x := x1) (v := v_changes_value) g8
  have q8 := wp_get (st8_limit (v_changes_value := v_changes_value) g8) e8
  have q9 := wp_get (st9_limit g9) e9
  exact ⟨_, _, _, _, _, _, _, _, _, _, _, e8, e9, q8, q9, rl_same⟩
theorem rs_undo {v_changes_value v_changes_done v_changes_size : Int32} {v_changes_before v_changes_after : List Int32} {m_keptMany m_done : Int32} {m_limit m_changeWas m_changeIs : List Int32} (g8 : gi_ch v_changes_done v_changes_size v_changes_before v_changes_after) (g9 : gm_ch m_keptMany m_done m_limit m_changeWas m_changeIs) (hr : rl_ch v_changes_value v_changes_done v_changes_size v_changes_before v_changes_after m_keptMany m_done m_limit m_changeWas m_changeIs) : ∃ (r p_value p_done q_done : Int32) (q_limit : List Int32), fX8_undo 700 v_changes_value v_changes_done v_changes_before = some (r, p_value, p_done) ∧ fX9_undo 700 m_done m_limit m_changeWas = some (r, q_done, q_limit) ∧ gi_ch p_done v_changes_size v_changes_before v_changes_after ∧ gm_ch m_keptMany q_done q_limit m_changeWas m_changeIs ∧ rl_ch p_value p_done v_changes_size v_changes_before v_changes_after m_keptMany q_done q_limit m_changeWas m_changeIs := by
  obtain ⟨rfl, rfl, rfl, rfl, rfl⟩ := hr
  obtain ⟨r, v', d', e8, e9⟩ := rc_undo (v := v_changes_value) g8
  have q8 := wp_get (st8_undo (v_changes_value := v_changes_value) g8) e8
  have q9 := wp_get (st9_undo g9) e9
  exact ⟨_, _, _, _, _, e8, e9, q8, q9, rl_same⟩
theorem rs_redo {v_changes_value v_changes_done v_changes_size : Int32} {v_changes_before v_changes_after : List Int32} {m_keptMany m_done : Int32} {m_limit m_changeWas m_changeIs : List Int32} (g8 : gi_ch v_changes_done v_changes_size v_changes_before v_changes_after) (g9 : gm_ch m_keptMany m_done m_limit m_changeWas m_changeIs) (hr : rl_ch v_changes_value v_changes_done v_changes_size v_changes_before v_changes_after m_keptMany m_done m_limit m_changeWas m_changeIs) : ∃ (r p_value p_done q_done : Int32) (q_limit : List Int32), fX8_redo 700 v_changes_value v_changes_done v_changes_size v_changes_after = some (r, p_value, p_done) ∧ fX9_redo 700 m_keptMany m_done m_limit m_changeIs = some (r, q_done, q_limit) ∧ gi_ch p_done v_changes_size v_changes_before v_changes_after ∧ gm_ch m_keptMany q_done q_limit m_changeWas m_changeIs ∧ rl_ch p_value p_done v_changes_size v_changes_before v_changes_after m_keptMany q_done q_limit m_changeWas m_changeIs := by
  obtain ⟨rfl, rfl, rfl, rfl, rfl⟩ := hr
  obtain ⟨c0, c1, c2, c3, c4, c5, c6, c7⟩ := id g9
  obtain ⟨r, v', d', e8, e9⟩ := rc_redo (v := v_changes_value) g8 (by assumption)
  have q8 := wp_get (st8_redo (v_changes_value := v_changes_value) g8) e8
  have q9 := wp_get (st9_redo g9) e9
  exact ⟨_, _, _, _, _, e8, e9, q8, q9, rl_same⟩
theorem nw_ch9 : rl_ch 20 0 0 (mm_zs 40) (mm_zs 40) 0 0 z9_limit (mm_zs 40) (mm_zs 40) := ⟨rfl, rfl, by decide +kernel, rfl, rfl⟩
end
section
/-! Strips: an order laid -/
theorem bq_4 {α0 α1 α2 α3 β : Type} (a0 : α0) (a1 : α1) (a2 : α2) (a3 : α3) (k : α0 → α1 → α2 → α3 → Option β) : mm_bd4 (some (a0, a1, a2, a3)) k = k a0 a1 a2 a3 := rfl
theorem wn_s (a l h : Int64) : fX9_within 700 a l h = some (decide (l.toInt ≤ a.toInt ∧ a.toInt ≤ h.toInt)) := by
  obtain ⟨w, ew, qw⟩ := sf_X9_within (Nat.le_refl 700) (x0 := a) (x2 := l) (x4 := h)
  rw [ew]
  rcases qw with ⟨rfl, q0, q1⟩ | ⟨rfl, q0⟩
  · rw [decide_eq_true ⟨q0, q1⟩]
  · rw [decide_eq_false (by omega)]
theorem rem_np {x : Int32} (h : x.toInt ≤ 0) : (mm_rem x (10 : Int32)).toInt ≤ 0 ∧ -10 < (mm_rem x (10 : Int32)).toInt := by
  have n10 : (10 : Int32).toInt = 10 := by decide
  have l0 := Int32.le_toInt x
  have d : (x / (10 : Int32)).toInt = -((-x.toInt) / 10) := by
    rw [Int32.toInt_div_of_ne_right x (10 : Int32) (by decide), n10, ← Int.tdiv_eq_ediv_of_nonneg (by omega), ← Int.neg_tdiv, Int.neg_neg]
  show (x - x / (10 : Int32) * (10 : Int32)).toInt ≤ 0 ∧ -10 < (x - x / (10 : Int32) * (10 : Int32)).toInt
  generalize x / (10 : Int32) = q at d ⊢
  generalize hm : q * (10 : Int32) = m
  have em := i_mulRE n10 hm (by omega) (by omega)
  generalize hs : x - m = s
  have es := i_subE hs (by omega) (by omega)
  omega
def tb_x (u f : Int32) : Prop := ((u >>> (f &&& 31)) &&& (1 : Int32)) = (1 : Int32)
theorem tb_fin : ∀ (u : Fin 128) (f g : Fin 7), ((((Int32.ofNat u.val ||| ((1 : Int32) <<< (Int32.ofNat f.val &&& 31))) >>> (Int32.ofNat g.val &&& 31)) &&& (1 : Int32)) = (1 : Int32) ↔ (f.val = g.val ∨ ((Int32.ofNat u.val >>> (Int32.ofNat g.val &&& 31)) &&& (1 : Int32)) = (1 : Int32))) ∧ 0 ≤ (Int32.ofNat u.val ||| ((1 : Int32) <<< (Int32.ofNat f.val &&& 31))).toInt ∧ (Int32.ofNat u.val ||| ((1 : Int32) <<< (Int32.ofNat f.val &&& 31))).toInt < 128 := by decide +kernel
theorem tb_00 : ∀ g : Fin 7, ¬ (((0 : Int32) >>> (Int32.ofNat g.val &&& 31)) &&& (1 : Int32)) = (1 : Int32) := by decide +kernel
theorem on_e {u : Int32} (h0 : 0 ≤ u.toInt) (h1 : u.toInt < 128) : Int32.ofNat u.toInt.toNat = u := by
  apply Int32.toInt_inj.mp
  rw [Int32.toInt_ofNat_of_lt (by omega)]
  omega
theorem tb_set {u f g : Int32} (u0 : 0 ≤ u.toInt) (u1 : u.toInt < 128) (f0 : 0 ≤ f.toInt) (f1 : f.toInt < 7) (g0 : 0 ≤ g.toInt) (g1 : g.toInt < 7) : (tb_x (u ||| ((1 : Int32) <<< (f &&& 31))) g ↔ (f.toInt = g.toInt ∨ tb_x u g)) ∧ 0 ≤ (u ||| ((1 : Int32) <<< (f &&& 31))).toInt ∧ (u ||| ((1 : Int32) <<< (f &&& 31))).toInt < 128 := by
  have q : ((((Int32.ofNat u.toInt.toNat ||| ((1 : Int32) <<< (Int32.ofNat f.toInt.toNat &&& 31))) >>> (Int32.ofNat g.toInt.toNat &&& 31)) &&& (1 : Int32)) = (1 : Int32) ↔ (f.toInt.toNat = g.toInt.toNat ∨ ((Int32.ofNat u.toInt.toNat >>> (Int32.ofNat g.toInt.toNat &&& 31)) &&& (1 : Int32)) = (1 : Int32))) ∧ 0 ≤ (Int32.ofNat u.toInt.toNat ||| ((1 : Int32) <<< (Int32.ofNat f.toInt.toNat &&& 31))).toInt ∧ (Int32.ofNat u.toInt.toNat ||| ((1 : Int32) <<< (Int32.ofNat f.toInt.toNat &&& 31))).toInt < 128 := tb_fin ⟨u.toInt.toNat, by omega⟩ ⟨f.toInt.toNat, by omega⟩ ⟨g.toInt.toNat, by omega⟩
  rw [on_e u0 u1, on_e f0 (by omega), on_e g0 (by omega)] at q
  refine ⟨⟨fun h => ?_, fun h => ?_⟩, q.2⟩
  · rcases q.1.mp h with h | h
    · exact Or.inl (by omega)
    · exact Or.inr h
  · refine q.1.mpr ?_
    rcases h with h | h
    · exact Or.inl (by omega)
    · exact Or.inr h
theorem tb_0 {k : Nat} (h : k < 7) : ¬ tb_x 0 (Int32.ofNat k) := tb_00 ⟨k, h⟩
theorem gd_is (l : List Int32) (i v : Int32) (k : Nat) (hk : k < l.length) : (mm_is l i v).getD k 0 = if i.toInt.toNat = k then v else l.getD k 0 := by
  unfold mm_is
  rw [List.getD_eq_getElem?_getD, List.getD_eq_getElem?_getD, List.getElem?_set]
  by_cases e : i.toInt.toNat = k
  · rw [if_pos e, if_pos (show i.toNatClampNeg = k from e), if_pos (show i.toNatClampNeg < l.length from (show i.toInt.toNat < l.length by omega))]
    rfl
  · rw [if_neg e, if_neg (show ¬ i.toNatClampNeg = k from e)]
/-- how many of the first are laid -/
def cn_x (l : List Int32) : Nat → Nat
  | 0 => 0
  | m + 1 => cn_x l m + (if 0 ≤ (l.getD m 0).toInt then 1 else 0)
theorem cn_s (l : List Int32) (m : Nat) : cn_x l (m + 1) = cn_x l m + (if 0 ≤ (l.getD m 0).toInt then 1 else 0) := rfl
theorem cn_le (l : List Int32) : ∀ m : Nat, cn_x l m ≤ m := by
  intro m
  induction m with
  | zero => exact Nat.le_refl 0
  | succ m ih =>
    rw [cn_s]
    by_cases c : 0 ≤ (l.getD m 0).toInt
    · rw [if_pos c]; omega
    · rw [if_neg c]; omega
theorem cn_full (l : List Int32) : ∀ m : Nat, cn_x l m = m → ∀ k : Nat, k < m → 0 ≤ (l.getD k 0).toInt := by
  intro m
  induction m with
  | zero => intro _ k hk; exact absurd hk (by omega)
  | succ m ih =>
    intro h k hk
    have le := cn_le l m
    rw [cn_s] at h
    by_cases c : 0 ≤ (l.getD m 0).toInt
    · rw [if_pos c] at h
      by_cases e : k = m
      · rw [e]; exact c
      · exact ih (by omega) k (by omega)
    · rw [if_neg c] at h
      omega
theorem cn_none (l : List Int32) : ∀ m : Nat, (∀ k : Nat, k < m → (l.getD k 0).toInt < 0) → cn_x l m = 0 := by
  intro m
  induction m with
  | zero => intro _; rfl
  | succ m ih =>
    intro h
    have hm := h m (by omega)
    rw [cn_s, if_neg (by omega), ih (fun k hk => h k (by omega))]
theorem cn_set {l : List Int32} {i v : Int32} (h0 : (l.getD i.toInt.toNat 0).toInt < 0) (hv : 0 ≤ v.toInt) : ∀ m : Nat, m ≤ l.length → cn_x (mm_is l i v) m = cn_x l m + (if i.toInt.toNat < m then 1 else 0) := by
  intro m
  induction m with
  | zero => intro _; rfl
  | succ m ih =>
    intro hm
    rw [cn_s, cn_s, ih (by omega), gd_is l i v m (by omega)]
    by_cases e : i.toInt.toNat = m
    · rw [if_pos e, if_pos hv, if_neg (show ¬ i.toInt.toNat < m by omega), if_pos (show i.toInt.toNat < m + 1 by omega), if_neg (show ¬ 0 ≤ (l.getD m 0).toInt by rw [← e]; omega)]
    · rw [if_neg e]
      by_cases f : i.toInt.toNat < m
      · rw [if_pos f, if_pos (show i.toInt.toNat < m + 1 by omega)]
        omega
      · rw [if_neg f, if_neg (show ¬ i.toInt.toNat < m + 1 by omega)]
        omega
theorem sg_fill1 : ∀ (n : Nat) (x3 : Int32) (row : List Int32), row.length = 7 → 0 ≤ x3.toInt → x3.toInt ≤ 7 → (7 - x3.toInt).toNat < n → (∀ k : Nat, (k : Int) < x3.toInt → row.getD k 0 = -1) → wp (fJ7_fill_53178_5 700 n (-1 : Int32) x3 (7 : Int32) row) (fun w => w.length = 7 ∧ ∀ k : Nat, k < 7 → w.getD k 0 = -1) := by
  have n7 : (7 : Int32).toInt = 7 := by decide
  have n1 : (1 : Int32).toInt = 1 := by decide
  intro n
  induction n with
  | zero =>
    intro x3 row h0 h1 h2 hm
    exact absurd hm (by omega)
  | succ n ih =>
    intro x3 row h0 h1 h2 hm hz
    refine wp_of (uf_J7_fill_53178_5 _ _ _ _ _ _) ?_
    refine wp_if (fun c => ?_) (fun c => ?_)
    · have d := i_le c
      exact wp_so1 ⟨h0, fun k hk => hz k (by omega)⟩
    · have d := i_nle c
      refine wp_ck (i_inb (by omega) (by omega)) ?_
      refine wp_nm (fun l hl => ?_)
      refine wp_nm (fun y hy => ?_)
      have ey := i_addE hy.symm (by omega) (by omega)
      refine ih y l (by rw [hl, is_len]; exact h0) (by omega) (by omega) (by omega) (fun k hk => ?_)
      rw [hl, gd_is row x3 (-1) k (by omega)]
      by_cases e : x3.toInt.toNat = k
      · rw [if_pos e]
      · rw [if_neg e]
        exact hz k (by omega)
theorem fl_m {row : List Int32} (h : row.length = 7) : wp (fJ7_fill_53178 700 (-1 : Int32) row) (fun w => w.length = 7 ∧ ∀ k : Nat, k < 7 → w.getD k 0 = -1) := by
  have n0 : (0 : Int32).toInt = 0 := by decide
  unfold fJ7_fill_53178
  rw [nm_eq, h]
  exact sg_fill1 700 (0 : Int32) row h (by decide) (by decide) (by decide) (fun k hk => absurd hk (by omega))
def li_x (x1 place u : Int32) (s pl : List Int32) : Prop :=
  (∀ k : Nat, (k : Int) < x1.toInt → (tb_x u (Int32.ofNat k) ∧ pl.getD k 0 = s.getD k 0 ∧ place.toInt < (s.getD k 0).toInt ∧ (s.getD k 0).toInt < x1.toInt) ∨ (¬ tb_x u (Int32.ofNat k) ∧ (s.getD k 0).toInt < 0)) ∧
  (∀ k j : Nat, (k : Int) < x1.toInt → (j : Int) < x1.toInt → ¬ k = j → 0 ≤ (s.getD k 0).toInt → ¬ (s.getD k 0).toInt = (s.getD j 0).toInt) ∧
  ((cn_x s x1.toInt.toNat : Nat) : Int) + place.toInt + 1 = x1.toInt
def ok_x (x1 : Int32) (s pl : List Int32) : Prop :=
  (∀ k : Nat, (k : Int) < x1.toInt → pl.getD k 0 = s.getD k 0) ∧ (∀ k j : Nat, (k : Int) < x1.toInt → (j : Int) < x1.toInt → ¬ k = j → ¬ (s.getD k 0).toInt = (s.getD j 0).toInt)
theorem ly_loop {x1 : Int32} (a0 : 2 ≤ x1.toInt) (a1 : x1.toInt ≤ 7) : ∀ (n : Nat) (u rest place : Int32) (s o pl : List Int32), s.length = 7 → o.length = 7 → pl.length = 7 → 0 ≤ u.toInt → u.toInt < 128 → -1 ≤ place.toInt → place.toInt < x1.toInt → (place.toInt + 1).toNat < n → li_x x1 place u s pl → ∃ (t : Bool) (w o' p' : List Int32), fX7_lay_15 700 n x1 rest place s = some (t, w) ∧ fX9_isOrder_10 700 n x1 u rest place o pl = some (t, o', p') ∧ w.length = 7 ∧ p'.length = 7 ∧ (t = true → ok_x x1 w p') := by
  have tf : ¬ (true = false) := by decide
  have n0 : (0 : Int32).toInt = 0 := by decide
  have n1 : (1 : Int32).toInt = 1 := by decide
  have nm1 : (-1 : Int32).toInt = -1 := by decide
  have n10 : (10 : Int32).toInt = 10 := by decide
  have m0 : (0 : Int64).toInt = 0 := by decide
  have hz : mm_nz (10 : Int32) = true := by decide
  intro n
  induction n with
  | zero =>
    intro u rest place s o pl h0 h1 h2 h3 h4 h5 h6 hm
    exact absurd hm (by omega)
  | succ n ih =>
    intro u rest place s o pl h0 h1 h2 h3 h4 h5 h6 hm H
    have E8 := uf_X7_lay_15 700 n x1 rest place s
    have E9 := uf_X9_isOrder_10 700 n x1 u rest place o pl
    by_cases c : place < 0
    · have d := i_lt c
      rw [if_pos c] at E8 E9
      by_cases z : rest = 0
      · rw [if_pos z] at E8 E9
        obtain ⟨I1, I2, I3⟩ := H
        have full := cn_full s x1.toInt.toNat (by omega)
        refine ⟨true, _, _, _, E8, E9, h0, h2, fun _ => ⟨fun k hk => ?_, fun k j hk hj ne => I2 k j hk hj ne (full k (by omega))⟩⟩
        have f := full k (by omega)
        rcases I1 k hk with ⟨-, e, -⟩ | ⟨-, e⟩
        · exact e
        · exact absurd f (by omega)
      · rw [if_neg z] at E8 E9
        exact ⟨false, _, _, _, E8, E9, h0, h2, fun h => absurd h (by decide)⟩
    · have d := i_nlt c
      rw [if_neg c, ck_t hz, nm_eq] at E8 E9
      by_cases r0 : rest ≤ 0
      · have d0 := i_le r0
        have rn := rem_np (x := rest) (by omega)
        rw [if_pos r0] at E9
        generalize hy : mm_rem rest (10 : Int32) - (1 : Int32) = y at E8
        generalize mm_rem rest (10 : Int32) = q at rn hy
        have ey := i_subE hy (by omega) (by omega)
        rw [if_pos (show y < 0 by rw [Int32.lt_iff_toInt_lt]; omega)] at E8
        exact ⟨false, _, _, _, E8, E9, h0, h2, fun h => absurd h (by decide)⟩
      · have d0 := i_nle r0
        have er := i_remE n10 (by omega) (rfl : mm_rem rest (10 : Int32) = _) (by omega)
        have ed := i_divE n10 (by omega) (rfl : rest / (10 : Int32) = _) (by omega)
        rw [if_neg r0, wn_s, bs_1] at E9
        generalize hy : mm_rem rest (10 : Int32) - (1 : Int32) = y at E8 E9
        generalize mm_rem rest (10 : Int32) = q at er hy
        have ey := i_subE hy (by omega) (by omega)
        have e64 := i_64 y
        generalize hx : x1 - (1 : Int32) = x1' at E9
        have ex := i_subE hx (by omega) (by omega)
        have ex64 := i_64 x1'
        rw [e64, ex64, m0] at E9
        by_cases y0 : y < 0
        · have dy0 := i_lt y0
          rw [if_pos y0] at E8
          rw [decide_eq_false (by omega), if_pos (rfl : false = false)] at E9
          exact ⟨false, _, _, _, E8, E9, h0, h2, fun h => absurd h (by decide)⟩
        · have dy0 := i_nlt y0
          rw [if_neg y0] at E8
          by_cases y1 : x1 ≤ y
          · have dy1 := i_le y1
            rw [if_pos y1] at E8
            rw [decide_eq_false (by omega), if_pos (rfl : false = false)] at E9
            exact ⟨false, _, _, _, E8, E9, h0, h2, fun h => absurd h (by decide)⟩
          · have dy1 := i_nle y1
            rw [if_neg y1, ck_t (i_inb (by omega) (by omega))] at E8
            rw [decide_eq_true (by omega), if_neg tf] at E9
            obtain ⟨I1, I2, I3⟩ := id H
            have oy := on_e (u := y) (by omega) (by omega)
            rcases I1 y.toInt.toNat (by omega) with ⟨t1, e, b1, b2⟩ | ⟨t1, e⟩
            · rw [oy] at t1
              rw [if_pos (show ((u >>> (y &&& 31)) &&& (1 : Int32)) = (1 : Int32) from t1)] at E9
              rw [if_neg (show ¬ mm_ig s y < 0 by rw [Int32.lt_iff_toInt_lt]; exact (show ¬ (s.getD y.toInt.toNat 0).toInt < (0 : Int32).toInt by omega))] at E8
              exact ⟨false, _, _, _, E8, E9, h0, h2, fun h => absurd h (by decide)⟩
            · rw [oy] at t1
              rw [if_neg (show ¬ ((u >>> (y &&& 31)) &&& (1 : Int32)) = (1 : Int32) from t1), nm_eq, ck_t (i_inb (by omega) (by omega)), nm_eq, ck_t (i_inb (by omega) (by omega)), nm_eq, ck_t hz, nm_eq, nm_eq] at E9
              rw [if_pos (show mm_ig s y < 0 by rw [Int32.lt_iff_toInt_lt]; exact (show (s.getD y.toInt.toNat 0).toInt < (0 : Int32).toInt by omega)), ck_t (i_inb (by omega) (by omega)), nm_eq, ck_t hz, nm_eq, nm_eq] at E8
              rw [E8, E9]
              generalize hp : place + (-1 : Int32) = p'
              have ep := i_addE hp (by omega) (by omega)
              have T := fun (g : Int32) (g0 : 0 ≤ g.toInt) (g1 : g.toInt < 7) => tb_set (u := u) (f := y) (g := g) h3 h4 (by omega) (by omega) g0 g1
              have Ty := T y (by omega) (by omega)
              refine ih _ _ p' _ _ _ (by rw [is_len]; exact h0) (by rw [is_len]; exact h1) (by rw [is_len]; exact h2) Ty.2.1 Ty.2.2 (by omega) (by omega) (by omega) ⟨fun k hk => ?_, fun k j hk hj ne hk0 => ?_, ?_⟩
              · have ek : (Int32.ofNat k).toInt = (k : Int) := Int32.toInt_ofNat_of_lt (by omega)
                have Tk := (T (Int32.ofNat k) (by omega) (by omega)).1
                rw [gd_is s y place k (by omega), gd_is pl y place k (by omega)]
                by_cases f : y.toInt.toNat = k
                · rw [if_pos f, if_pos f]
                  exact Or.inl ⟨Tk.mpr (Or.inl (by omega)), rfl, by omega, by omega⟩
                · rw [if_neg f, if_neg f]
                  rcases I1 k hk with ⟨s1, s2, s3, s4⟩ | ⟨s1, s2⟩
                  · exact Or.inl ⟨Tk.mpr (Or.inr s1), s2, by omega, s4⟩
                  · refine Or.inr ⟨fun h => ?_, s2⟩
                    rcases Tk.mp h with h | h
                    · omega
                    · exact s1 h
              · rw [gd_is s y place k (by omega)] at hk0 ⊢
                rw [gd_is s y place j (by omega)]
                by_cases f : y.toInt.toNat = k
                · rw [if_pos f, if_neg (show ¬ y.toInt.toNat = j by omega)]
                  rcases I1 j hj with ⟨-, -, s3, -⟩ | ⟨-, s2⟩
                  · omega
                  · omega
                · rw [if_neg f] at hk0 ⊢
                  by_cases g : y.toInt.toNat = j
                  · rw [if_pos g]
                    rcases I1 k hk with ⟨-, -, s3, -⟩ | ⟨-, s2⟩
                    · omega
                    · omega
                  · rw [if_neg g]
                    exact I2 k j hk hj ne hk0
              · rw [cn_set e (by omega) x1.toInt.toNat (by omega), if_pos (by omega)]
                omega
theorem ly_e {x1 x2 : Int32} {s o pl : List Int32} (a0 : 2 ≤ x1.toInt) (a1 : x1.toInt ≤ 7) (h0 : s.length = 7) (h1 : o.length = 7) (h2 : pl.length = 7) : ∃ (t : Bool) (w o' p' : List Int32), fX7_lay 700 x1 x2 s = some (t, w) ∧ fX9_isOrder 700 x1 x2 o pl = some (t, o', p') ∧ w.length = 7 ∧ p'.length = 7 ∧ (t = true → ok_x x1 w p') := by
  have n1 : (1 : Int32).toInt = 1 := by decide
  have nm1 : (-1 : Int32).toInt = -1 := by decide
  unfold fX7_lay fX9_isOrder
  obtain ⟨w, ew, qw⟩ := fl_m h0
  rw [ew, bs_1, nm_eq, nm_eq]
  generalize hx : x1 - (1 : Int32) = p
  have ex := i_subE hx (by omega) (by omega)
  refine ly_loop a0 a1 700 (0 : Int32) x2 p w o pl qw.1 h1 h2 (by decide) (by decide) (by omega) (by omega) (by omega) ⟨fun k hk => Or.inr ⟨tb_0 (by omega), ?_⟩, fun k j hk hj ne hk0 => ?_, ?_⟩
  · rw [qw.2 k (by omega)]
    decide
  · rw [qw.2 k (by omega), nm1] at hk0
    exact absurd hk0 (by omega)
  · rw [cn_none w x1.toInt.toNat (fun k hk => by rw [qw.2 k (by omega)]; decide)]
    omega
end
section
/-! crosses, bends -/
theorem mb_i {P Q : Prop} [Decidable P] [Decidable Q] : mm_b (decide P) = mm_b (decide Q) ↔ (P ↔ Q) := by
  by_cases p : P
  · by_cases q : Q
    · rw [decide_eq_true p, decide_eq_true q]
      exact ⟨fun _ => ⟨fun _ => q, fun _ => p⟩, fun _ => rfl⟩
    · rw [decide_eq_true p, decide_eq_false q]
      exact ⟨fun h => absurd h (by decide), fun h => absurd (h.mp p) q⟩
  · by_cases q : Q
    · rw [decide_eq_false p, decide_eq_true q]
      exact ⟨fun h => absurd h (by decide), fun h => absurd (h.mpr q) p⟩
    · rw [decide_eq_false p, decide_eq_false q]
      exact ⟨fun _ => ⟨fun h => absurd h p, fun h => absurd h q⟩, fun _ => rfl⟩
theorem iw_e {s : List Int32} {i i' c : Int32} (hi : i + (1 : Int32) = i') (hs : s.length = 7) (h0 : 0 ≤ i.toInt) (h1 : i.toInt + 1 < 7) : fX7_isWithin 700 i c s = some (decide (((mm_ig s i).toInt < c.toInt ∧ c.toInt < (mm_ig s i').toInt) ∨ ((mm_ig s i').toInt < c.toInt ∧ c.toInt < (mm_ig s i).toInt))) := by
  have n1 : (1 : Int32).toInt = 1 := by decide
  have ei := i_addE hi (by omega) (by omega)
  unfold fX7_isWithin
  rw [hi, ck_t (i_inb (i := i) (by omega) (by omega)), ck_t (i_inb (i := i') (by omega) (by omega)), nm_eq, ck_t (i_inb (i := i) (by omega) (by omega)), ck_t (i_inb (i := i') (by omega) (by omega)), nm_eq]
  generalize mm_ig s i = a
  generalize mm_ig s i' = b
  have e1 := i_min a b
  have e2 := i_max a b
  generalize mm_min a b = lo at e1 ⊢
  generalize mm_max a b = hg at e2 ⊢
  by_cases c1 : c ≤ lo
  · have d := i_le c1
    rw [if_pos c1, decide_eq_false (by omega)]
  · have d := i_nle c1
    rw [if_neg c1]
    by_cases c2 : hg ≤ c
    · have d2 := i_le c2
      rw [if_pos c2, decide_eq_false (by omega)]
    · have d2 := i_nle c2
      rw [if_neg c2, decide_eq_true (by omega)]
theorem ii_e {s : List Int32} {i i' c : Int32} (hi : i + (1 : Int32) = i') (hs : s.length = 7) (h0 : 0 ≤ i.toInt) (h1 : i.toInt + 1 < 7) : fX9_isInside 700 c i s = some (decide (((mm_ig s i).toInt < c.toInt ∧ c.toInt < (mm_ig s i').toInt) ∨ ((mm_ig s i').toInt < c.toInt ∧ c.toInt < (mm_ig s i).toInt))) := by
  have n1 : (1 : Int32).toInt = 1 := by decide
  have ei := i_addE hi (by omega) (by omega)
  unfold fX9_isInside
  rw [hi, ck_t (i_inb (i := i) (by omega) (by omega)), nm_eq, ck_t (i_inb (i := i') (by omega) (by omega)), nm_eq]
  generalize mm_ig s i = a
  generalize mm_ig s i' = b
  by_cases c0 : b ≤ a
  · have d0 := i_le c0
    rw [if_pos c0]
    by_cases c1 : c ≤ b
    · have d := i_le c1
      rw [if_pos c1, decide_eq_false (by omega)]
    · have d := i_nle c1
      rw [if_neg c1]
      by_cases c2 : a ≤ c
      · have d2 := i_le c2
        rw [if_pos c2, decide_eq_false (by omega)]
      · have d2 := i_nle c2
        rw [if_neg c2, decide_eq_true (by omega)]
  · have d0 := i_nle c0
    rw [if_neg c0]
    by_cases c1 : c ≤ a
    · have d := i_le c1
      rw [if_pos c1, decide_eq_false (by omega)]
    · have d := i_nle c1
      rw [if_neg c1]
      by_cases c2 : b ≤ c
      · have d2 := i_le c2
        rw [if_pos c2, decide_eq_false (by omega)]
      · have d2 := i_nle c2
        rw [if_neg c2, decide_eq_true (by omega)]
theorem ok_g {x1 i : Int32} {s pl : List Int32} (H : ok_x x1 s pl) (h0 : 0 ≤ i.toInt) (h1 : i.toInt < x1.toInt) : mm_ig pl i = mm_ig s i := H.1 i.toInt.toNat (by omega)
theorem ok_d {x1 i j : Int32} {s pl : List Int32} (H : ok_x x1 s pl) (h0 : 0 ≤ i.toInt) (h1 : i.toInt < x1.toInt) (g0 : 0 ≤ j.toInt) (g1 : j.toInt < x1.toInt) (ne : ¬ i.toInt = j.toInt) : ¬ (mm_ig s i).toInt = (mm_ig s j).toInt := H.2 i.toInt.toNat j.toInt.toNat (by omega) (by omega) (by omega)
theorem cr_e {x1 i j : Int32} {s pl : List Int32} (hs : s.length = 7) (hp : pl.length = 7) (a1 : x1.toInt ≤ 7) (H : ok_x x1 s pl) (h0 : 0 ≤ i.toInt) (h1 : i.toInt + 2 ≤ j.toInt) (h2 : j.toInt + 1 < x1.toInt) : ∃ b : Bool, fX7_crossing 700 i j s = some b ∧ fX9_areCrossed 700 i j pl = some b := by
  have n1 : (1 : Int32).toInt = 1 := by decide
  unfold fX7_crossing fX9_areCrossed
  generalize hi : i + (1 : Int32) = i'
  have ei := i_addE hi (by omega) (by omega)
  generalize hj : j + (1 : Int32) = j'
  have ej := i_addE hj (by omega) (by omega)
  have P := fun c => iw_e (s := s) (i := i) (i' := i') (c := c) hi hs (by omega) (by omega)
  have Q := fun c => ii_e (s := pl) (i := i) (i' := i') (c := c) hi hp (by omega) (by omega)
  have R := fun c => ii_e (s := pl) (i := j) (i' := j') (c := c) hj hp (by omega) (by omega)
  have q1 := ok_g (i := i) H (by omega) (by omega)
  have q2 := ok_g (i := i') H (by omega) (by omega)
  have q3 := ok_g (i := j) H (by omega) (by omega)
  have q4 := ok_g (i := j') H (by omega) (by omega)
  have r1 := ok_d (i := i) (j := i') H (by omega) (by omega) (by omega) (by omega) (by omega)
  have r2 := ok_d (i := i) (j := j) H (by omega) (by omega) (by omega) (by omega) (by omega)
  have r3 := ok_d (i := i) (j := j') H (by omega) (by omega) (by omega) (by omega) (by omega)
  have r4 := ok_d (i := i') (j := j) H (by omega) (by omega) (by omega) (by omega) (by omega)
  have r5 := ok_d (i := i') (j := j') H (by omega) (by omega) (by omega) (by omega) (by omega)
  have r6 := ok_d (i := j) (j := j') H (by omega) (by omega) (by omega) (by omega) (by omega)
  simp only [P, Q, R, bs_1, q1, q2, q3, q4, ck_t (i_inb (i := j) (n := s.length) (by omega) (by omega)), ck_t (i_inb (i := j') (n := s.length) (by omega) (by omega)), ck_t (i_inb (i := j) (n := pl.length) (by omega) (by omega)), ck_t (i_inb (i := j') (n := pl.length) (by omega) (by omega)), ck_t (i_inb (i := i) (n := pl.length) (by omega) (by omega)), ck_t (i_inb (i := i') (n := pl.length) (by omega) (by omega))]
  clear P Q R q1 q2 q3 q4
  generalize mm_ig s i = a at *
  generalize mm_ig s i' = b at *
  generalize mm_ig s j = c at *
  generalize mm_ig s j' = d at *
  by_cases e : mm_b (decide ((a.toInt < c.toInt ∧ c.toInt < b.toInt) ∨ (b.toInt < c.toInt ∧ c.toInt < a.toInt))) = mm_b (decide ((a.toInt < d.toInt ∧ d.toInt < b.toInt) ∨ (b.toInt < d.toInt ∧ d.toInt < a.toInt)))
  · rw [if_pos e, if_pos e]
    exact ⟨_, rfl, rfl⟩
  · rw [if_neg e, if_neg e, if_neg (fun h => e (mb_i.mpr (by have k := mb_i.mp h; omega)))]
    exact ⟨_, rfl, rfl⟩
def rr_x (r8 r9 : Int32) : Prop := (r8 = (-1 : Int32) ∧ r9 = (-2 : Int32)) ∨ (r8 = r9 ∧ 0 ≤ r8.toInt)
theorem fc_13 {x1 i i' : Int32} {s pl : List Int32} {k8 k9 : Int32 → Int32 → List Int32 → Option Int32} (hs : s.length = 7) (hp : pl.length = 7) (a0 : 2 ≤ x1.toInt) (a1 : x1.toInt ≤ 7) (H : ok_x x1 s pl) (h0 : 0 ≤ i.toInt) (h1 : i.toInt + 1 < x1.toInt) (hi : i + (1 : Int32) = i') (K : ∃ r8 r9 : Int32, k8 x1 i' s = some r8 ∧ k9 x1 i' pl = some r9 ∧ rr_x r8 r9) : ∀ (n : Nat) (j : Int32), i.toInt + 2 ≤ j.toInt → j.toInt ≤ x1.toInt + 1 → (x1.toInt + 1 - j.toInt).toNat < n → ∃ r8 r9 : Int32, fX7_firstCross_13 700 k8 n x1 i j s = some r8 ∧ fX9_firstCross_13 700 k9 n x1 i j pl = some r9 ∧ rr_x r8 r9 := by
  have tf : ¬ (true = false) := by decide
  have n1 : (1 : Int32).toInt = 1 := by decide
  have n2 : (2 : Int32).toInt = 2 := by decide
  have n10 : (10 : Int32).toInt = 10 := by decide
  intro n
  induction n with
  | zero =>
    intro j g0 g1 hm
    exact absurd hm (by omega)
  | succ n ih =>
    intro j g0 g1 hm
    have E8 := uf_X7_firstCross_13 700 k8 n x1 i j s
    have E9 := uf_X9_firstCross_13 700 k9 n x1 i j pl
    rw [hi] at E8 E9
    generalize hz : x1 - (1 : Int32) = z at E8
    have ez := i_subE hz (by omega) (by omega)
    generalize hj : j + (1 : Int32) = j' at E9
    have ej := i_addE hj (by omega) (by omega)
    by_cases c : z ≤ j
    · have d := i_le c
      rw [if_pos c, nm_eq] at E8
      rw [if_pos (show x1 ≤ j' by rw [Int32.le_iff_toInt_le]; omega), nm_eq] at E9
      rw [E8, E9]
      exact K
    · have d := i_nle c
      obtain ⟨b, e8, e9⟩ := cr_e (i := i) (j := j) hs hp a1 H h0 g0 (by omega)
      rw [if_neg c, e8, bs_1] at E8
      rw [if_neg (show ¬ x1 ≤ j' by rw [Int32.le_iff_toInt_le]; omega), e9, bs_1] at E9
      cases b
      · rw [if_pos (rfl : false = false), nm_eq] at E8 E9
        generalize hj2 : j + (2 : Int32) = j2 at E8 E9
        have ej2 := i_addE hj2 (by omega) (by omega)
        rw [E8, E9]
        exact ih j2 (by omega) (by omega) (by omega)
      · rw [if_neg tf] at E8 E9
        generalize hm' : (10 : Int32) * i = m at E8 E9
        have em := i_mulLE n10 hm' (by omega) (by omega)
        generalize hr : m + j = r at E8 E9
        have er := i_addE hr (by omega) (by omega)
        exact ⟨_, _, E8, E9, Or.inr ⟨rfl, by omega⟩⟩
theorem fc_2 {x1 : Int32} {s pl : List Int32} (hs : s.length = 7) (hp : pl.length = 7) (a0 : 2 ≤ x1.toInt) (a1 : x1.toInt ≤ 7) (H : ok_x x1 s pl) : ∀ (n : Nat) (i : Int32), 0 ≤ i.toInt → i.toInt ≤ x1.toInt → (x1.toInt - i.toInt).toNat < n → ∃ r8 r9 : Int32, fX7_firstCross_2 700 n x1 i s = some r8 ∧ fX9_firstCross_2 700 n x1 i pl = some r9 ∧ rr_x r8 r9 := by
  have n1 : (1 : Int32).toInt = 1 := by decide
  have n2 : (2 : Int32).toInt = 2 := by decide
  intro n
  induction n with
  | zero =>
    intro i g0 g1 hm
    exact absurd hm (by omega)
  | succ n ih =>
    intro i g0 g1 hm
    have E8 := uf_X7_firstCross_2 700 n x1 i s
    have E9 := uf_X9_firstCross_2 700 n x1 i pl
    generalize hz : x1 - (1 : Int32) = z at E8
    have ez := i_subE hz (by omega) (by omega)
    generalize hi : i + (1 : Int32) = i' at E9
    have ei := i_addE hi (by omega) (by omega)
    by_cases c : z ≤ i
    · have d := i_le c
      rw [if_pos c] at E8
      rw [if_pos (show x1 ≤ i' by rw [Int32.le_iff_toInt_le]; omega)] at E9
      exact ⟨_, _, E8, E9, Or.inl ⟨rfl, rfl⟩⟩
    · have d := i_nle c
      rw [if_neg c, nm_eq] at E8
      rw [if_neg (show ¬ x1 ≤ i' by rw [Int32.le_iff_toInt_le]; omega), nm_eq] at E9
      generalize hj : i + (2 : Int32) = j at E8 E9
      have ej := i_addE hj (by omega) (by omega)
      rw [E8, E9]
      exact fc_13 hs hp a0 a1 H g0 (by omega) hi (ih i' (by omega) (by omega) (by omega)) 700 j (by omega) (by omega) (by omega)
theorem bt_4 {x1 : Int32} {s pl : List Int32} (hs : s.length = 7) (hp : pl.length = 7) (a0 : 2 ≤ x1.toInt) (a1 : x1.toInt ≤ 7) (H : ok_x x1 s pl) : ∀ (n : Nat) (u i : Int32), 0 ≤ i.toInt → i.toInt ≤ x1.toInt → (x1.toInt - i.toInt).toNat < n → ∃ r : Int32, fX7_bits_4 700 n x1 u i s = some r ∧ fX9_bendsOf_4 700 n x1 u i pl = some r := by
  have n1 : (1 : Int32).toInt = 1 := by decide
  have hz2 : mm_nz (2 : Int32) = true := by decide
  have f01 : ¬ (0 : Int32) = 1 := by decide
  have f10 : ¬ (1 : Int32) = 0 := by decide
  intro n
  induction n with
  | zero =>
    intro u i g0 g1 hm
    exact absurd hm (by omega)
  | succ n ih =>
    intro u i g0 g1 hm
    have E8 := uf_X7_bits_4 700 n x1 u i s
    have E9 := uf_X9_bendsOf_4 700 n x1 u i pl
    generalize hz : x1 - (1 : Int32) = z at E8
    have ez := i_subE hz (by omega) (by omega)
    generalize hi : i + (1 : Int32) = i' at E9
    have ei := i_addE hi (by omega) (by omega)
    by_cases c : z ≤ i
    · have d := i_le c
      rw [if_pos c] at E8
      rw [if_pos (show x1 ≤ i' by rw [Int32.le_iff_toInt_le]; omega)] at E9
      exact ⟨_, E8, E9⟩
    · have d := i_nle c
      have q1 := ok_g (i := i) H (by omega) (by omega)
      have q2 := ok_g (i := i') H (by omega) (by omega)
      rw [if_neg c, ck_t hz2] at E8
      rw [if_neg (show ¬ x1 ≤ i' by rw [Int32.le_iff_toInt_le]; omega), ck_t (i_inb (i := i) (by omega) (by omega)), ck_t (i_inb (i := i') (by omega) (by omega)), q1, q2] at E9
      rw [E8, E9]
      unfold fX7_bits_22 fX7_bits_46 fX7_bits_57 fX9_bendsOf_33 fX9_bendsOf_49 fX9_bendsOf_59
      rw [hi]
      simp only [ck_t hz2, ck_t (i_inb (i := i) (n := s.length) (by omega) (by omega)), ck_t (i_inb (i := i') (n := s.length) (by omega) (by omega)), nm_eq]
      have K := fun u' => ih u' i' (by omega) (by omega) (by omega)
      by_cases p : mm_rem i (2 : Int32) = 0
      · by_cases q : mm_ig s i' ≤ mm_ig s i
        · simp only [if_pos p, if_pos q, if_neg f01, Int32.or_zero]
          exact K _
        · simp only [if_pos p, if_neg q, if_true]
          exact K _
      · by_cases q : mm_ig s i' ≤ mm_ig s i
        · simp only [if_neg p, if_pos q, if_true]
          exact K _
        · simp only [if_neg p, if_neg q, if_neg f10, Int32.or_zero]
          exact K _
theorem ss8_e (x : Int32) : fX8_isStrip 700 x = some (decide (2 ≤ x.toInt ∧ x.toInt ≤ 7)) := by
  have n2 : (2 : Int32).toInt = 2 := by decide
  have n7 : (7 : Int32).toInt = 7 := by decide
  unfold fX8_isStrip
  by_cases c : x < (2 : Int32)
  · have d := i_lt c
    rw [if_pos c, decide_eq_false (by omega)]
  · have d := i_nlt c
    rw [if_neg c]
    by_cases e : (7 : Int32) < x
    · have d2 := i_lt e
      rw [if_pos e, decide_eq_false (by omega)]
    · have d2 := i_nlt e
      rw [if_neg e, decide_eq_true (by omega)]
theorem ss9_e (x : Int32) : fX9_isStrip 700 x = some (decide (2 ≤ x.toInt ∧ x.toInt ≤ 7)) := by
  have m2 : (2 : Int64).toInt = 2 := by decide
  have m7 : (7 : Int64).toInt = 7 := by decide
  unfold fX9_isStrip
  rw [wn_s, bs_1, i_64, m2, m7]
theorem rs_crosses {x1 : Int32} {x2 : Int32} {v_strip_at : List Int32} {v_strip_list : List Int32} {v_strip_found : List Int32} {m_order1 : List Int32} {m_placeIn : List Int32} (g8_0 : gi_st v_strip_at v_strip_list v_strip_found) (g9_0 : gm_or m_order1 m_placeIn) : ∃ (r : Int32) (p_strip_at : List Int32) (q_order1 : List Int32) (q_placeIn : List Int32), fX8_crosses 700 x1 x2 v_strip_at = some (r, p_strip_at) ∧ fX9_crosses 700 x1 x2 m_order1 m_placeIn = some (r, q_order1, q_placeIn) ∧ gi_st p_strip_at v_strip_list v_strip_found ∧ gm_or q_order1 q_placeIn := by
  obtain ⟨a0, -, -, -⟩ := id g8_0
  obtain ⟨b0, b1⟩ := id g9_0
  have tf : ¬ (true = false) := by decide
  have n0 : (0 : Int32).toInt = 0 := by decide
  have X : ∃ (r : Int32) (w o' p' : List Int32), fX8_crosses 700 x1 x2 v_strip_at = some (r, w) ∧ fX9_crosses 700 x1 x2 m_order1 m_placeIn = some (r, o', p') := by
    unfold fX8_crosses fX9_crosses
    rw [ss8_e, ss9_e, bs_1, bs_1]
    by_cases hx : 2 ≤ x1.toInt ∧ x1.toInt ≤ 7
    · rw [decide_eq_true hx, if_neg tf, if_neg tf]
      obtain ⟨t, w, o', p', f8, f9, hw, hp, K⟩ := ly_e (x2 := x2) hx.1 hx.2 a0 b0 b1
      rw [f8, f9, bs_2, bs_3]
      cases t
      · rw [if_pos (rfl : false = false), if_pos (rfl : false = false)]
        exact ⟨_, _, _, _, rfl, rfl⟩
      · rw [if_neg tf, if_neg tf]
        obtain ⟨r8, r9, c8, c9, R⟩ := fc_2 hw hp hx.1 hx.2 (K rfl) 700 (0 : Int32) (by decide) (by omega) (by omega)
        unfold fX7_firstCross fX9_firstCross
        rw [c8, c9, bs_1, bs_1]
        rcases R with ⟨u1, u2⟩ | ⟨u1, u2⟩
        · rw [if_neg (show ¬ 0 ≤ r8 by rw [u1]; decide), u2]
          exact ⟨_, _, _, _, rfl, rfl⟩
        · rw [if_pos (show 0 ≤ r8 by rw [Int32.le_iff_toInt_le, n0]; exact u2), u1]
          exact ⟨_, _, _, _, rfl, rfl⟩
    · rw [decide_eq_false hx, if_pos (rfl : false = false), if_pos (rfl : false = false)]
      exact ⟨_, _, _, _, rfl, rfl⟩
  obtain ⟨r, w, o', p', e8, e9⟩ := X
  have k8 := wp_get (st8_crosses g8_0) e8
  have k9 := wp_get (st9_crosses g9_0) e9
  exact ⟨_, _, _, _, e8, e9, k8, k9⟩
theorem rs_bends {x1 : Int32} {x2 : Int32} {v_strip_at : List Int32} {v_strip_list : List Int32} {v_strip_found : List Int32} {m_order1 : List Int32} {m_placeIn : List Int32} (g8_0 : gi_st v_strip_at v_strip_list v_strip_found) (g9_0 : gm_or m_order1 m_placeIn) : ∃ (r : Int32) (p_strip_at : List Int32) (q_order1 : List Int32) (q_placeIn : List Int32), fX8_bends 700 x1 x2 v_strip_at = some (r, p_strip_at) ∧ fX9_bends 700 x1 x2 m_order1 m_placeIn = some (r, q_order1, q_placeIn) ∧ gi_st p_strip_at v_strip_list v_strip_found ∧ gm_or q_order1 q_placeIn := by
  obtain ⟨a0, -, -, -⟩ := id g8_0
  obtain ⟨b0, b1⟩ := id g9_0
  have tf : ¬ (true = false) := by decide
  have n0 : (0 : Int32).toInt = 0 := by decide
  have X : ∃ (r : Int32) (w o' p' : List Int32), fX8_bends 700 x1 x2 v_strip_at = some (r, w) ∧ fX9_bends 700 x1 x2 m_order1 m_placeIn = some (r, o', p') := by
    unfold fX8_bends fX9_bends
    rw [ss8_e, ss9_e, bs_1, bs_1]
    by_cases hx : 2 ≤ x1.toInt ∧ x1.toInt ≤ 7
    · rw [decide_eq_true hx, if_neg tf, if_neg tf]
      obtain ⟨t, w, o', p', f8, f9, hw, hp, K⟩ := ly_e (x2 := x2) hx.1 hx.2 a0 b0 b1
      rw [f8, f9, bs_2, bs_3]
      cases t
      · rw [if_pos (rfl : false = false), if_pos (rfl : false = false)]
        exact ⟨_, _, _, _, rfl, rfl⟩
      · rw [if_neg tf, if_neg tf]
        obtain ⟨r8, r9, c8, c9, R⟩ := fc_2 hw hp hx.1 hx.2 (K rfl) 700 (0 : Int32) (by decide) (by omega) (by omega)
        unfold fX7_firstCross fX9_firstCross
        rw [c8, c9, bs_1, bs_1]
        rcases R with ⟨u1, u2⟩ | ⟨u1, u2⟩
        · obtain ⟨b, t8, t9⟩ := bt_4 hw hp hx.1 hx.2 (K rfl) 700 (0 : Int32) (0 : Int32) (by decide) (by omega) (by omega)
          unfold fX7_bits fX9_bendsOf
          rw [if_pos (show r8 < 0 by rw [u1]; decide), if_pos (show r9 < 0 by rw [u2]; decide), t8, t9, bs_1, bs_1]
          exact ⟨_, _, _, _, rfl, rfl⟩
        · rw [← u1, if_neg (show ¬ r8 < 0 by rw [Int32.lt_iff_toInt_lt, n0]; omega), if_neg (show ¬ r8 < 0 by rw [Int32.lt_iff_toInt_lt, n0]; omega)]
          exact ⟨_, _, _, _, rfl, rfl⟩
    · rw [decide_eq_false hx, if_pos (rfl : false = false), if_pos (rfl : false = false)]
      exact ⟨_, _, _, _, rfl, rfl⟩
  obtain ⟨r, w, o', p', e8, e9⟩ := X
  have k8 := wp_get (st8_bends g8_0) e8
  have k9 := wp_get (st9_bends g9_0) e9
  exact ⟨_, _, _, _, e8, e9, k8, k9⟩
end
section
/-! Orders of a strip: the class's search and the reference's, over closed rows -/
def gs_15 (go : Int32 → Int32 → Int32 → List Int32 → List Int32 → Option (List Int32)) : Nat → Int32 → Int32 → Int32 → Int32 → List Int32 → List Int32 → Option (List Int32)
  | 0 => fun _ _ _ _ _ _ => none
  | n + 1 => fun x1 x2 x3 x4 acc s =>
    if x1 ≤ x4 then
    (some acc)
    else (if (mm_ig s x4) < 0 then
    (mm_bd1 (fX7_crossesLaid 700 x1 (x4 - (1 : Int32)) (mm_is s x4 x2)) (fun (r : Bool) =>
    if r = false then
    (mm_bd1 (fX7_crossesLaid 700 x1 x4 (mm_is s x4 x2)) (fun (r' : Bool) =>
    if r' = false then
    (mm_bd1 (go x1 (x2 + (1 : Int32)) ((((10 : Int32) * x3) + x4) + (1 : Int32)) acc (mm_is s x4 x2)) (fun (acc' : List Int32) =>
    gs_15 go n x1 x2 x3 (x4 + (1 : Int32)) acc' s))
    else (gs_15 go n x1 x2 x3 (x4 + (1 : Int32)) acc s)))
    else (gs_15 go n x1 x2 x3 (x4 + (1 : Int32)) acc s)))
    else (gs_15 go n x1 x2 x3 (x4 + (1 : Int32)) acc s))
def gs_x : Nat → Int32 → Int32 → Int32 → List Int32 → List Int32 → Option (List Int32)
  | 0 => fun _ _ _ _ _ => none
  | M + 1 => fun x1 x2 x3 acc s =>
    if x2 = x1 then
    (some (x3 :: acc))
    else (gs_15 (gs_x M) 700 x1 x2 x3 (0 : Int32) acc s)
def rs_16 (go : Int32 → Int32 → Int32 → Int32 → List (Int32 × Int32 × Int32) → List Int32 → List Int32 → Option (List (Int32 × Int32 × Int32))) : Nat → Int32 → Int32 → Int32 → Int32 → Int32 → List (Int32 × Int32 × Int32) → List Int32 → List Int32 → Option (List (Int32 × Int32 × Int32))
  | 0 => fun _ _ _ _ _ _ _ _ => none
  | n + 1 => fun x1 x2 x3 x4 x5 acc o p =>
    if x1 ≤ x5 then
    (some acc)
    else (if ((x3 >>> (x5 &&& 31)) &&& (1 : Int32)) = 0 then
    (mm_bd1 (go x1 (x2 + (1 : Int32)) (x3 ||| ((1 : Int32) <<< (x5 &&& 31))) ((((10 : Int32) * x4) + x5) + (1 : Int32)) acc (mm_is o x2 x5) (mm_is p x5 x2)) (fun (acc' : List (Int32 × Int32 × Int32)) =>
    rs_16 go n x1 x2 x3 x4 (x5 + (1 : Int32)) acc' o p))
    else (rs_16 go n x1 x2 x3 x4 (x5 + (1 : Int32)) acc o p))
def rs_x : Nat → Int32 → Int32 → Int32 → Int32 → List (Int32 × Int32 × Int32) → List Int32 → List Int32 → Option (List (Int32 × Int32 × Int32))
  | 0 => fun _ _ _ _ _ _ _ => none
  | M + 1 => fun x1 x2 x3 x4 acc o p =>
    if x2 = x1 then
    (if x3 = ((1 : Int32) <<< (x1 &&& 31)) - (1 : Int32) then
    (mm_bd1 (fX9_firstCross 700 x1 p) (fun (r : Int32) =>
    if r < 0 then
    (mm_bd1 (fX9_bendsOf 700 x1 p) (fun (b : Int32) =>
    some ((x4, b, mm_ig o (x1 - (1 : Int32))) :: acc)))
    else (some acc)))
    else (none))
    else (rs_16 (rs_x M) 700 x1 x2 x3 x4 (0 : Int32) acc o p)
def ms_7 : List Int32 := [-1, -1, -1, -1, -1, -1, -1]
/-- an order, its bends, its topmost field: as the class tells them of the order -/
def cb_x (n : Int32) (t : Int32 × Int32 × Int32) : Bool := (match fX7_lay 700 n t.1 ms_7 with
  | some (true, w) => decide (fX7_bits 700 n w = some t.2.1)
  | _ => false) && (decide (mm_rem t.1 (10 : Int32) = t.2.2 + (1 : Int32)) && (decide (0 ≤ t.2.2.toInt) && (decide (t.2.2.toInt < 7) && decide (0 ≤ t.1.toInt))))
def ck_n (n : Int32) (c : Nat) : Bool := match gs_x 9 n 0 0 [] ms_7, rs_x 9 n 0 0 0 [] (mm_zs 7) (mm_zs 7) with
  | some a, some b => decide (a = b.map (fun t => t.1)) && (decide (a.length = c) && b.all (cb_x n))
  | _, _ => false
theorem ck_2 : ck_n 2 2 = true := by decide +kernel
theorem ck_3 : ck_n 3 6 = true := by decide +kernel
theorem ck_4 : ck_n 4 16 = true := by decide +kernel
theorem ck_5 : ck_n 5 50 = true := by decide +kernel
end
section
/-! six fields -/
theorem ck_6 : ck_n 6 144 = true := by decide +kernel
end
section
/-! seven fields: what is found already is only put in front -/
theorem uz_16 (go : Int32 → Int32 → Int32 → Int32 → List (Int32 × Int32 × Int32) → List Int32 → List Int32 → Option (List (Int32 × Int32 × Int32))) (n : Nat) (x1 x2 x3 x4 x5 : Int32) (acc : List (Int32 × Int32 × Int32)) (o p : List Int32) : rs_16 go (n + 1) x1 x2 x3 x4 x5 acc o p =
    if x1 ≤ x5 then
    (some acc)
    else (if ((x3 >>> (x5 &&& 31)) &&& (1 : Int32)) = 0 then
    (mm_bd1 (go x1 (x2 + (1 : Int32)) (x3 ||| ((1 : Int32) <<< (x5 &&& 31))) ((((10 : Int32) * x4) + x5) + (1 : Int32)) acc (mm_is o x2 x5) (mm_is p x5 x2)) (fun (acc' : List (Int32 × Int32 × Int32)) =>
    rs_16 go n x1 x2 x3 x4 (x5 + (1 : Int32)) acc' o p))
    else (rs_16 go n x1 x2 x3 x4 (x5 + (1 : Int32)) acc o p)) := rfl
theorem uz_x (M : Nat) (x1 x2 x3 x4 : Int32) (acc : List (Int32 × Int32 × Int32)) (o p : List Int32) : rs_x (M + 1) x1 x2 x3 x4 acc o p =
    if x2 = x1 then
    (if x3 = ((1 : Int32) <<< (x1 &&& 31)) - (1 : Int32) then
    (mm_bd1 (fX9_firstCross 700 x1 p) (fun (r : Int32) =>
    if r < 0 then
    (mm_bd1 (fX9_bendsOf 700 x1 p) (fun (b : Int32) =>
    some ((x4, b, mm_ig o (x1 - (1 : Int32))) :: acc)))
    else (some acc)))
    else (none))
    else (rs_16 (rs_x M) 700 x1 x2 x3 x4 (0 : Int32) acc o p) := rfl
theorem ra_16 {go : Int32 → Int32 → Int32 → Int32 → List (Int32 × Int32 × Int32) → List Int32 → List Int32 → Option (List (Int32 × Int32 × Int32))} (hg : ∀ (x1 x2 x3 x4 : Int32) (acc : List (Int32 × Int32 × Int32)) (o p : List Int32), go x1 x2 x3 x4 acc o p = (go x1 x2 x3 x4 [] o p).map (fun l => l ++ acc)) : ∀ (n : Nat) (x1 x2 x3 x4 x5 : Int32) (acc : List (Int32 × Int32 × Int32)) (o p : List Int32), rs_16 go n x1 x2 x3 x4 x5 acc o p = (rs_16 go n x1 x2 x3 x4 x5 [] o p).map (fun l => l ++ acc) := by
  intro n
  induction n with
  | zero =>
    intro x1 x2 x3 x4 x5 acc o p
    rfl
  | succ n ih =>
    intro x1 x2 x3 x4 x5 acc o p
    rw [uz_16, uz_16]
    by_cases c : x1 ≤ x5
    · rw [if_pos c, if_pos c]
      rfl
    · rw [if_neg c, if_neg c]
      by_cases e : ((x3 >>> (x5 &&& 31)) &&& (1 : Int32)) = 0
      · rw [if_pos e, if_pos e, hg _ _ _ _ acc]
        cases go x1 (x2 + (1 : Int32)) (x3 ||| ((1 : Int32) <<< (x5 &&& 31))) ((((10 : Int32) * x4) + x5) + (1 : Int32)) [] (mm_is o x2 x5) (mm_is p x5 x2) with
        | none => rfl
        | some l =>
          show rs_16 go n x1 x2 x3 x4 (x5 + (1 : Int32)) (l ++ acc) o p = (rs_16 go n x1 x2 x3 x4 (x5 + (1 : Int32)) l o p).map (fun l => l ++ acc)
          rw [ih _ _ _ _ _ (l ++ acc), ih _ _ _ _ _ l]
          cases rs_16 go n x1 x2 x3 x4 (x5 + (1 : Int32)) [] o p with
          | none => rfl
          | some q =>
            show some (q ++ (l ++ acc)) = some ((q ++ l) ++ acc)
            rw [List.append_assoc]
      · rw [if_neg e, if_neg e]
        exact ih _ _ _ _ _ acc _ _
theorem ra_x : ∀ (M : Nat) (x1 x2 x3 x4 : Int32) (acc : List (Int32 × Int32 × Int32)) (o p : List Int32), rs_x M x1 x2 x3 x4 acc o p = (rs_x M x1 x2 x3 x4 [] o p).map (fun l => l ++ acc) := by
  intro M
  induction M with
  | zero =>
    intro x1 x2 x3 x4 acc o p
    rfl
  | succ M ih =>
    intro x1 x2 x3 x4 acc o p
    rw [uz_x, uz_x]
    by_cases c : x2 = x1
    · rw [if_pos c, if_pos c]
      by_cases e : x3 = ((1 : Int32) <<< (x1 &&& 31)) - (1 : Int32)
      · rw [if_pos e, if_pos e]
        cases fX9_firstCross 700 x1 p with
        | none => rfl
        | some r =>
          show (if r < 0 then (mm_bd1 (fX9_bendsOf 700 x1 p) (fun (b : Int32) => some ((x4, b, mm_ig o (x1 - (1 : Int32))) :: acc))) else (some acc)) = (if r < 0 then (mm_bd1 (fX9_bendsOf 700 x1 p) (fun (b : Int32) => some ((x4, b, mm_ig o (x1 - (1 : Int32))) :: ([] : List (Int32 × Int32 × Int32))))) else (some [])).map (fun l => l ++ acc)
          by_cases g : r < 0
          · rw [if_pos g, if_pos g]
            cases fX9_bendsOf 700 x1 p with
            | none => rfl
            | some b => rfl
          · rw [if_neg g, if_neg g]
            rfl
      · rw [if_neg e, if_neg e]
        rfl
    · rw [if_neg c, if_neg c]
      exact ra_16 ih 700 x1 x2 x3 x4 (0 : Int32) acc o p
theorem rg_16 {n : Nat} {x1 x2 x3 x4 x5 : Int32} {acc l : List (Int32 × Int32 × Int32)} {o p : List Int32} (h1 : ¬ x1 ≤ x5) (h2 : ((x3 >>> (x5 &&& 31)) &&& (1 : Int32)) = 0) (h3 : rs_x 8 x1 (x2 + (1 : Int32)) (x3 ||| ((1 : Int32) <<< (x5 &&& 31))) ((((10 : Int32) * x4) + x5) + (1 : Int32)) [] (mm_is o x2 x5) (mm_is p x5 x2) = some l) : rs_16 (rs_x 8) (n + 1) x1 x2 x3 x4 x5 acc o p = rs_16 (rs_x 8) n x1 x2 x3 x4 (x5 + (1 : Int32)) (l ++ acc) o p := by
  rw [uz_16, if_neg h1, if_pos h2, ra_x, h3]
  rfl
theorem re_16 {n : Nat} {x1 x2 x3 x4 x5 : Int32} {acc : List (Int32 × Int32 × Int32)} {o p : List Int32} (h1 : x1 ≤ x5) : rs_16 (rs_x 8) (n + 1) x1 x2 x3 x4 x5 acc o p = some acc := by
  rw [uz_16, if_pos h1]
theorem uq_15 (go : Int32 → Int32 → Int32 → List Int32 → List Int32 → Option (List Int32)) (n : Nat) (x1 x2 x3 x4 : Int32) (acc s : List Int32) : gs_15 go (n + 1) x1 x2 x3 x4 acc s =
    if x1 ≤ x4 then
    (some acc)
    else (if (mm_ig s x4) < 0 then
    (mm_bd1 (fX7_crossesLaid 700 x1 (x4 - (1 : Int32)) (mm_is s x4 x2)) (fun (r : Bool) =>
    if r = false then
    (mm_bd1 (fX7_crossesLaid 700 x1 x4 (mm_is s x4 x2)) (fun (r' : Bool) =>
    if r' = false then
    (mm_bd1 (go x1 (x2 + (1 : Int32)) ((((10 : Int32) * x3) + x4) + (1 : Int32)) acc (mm_is s x4 x2)) (fun (acc' : List Int32) =>
    gs_15 go n x1 x2 x3 (x4 + (1 : Int32)) acc' s))
    else (gs_15 go n x1 x2 x3 (x4 + (1 : Int32)) acc s)))
    else (gs_15 go n x1 x2 x3 (x4 + (1 : Int32)) acc s)))
    else (gs_15 go n x1 x2 x3 (x4 + (1 : Int32)) acc s)) := rfl
theorem uq_x (M : Nat) (x1 x2 x3 : Int32) (acc s : List Int32) : gs_x (M + 1) x1 x2 x3 acc s =
    if x2 = x1 then
    (some (x3 :: acc))
    else (gs_15 (gs_x M) 700 x1 x2 x3 (0 : Int32) acc s) := rfl
theorem qa_15 {go : Int32 → Int32 → Int32 → List Int32 → List Int32 → Option (List Int32)} (hg : ∀ (x1 x2 x3 : Int32) (acc s : List Int32), go x1 x2 x3 acc s = (go x1 x2 x3 [] s).map (fun l => l ++ acc)) : ∀ (n : Nat) (x1 x2 x3 x4 : Int32) (acc s : List Int32), gs_15 go n x1 x2 x3 x4 acc s = (gs_15 go n x1 x2 x3 x4 [] s).map (fun l => l ++ acc) := by
  intro n
  induction n with
  | zero =>
    intro x1 x2 x3 x4 acc s
    rfl
  | succ n ih =>
    intro x1 x2 x3 x4 acc s
    rw [uq_15, uq_15]
    by_cases c : x1 ≤ x4
    · rw [if_pos c, if_pos c]
      rfl
    · rw [if_neg c, if_neg c]
      by_cases e : mm_ig s x4 < 0
      · rw [if_pos e, if_pos e]
        cases fX7_crossesLaid 700 x1 (x4 - (1 : Int32)) (mm_is s x4 x2) with
        | none => rfl
        | some r =>
          cases r with
          | true =>
            show gs_15 go n x1 x2 x3 (x4 + (1 : Int32)) acc s = (gs_15 go n x1 x2 x3 (x4 + (1 : Int32)) [] s).map (fun l => l ++ acc)
            exact ih _ _ _ _ acc _
          | false =>
            cases fX7_crossesLaid 700 x1 x4 (mm_is s x4 x2) with
            | none => rfl
            | some r2 =>
              cases r2 with
              | true =>
                show gs_15 go n x1 x2 x3 (x4 + (1 : Int32)) acc s = (gs_15 go n x1 x2 x3 (x4 + (1 : Int32)) [] s).map (fun l => l ++ acc)
                exact ih _ _ _ _ acc _
              | false =>
                show mm_bd1 (go x1 (x2 + (1 : Int32)) ((((10 : Int32) * x3) + x4) + (1 : Int32)) acc (mm_is s x4 x2)) (fun (acc' : List Int32) => gs_15 go n x1 x2 x3 (x4 + (1 : Int32)) acc' s) = (mm_bd1 (go x1 (x2 + (1 : Int32)) ((((10 : Int32) * x3) + x4) + (1 : Int32)) [] (mm_is s x4 x2)) (fun (acc' : List Int32) => gs_15 go n x1 x2 x3 (x4 + (1 : Int32)) acc' s)).map (fun l => l ++ acc)
                rw [hg _ _ _ acc]
                cases go x1 (x2 + (1 : Int32)) ((((10 : Int32) * x3) + x4) + (1 : Int32)) [] (mm_is s x4 x2) with
                | none => rfl
                | some l =>
                  show gs_15 go n x1 x2 x3 (x4 + (1 : Int32)) (l ++ acc) s = (gs_15 go n x1 x2 x3 (x4 + (1 : Int32)) l s).map (fun l => l ++ acc)
                  rw [ih _ _ _ _ (l ++ acc), ih _ _ _ _ l]
                  cases gs_15 go n x1 x2 x3 (x4 + (1 : Int32)) [] s with
                  | none => rfl
                  | some q =>
                    show some (q ++ (l ++ acc)) = some ((q ++ l) ++ acc)
                    rw [List.append_assoc]
      · rw [if_neg e, if_neg e]
        exact ih _ _ _ _ acc _
theorem qa_x : ∀ (M : Nat) (x1 x2 x3 : Int32) (acc s : List Int32), gs_x M x1 x2 x3 acc s = (gs_x M x1 x2 x3 [] s).map (fun l => l ++ acc) := by
  intro M
  induction M with
  | zero =>
    intro x1 x2 x3 acc s
    rfl
  | succ M ih =>
    intro x1 x2 x3 acc s
    rw [uq_x, uq_x]
    by_cases c : x2 = x1
    · rw [if_pos c, if_pos c]
      rfl
    · rw [if_neg c, if_neg c]
      exact qa_15 ih 700 x1 x2 x3 (0 : Int32) acc s
theorem qg_15 {n : Nat} {x1 x2 x3 x4 : Int32} {acc l s : List Int32} (h1 : ¬ x1 ≤ x4) (h2 : mm_ig s x4 < 0) (h3 : fX7_crossesLaid 700 x1 (x4 - (1 : Int32)) (mm_is s x4 x2) = some false) (h4 : fX7_crossesLaid 700 x1 x4 (mm_is s x4 x2) = some false) (h5 : gs_x 8 x1 (x2 + (1 : Int32)) ((((10 : Int32) * x3) + x4) + (1 : Int32)) [] (mm_is s x4 x2) = some l) : gs_15 (gs_x 8) (n + 1) x1 x2 x3 x4 acc s = gs_15 (gs_x 8) n x1 x2 x3 (x4 + (1 : Int32)) (l ++ acc) s := by
  rw [uq_15, if_neg h1, if_pos h2, h3, h4]
  show mm_bd1 (gs_x 8 x1 (x2 + (1 : Int32)) ((((10 : Int32) * x3) + x4) + (1 : Int32)) acc (mm_is s x4 x2)) (fun (acc' : List Int32) => gs_15 (gs_x 8) n x1 x2 x3 (x4 + (1 : Int32)) acc' s) = _
  rw [qa_x, h5]
  rfl
theorem qe_15 {n : Nat} {x1 x2 x3 x4 : Int32} {acc s : List Int32} (h1 : x1 ≤ x4) : gs_15 (gs_x 8) (n + 1) x1 x2 x3 x4 acc s = some acc := by
  rw [uq_15, if_pos h1]
theorem ck_of {n : Int32} {c : Nat} {a : List Int32} {b : List (Int32 × Int32 × Int32)} (h1 : gs_x 9 n 0 0 [] ms_7 = some a) (h2 : rs_x 9 n 0 0 0 [] (mm_zs 7) (mm_zs 7) = some b) (h3 : a = b.map (fun t => t.1)) (h4 : a.length = c) (h5 : b.all (cb_x n) = true) : ck_n n c = true := by
  unfold ck_n
  rw [h1, h2]
  show (decide (a = b.map (fun t => t.1)) && (decide (a.length = c) && b.all (cb_x n))) = true
  rw [h5, decide_eq_true h3, decide_eq_true h4]
  rfl
end
section
/-! seven fields, the first laid is 0 -/
def lzi_0 : List (Int32 × Int32 × Int32) := [(1765432, 43, 1), (1765234, 45, 3), (1763452, 39, 1), (1745632, 51, 1), (1743256, 51, 5), (1725436, 57, 5), (1723654, 45, 3), (1723456, 53, 5), (1675432, 11, 1), (1675234, 13, 3), (1673452, 7, 1), (1654732, 11, 1), (1654327, 11, 6), (1652347, 13, 6), (1634527, 7, 6), (1576432, 59, 1), (1576234, 61, 3), (1567432, 27, 1), (1567234, 29, 3), (1562374, 29, 3), (1543762, 59, 1), (1543672, 27, 1), (1476532, 35, 1), (1473265, 35, 4), (1467532, 3, 1), (1457632, 51, 1), (1456732, 19, 1), (1456327, 19, 6), (1432765, 35, 4), (1432675, 3, 4), (1432576, 51, 5), (1432567, 19, 6), (1376542, 47, 1), (1374562, 55, 1), (1367542, 15, 1), (1365472, 15, 1), (1357642, 63, 1), (1356742, 31, 1), (1347652, 39, 1), (1346752, 7, 1), (1345762, 55, 1), (1345672, 23, 1), (1276543, 41, 2), (1276345, 37, 4), (1274563, 49, 2), (1267543, 9, 2), (1267345, 5, 4), (1265473, 9, 2), (1257643, 57, 2), (1256743, 25, 2), (1254376, 57, 5), (1254367, 25, 6), (1247653, 33, 2), (1246753, 1, 2), (1245763, 49, 2), (1245673, 17, 2), (1237654, 45, 3), (1237456, 53, 5), (1236754, 13, 3), (1236547, 13, 6), (1235764, 61, 3), (1235674, 29, 3), (1234765, 37, 4), (1234675, 5, 4), (1234576, 53, 5), (1234567, 21, 6)]
theorem lh_0 : rs_x 8 (7 : Int32) ((0 : Int32) + (1 : Int32)) ((0 : Int32) ||| ((1 : Int32) <<< ((0 : Int32) &&& 31))) ((((10 : Int32) * (0 : Int32)) + (0 : Int32)) + (1 : Int32)) [] (mm_is (mm_zs 7) (0 : Int32) (0 : Int32)) (mm_is (mm_zs 7) (0 : Int32) (0 : Int32)) = some lzi_0 := by decide +kernel
end
section
/-! seven fields, the first laid is 1 -/
def lzi_1 : List (Int32 × Int32 × Int32) := [(2765431, 40, 0), (2765143, 40, 2), (2763451, 36, 0), (2745631, 48, 0), (2716543, 40, 2), (2716345, 36, 4), (2714563, 48, 2), (2675431, 8, 0), (2675143, 8, 2), (2673451, 4, 0), (2654731, 8, 0), (2651473, 8, 2), (2576431, 56, 0), (2576143, 56, 2), (2567431, 24, 0), (2567143, 24, 2), (2561743, 24, 2), (2543761, 56, 0), (2543671, 24, 0), (2543617, 24, 6), (2476531, 32, 0), (2467531, 0, 0), (2457631, 48, 0), (2456731, 16, 0), (2376541, 44, 0), (2374561, 52, 0), (2374156, 52, 5), (2367541, 12, 0), (2365471, 12, 0), (2365417, 12, 6), (2357641, 60, 0), (2356741, 28, 0), (2347651, 36, 0), (2347165, 36, 4), (2346751, 4, 0), (2345761, 52, 0), (2345671, 20, 0), (2345617, 20, 6), (2341765, 36, 4), (2341675, 4, 4), (2341576, 52, 5), (2341567, 20, 6), (2176543, 40, 2), (2176345, 36, 4), (2174563, 48, 2), (2167543, 8, 2), (2167345, 4, 4), (2165473, 8, 2), (2157643, 56, 2), (2156743, 24, 2), (2154376, 56, 5), (2154367, 24, 6), (2147653, 32, 2), (2146753, 0, 2), (2145763, 48, 2), (2145673, 16, 2), (2137654, 44, 3), (2137456, 52, 5), (2136754, 12, 3), (2136547, 12, 6), (2135764, 60, 3), (2135674, 28, 3), (2134765, 36, 4), (2134675, 4, 4), (2134576, 52, 5), (2134567, 20, 6)]
theorem lh_1 : rs_x 8 (7 : Int32) ((0 : Int32) + (1 : Int32)) ((0 : Int32) ||| ((1 : Int32) <<< (((0 : Int32) + (1 : Int32)) &&& 31))) ((((10 : Int32) * (0 : Int32)) + ((0 : Int32) + (1 : Int32))) + (1 : Int32)) [] (mm_is (mm_zs 7) (0 : Int32) ((0 : Int32) + (1 : Int32))) (mm_is (mm_zs 7) ((0 : Int32) + (1 : Int32)) (0 : Int32)) = some lzi_1 := by decide +kernel
end
section
/-! seven fields, the first laid is 2 -/
def lzi_2 : List (Int32 × Int32 × Int32) := [(3765421, 46, 0), (3765412, 47, 1), (3762154, 46, 3), (3761254, 47, 3), (3745621, 54, 0), (3745612, 55, 1), (3741562, 55, 1), (3675421, 14, 0), (3675412, 15, 1), (3672154, 14, 3), (3671254, 15, 3), (3654721, 14, 0), (3654712, 15, 1), (3654172, 15, 1), (3617254, 15, 3), (3576421, 62, 0), (3576412, 63, 1), (3567421, 30, 0), (3567412, 31, 1), (3476521, 38, 0), (3476512, 39, 1), (3471652, 39, 1), (3467521, 6, 0), (3467512, 7, 1), (3457621, 54, 0), (3457612, 55, 1), (3456721, 22, 0), (3456712, 23, 1), (3456172, 23, 1), (3452716, 54, 5), (3452176, 54, 5), (3452167, 22, 6), (3451276, 55, 5), (3451267, 23, 6), (3417652, 39, 1), (3416752, 7, 1), (3415762, 55, 1), (3415672, 23, 1), (3276514, 46, 3), (3271654, 46, 3), (3271456, 54, 5), (3267514, 14, 3), (3265147, 14, 6), (3257614, 62, 3), (3256714, 30, 3), (3256174, 30, 3), (3217654, 46, 3), (3217456, 54, 5), (3216754, 14, 3), (3216547, 14, 6), (3215764, 62, 3), (3215674, 30, 3), (3214765, 38, 4), (3214675, 6, 4), (3214576, 54, 5), (3214567, 22, 6), (3127654, 47, 3), (3127456, 55, 5), (3126754, 15, 3), (3126547, 15, 6), (3125764, 63, 3), (3125674, 31, 3), (3124765, 39, 4), (3124675, 7, 4), (3124576, 55, 5), (3124567, 23, 6)]
theorem lh_2 : rs_x 8 (7 : Int32) ((0 : Int32) + (1 : Int32)) ((0 : Int32) ||| ((1 : Int32) <<< ((((0 : Int32) + (1 : Int32)) + (1 : Int32)) &&& 31))) ((((10 : Int32) * (0 : Int32)) + (((0 : Int32) + (1 : Int32)) + (1 : Int32))) + (1 : Int32)) [] (mm_is (mm_zs 7) (0 : Int32) (((0 : Int32) + (1 : Int32)) + (1 : Int32))) (mm_is (mm_zs 7) (((0 : Int32) + (1 : Int32)) + (1 : Int32)) (0 : Int32)) = some lzi_2 := by decide +kernel
end
section
/-! seven fields, the first laid is 3 -/
def lzi_3 : List (Int32 × Int32 × Int32) := [(4765321, 34, 0), (4765312, 35, 1), (4765213, 32, 2), (4765123, 33, 2), (4732651, 34, 0), (4732165, 34, 4), (4731265, 35, 4), (4721365, 32, 4), (4716523, 33, 2), (4712365, 33, 4), (4675321, 2, 0), (4675312, 3, 1), (4675213, 0, 2), (4675123, 1, 2), (4576321, 50, 0), (4576312, 51, 1), (4576213, 48, 2), (4576123, 49, 2), (4567321, 18, 0), (4567312, 19, 1), (4567213, 16, 2), (4567123, 17, 2), (4563271, 18, 0), (4563217, 18, 6), (4563127, 19, 6), (4562137, 16, 6), (4561723, 17, 2), (4561237, 17, 6), (4527163, 48, 2), (4521763, 48, 2), (4521673, 16, 2), (4512763, 49, 2), (4512673, 17, 2), (4376215, 34, 4), (4376125, 35, 4), (4367215, 2, 4), (4367125, 3, 4), (4361725, 3, 4), (4327651, 34, 0), (4327165, 34, 4), (4326751, 2, 0), (4325761, 50, 0), (4325671, 18, 0), (4325617, 18, 6), (4321765, 34, 4), (4321675, 2, 4), (4321576, 50, 5), (4321567, 18, 6), (4312765, 35, 4), (4312675, 3, 4), (4312576, 51, 5), (4312567, 19, 6), (4213765, 32, 4), (4213675, 0, 4), (4213576, 48, 5), (4213567, 16, 6), (4176523, 33, 2), (4172365, 33, 4), (4167523, 1, 2), (4157623, 49, 2), (4156723, 17, 2), (4156237, 17, 6), (4123765, 33, 4), (4123675, 1, 4), (4123576, 49, 5), (4123567, 17, 6)]
theorem lh_3 : rs_x 8 (7 : Int32) ((0 : Int32) + (1 : Int32)) ((0 : Int32) ||| ((1 : Int32) <<< (((((0 : Int32) + (1 : Int32)) + (1 : Int32)) + (1 : Int32)) &&& 31))) ((((10 : Int32) * (0 : Int32)) + ((((0 : Int32) + (1 : Int32)) + (1 : Int32)) + (1 : Int32))) + (1 : Int32)) [] (mm_is (mm_zs 7) (0 : Int32) ((((0 : Int32) + (1 : Int32)) + (1 : Int32)) + (1 : Int32))) (mm_is (mm_zs 7) ((((0 : Int32) + (1 : Int32)) + (1 : Int32)) + (1 : Int32)) (0 : Int32)) = some lzi_3 := by decide +kernel
end
section
/-! seven fields, the first laid is 4 -/
def lzi_4 : List (Int32 × Int32 × Int32) := [(5764321, 58, 0), (5764312, 59, 1), (5764213, 56, 2), (5764123, 57, 2), (5763214, 62, 3), (5763124, 63, 3), (5762341, 60, 0), (5762134, 60, 3), (5761432, 59, 1), (5761234, 61, 3), (5674321, 26, 0), (5674312, 27, 1), (5674213, 24, 2), (5674123, 25, 2), (5673214, 30, 3), (5673124, 31, 3), (5672341, 28, 0), (5672134, 28, 3), (5671432, 27, 1), (5671234, 29, 3), (5632714, 30, 3), (5632174, 30, 3), (5631274, 31, 3), (5623741, 28, 0), (5621374, 28, 3), (5617432, 27, 1), (5617234, 29, 3), (5612374, 29, 3), (5473216, 58, 5), (5473126, 59, 5), (5472136, 56, 5), (5471236, 57, 5), (5437621, 58, 0), (5437612, 59, 1), (5436721, 26, 0), (5436712, 27, 1), (5436172, 27, 1), (5432716, 58, 5), (5432176, 58, 5), (5432167, 26, 6), (5431276, 59, 5), (5431267, 27, 6), (5421376, 56, 5), (5421367, 24, 6), (5417236, 57, 5), (5412376, 57, 5), (5412367, 25, 6), (5321476, 62, 5), (5321467, 30, 6), (5312476, 63, 5), (5312467, 31, 6), (5271634, 60, 3), (5234716, 60, 5), (5234176, 60, 5), (5234167, 28, 6), (5217634, 60, 3), (5216734, 28, 3), (5213476, 60, 5), (5213467, 28, 6), (5147326, 59, 5), (5143276, 59, 5), (5143267, 27, 6), (5127634, 61, 3), (5126734, 29, 3), (5123476, 61, 5), (5123467, 29, 6)]
theorem lh_4 : rs_x 8 (7 : Int32) ((0 : Int32) + (1 : Int32)) ((0 : Int32) ||| ((1 : Int32) <<< ((((((0 : Int32) + (1 : Int32)) + (1 : Int32)) + (1 : Int32)) + (1 : Int32)) &&& 31))) ((((10 : Int32) * (0 : Int32)) + (((((0 : Int32) + (1 : Int32)) + (1 : Int32)) + (1 : Int32)) + (1 : Int32))) + (1 : Int32)) [] (mm_is (mm_zs 7) (0 : Int32) (((((0 : Int32) + (1 : Int32)) + (1 : Int32)) + (1 : Int32)) + (1 : Int32))) (mm_is (mm_zs 7) (((((0 : Int32) + (1 : Int32)) + (1 : Int32)) + (1 : Int32)) + (1 : Int32)) (0 : Int32)) = some lzi_4 := by decide +kernel
end
section
/-! seven fields, the first laid is 5 -/
def lzi_5 : List (Int32 × Int32 × Int32) := [(6754321, 10, 0), (6754312, 11, 1), (6754213, 8, 2), (6754123, 9, 2), (6753214, 14, 3), (6753124, 15, 3), (6752341, 12, 0), (6752134, 12, 3), (6751432, 11, 1), (6751234, 13, 3), (6743215, 2, 4), (6743125, 3, 4), (6742135, 0, 4), (6741235, 1, 4), (6734521, 6, 0), (6734512, 7, 1), (6732145, 6, 4), (6731245, 7, 4), (6723415, 4, 4), (6721543, 8, 2), (6721345, 4, 4), (6714325, 3, 4), (6712543, 9, 2), (6712345, 5, 4), (6547321, 10, 0), (6547312, 11, 1), (6547213, 8, 2), (6547123, 9, 2), (6543271, 10, 0), (6543217, 10, 6), (6543127, 11, 6), (6542137, 8, 6), (6541723, 9, 2), (6541237, 9, 6), (6532147, 14, 6), (6531247, 15, 6), (6523471, 12, 0), (6523417, 12, 6), (6521347, 12, 6), (6514732, 11, 1), (6514327, 11, 6), (6512347, 13, 6), (6432157, 2, 6), (6431257, 3, 6), (6421357, 0, 6), (6412357, 1, 6), (6345271, 6, 0), (6345217, 6, 6), (6345127, 7, 6), (6327145, 6, 4), (6321745, 6, 4), (6321457, 6, 6), (6312745, 7, 4), (6312457, 7, 6), (6237415, 4, 4), (6234157, 4, 6), (6215437, 8, 6), (6213745, 4, 4), (6213457, 4, 6), (6174325, 3, 4), (6172543, 9, 2), (6172345, 5, 4), (6143257, 3, 6), (6125437, 9, 6), (6123745, 5, 4), (6123457, 5, 6)]
theorem lh_5 : rs_x 8 (7 : Int32) ((0 : Int32) + (1 : Int32)) ((0 : Int32) ||| ((1 : Int32) <<< (((((((0 : Int32) + (1 : Int32)) + (1 : Int32)) + (1 : Int32)) + (1 : Int32)) + (1 : Int32)) &&& 31))) ((((10 : Int32) * (0 : Int32)) + ((((((0 : Int32) + (1 : Int32)) + (1 : Int32)) + (1 : Int32)) + (1 : Int32)) + (1 : Int32))) + (1 : Int32)) [] (mm_is (mm_zs 7) (0 : Int32) ((((((0 : Int32) + (1 : Int32)) + (1 : Int32)) + (1 : Int32)) + (1 : Int32)) + (1 : Int32))) (mm_is (mm_zs 7) ((((((0 : Int32) + (1 : Int32)) + (1 : Int32)) + (1 : Int32)) + (1 : Int32)) + (1 : Int32)) (0 : Int32)) = some lzi_5 := by decide +kernel
end
section
/-! seven fields, the first laid is 6 -/
def lzi_6 : List (Int32 × Int32 × Int32) := [(7654321, 42, 0), (7654312, 43, 1), (7654213, 40, 2), (7654123, 41, 2), (7653214, 46, 3), (7653124, 47, 3), (7652341, 44, 0), (7652134, 44, 3), (7651432, 43, 1), (7651234, 45, 3), (7643215, 34, 4), (7643125, 35, 4), (7642135, 32, 4), (7641235, 33, 4), (7634521, 38, 0), (7634512, 39, 1), (7632145, 38, 4), (7631245, 39, 4), (7623415, 36, 4), (7621543, 40, 2), (7621345, 36, 4), (7614325, 35, 4), (7612543, 41, 2), (7612345, 37, 4), (7543216, 58, 5), (7543126, 59, 5), (7542136, 56, 5), (7541236, 57, 5), (7532146, 62, 5), (7531246, 63, 5), (7523416, 60, 5), (7521346, 60, 5), (7514326, 59, 5), (7512346, 61, 5), (7456321, 50, 0), (7456312, 51, 1), (7456213, 48, 2), (7456123, 49, 2), (7432561, 50, 0), (7432156, 50, 5), (7431256, 51, 5), (7421356, 48, 5), (7415623, 49, 2), (7412356, 49, 5), (7345216, 54, 5), (7345126, 55, 5), (7326514, 46, 3), (7321654, 46, 3), (7321456, 54, 5), (7312654, 47, 3), (7312456, 55, 5), (7254361, 56, 0), (7236541, 44, 0), (7234561, 52, 0), (7234156, 52, 5), (7215436, 56, 5), (7213654, 44, 3), (7213456, 52, 5), (7165432, 43, 1), (7165234, 45, 3), (7163452, 39, 1), (7145632, 51, 1), (7143256, 51, 5), (7125436, 57, 5), (7123654, 45, 3), (7123456, 53, 5)]
theorem lh_6 : rs_x 8 (7 : Int32) ((0 : Int32) + (1 : Int32)) ((0 : Int32) ||| ((1 : Int32) <<< ((((((((0 : Int32) + (1 : Int32)) + (1 : Int32)) + (1 : Int32)) + (1 : Int32)) + (1 : Int32)) + (1 : Int32)) &&& 31))) ((((10 : Int32) * (0 : Int32)) + (((((((0 : Int32) + (1 : Int32)) + (1 : Int32)) + (1 : Int32)) + (1 : Int32)) + (1 : Int32)) + (1 : Int32))) + (1 : Int32)) [] (mm_is (mm_zs 7) (0 : Int32) (((((((0 : Int32) + (1 : Int32)) + (1 : Int32)) + (1 : Int32)) + (1 : Int32)) + (1 : Int32)) + (1 : Int32))) (mm_is (mm_zs 7) (((((((0 : Int32) + (1 : Int32)) + (1 : Int32)) + (1 : Int32)) + (1 : Int32)) + (1 : Int32)) + (1 : Int32)) (0 : Int32)) = some lzi_6 := by decide +kernel
end
section
/-! seven fields, the class, the first laid is 0 -/
def lzc_0 : List Int32 := [1765432, 1765234, 1763452, 1745632, 1743256, 1725436, 1723654, 1723456, 1675432, 1675234, 1673452, 1654732, 1654327, 1652347, 1634527, 1576432, 1576234, 1567432, 1567234, 1562374, 1543762, 1543672, 1476532, 1473265, 1467532, 1457632, 1456732, 1456327, 1432765, 1432675, 1432576, 1432567, 1376542, 1374562, 1367542, 1365472, 1357642, 1356742, 1347652, 1346752, 1345762, 1345672, 1276543, 1276345, 1274563, 1267543, 1267345, 1265473, 1257643, 1256743, 1254376, 1254367, 1247653, 1246753, 1245763, 1245673, 1237654, 1237456, 1236754, 1236547, 1235764, 1235674, 1234765, 1234675, 1234576, 1234567]
theorem gh_0 : gs_x 8 (7 : Int32) ((0 : Int32) + (1 : Int32)) ((((10 : Int32) * (0 : Int32)) + (0 : Int32)) + (1 : Int32)) [] (mm_is ms_7 (0 : Int32) (0 : Int32)) = some lzc_0 := by decide +kernel
theorem gk_0 : lzc_0 = lzi_0.map (fun t => t.1) := by decide +kernel
theorem gb_0 : lzi_0.all (cb_x 7) = true := by decide +kernel
theorem gl_0 : lzc_0.length = 66 := by decide +kernel
end
section
/-! seven fields, the class, the first laid is 1 -/
def lzc_1 : List Int32 := [2765431, 2765143, 2763451, 2745631, 2716543, 2716345, 2714563, 2675431, 2675143, 2673451, 2654731, 2651473, 2576431, 2576143, 2567431, 2567143, 2561743, 2543761, 2543671, 2543617, 2476531, 2467531, 2457631, 2456731, 2376541, 2374561, 2374156, 2367541, 2365471, 2365417, 2357641, 2356741, 2347651, 2347165, 2346751, 2345761, 2345671, 2345617, 2341765, 2341675, 2341576, 2341567, 2176543, 2176345, 2174563, 2167543, 2167345, 2165473, 2157643, 2156743, 2154376, 2154367, 2147653, 2146753, 2145763, 2145673, 2137654, 2137456, 2136754, 2136547, 2135764, 2135674, 2134765, 2134675, 2134576, 2134567]
theorem gh_1 : gs_x 8 (7 : Int32) ((0 : Int32) + (1 : Int32)) ((((10 : Int32) * (0 : Int32)) + ((0 : Int32) + (1 : Int32))) + (1 : Int32)) [] (mm_is ms_7 ((0 : Int32) + (1 : Int32)) (0 : Int32)) = some lzc_1 := by decide +kernel
theorem gk_1 : lzc_1 = lzi_1.map (fun t => t.1) := by decide +kernel
theorem gb_1 : lzi_1.all (cb_x 7) = true := by decide +kernel
theorem gl_1 : lzc_1.length = 66 := by decide +kernel
end
section
/-! seven fields, the class, the first laid is 2 -/
def lzc_2 : List Int32 := [3765421, 3765412, 3762154, 3761254, 3745621, 3745612, 3741562, 3675421, 3675412, 3672154, 3671254, 3654721, 3654712, 3654172, 3617254, 3576421, 3576412, 3567421, 3567412, 3476521, 3476512, 3471652, 3467521, 3467512, 3457621, 3457612, 3456721, 3456712, 3456172, 3452716, 3452176, 3452167, 3451276, 3451267, 3417652, 3416752, 3415762, 3415672, 3276514, 3271654, 3271456, 3267514, 3265147, 3257614, 3256714, 3256174, 3217654, 3217456, 3216754, 3216547, 3215764, 3215674, 3214765, 3214675, 3214576, 3214567, 3127654, 3127456, 3126754, 3126547, 3125764, 3125674, 3124765, 3124675, 3124576, 3124567]
theorem gh_2 : gs_x 8 (7 : Int32) ((0 : Int32) + (1 : Int32)) ((((10 : Int32) * (0 : Int32)) + (((0 : Int32) + (1 : Int32)) + (1 : Int32))) + (1 : Int32)) [] (mm_is ms_7 (((0 : Int32) + (1 : Int32)) + (1 : Int32)) (0 : Int32)) = some lzc_2 := by decide +kernel
theorem gk_2 : lzc_2 = lzi_2.map (fun t => t.1) := by decide +kernel
theorem gb_2 : lzi_2.all (cb_x 7) = true := by decide +kernel
theorem gl_2 : lzc_2.length = 66 := by decide +kernel
end
section
/-! seven fields, the class, the first laid is 3 -/
def lzc_3 : List Int32 := [4765321, 4765312, 4765213, 4765123, 4732651, 4732165, 4731265, 4721365, 4716523, 4712365, 4675321, 4675312, 4675213, 4675123, 4576321, 4576312, 4576213, 4576123, 4567321, 4567312, 4567213, 4567123, 4563271, 4563217, 4563127, 4562137, 4561723, 4561237, 4527163, 4521763, 4521673, 4512763, 4512673, 4376215, 4376125, 4367215, 4367125, 4361725, 4327651, 4327165, 4326751, 4325761, 4325671, 4325617, 4321765, 4321675, 4321576, 4321567, 4312765, 4312675, 4312576, 4312567, 4213765, 4213675, 4213576, 4213567, 4176523, 4172365, 4167523, 4157623, 4156723, 4156237, 4123765, 4123675, 4123576, 4123567]
theorem gh_3 : gs_x 8 (7 : Int32) ((0 : Int32) + (1 : Int32)) ((((10 : Int32) * (0 : Int32)) + ((((0 : Int32) + (1 : Int32)) + (1 : Int32)) + (1 : Int32))) + (1 : Int32)) [] (mm_is ms_7 ((((0 : Int32) + (1 : Int32)) + (1 : Int32)) + (1 : Int32)) (0 : Int32)) = some lzc_3 := by decide +kernel
theorem gk_3 : lzc_3 = lzi_3.map (fun t => t.1) := by decide +kernel
theorem gb_3 : lzi_3.all (cb_x 7) = true := by decide +kernel
theorem gl_3 : lzc_3.length = 66 := by decide +kernel
end
