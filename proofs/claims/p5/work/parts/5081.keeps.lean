section
/-! The objects' invariants -/
def gi_sh (v_rows : Int32) (v_cols : Int32) (v_high : Int32) (v_wide : Int32) (v_rowOf : List Int32) (v_colOf : List Int32) (v_below : List Int32) (v_face : List Int32) (v_worn : List Int32) (v_last : List Int32) (v_bend : List Int32) (v_tall : List Int32) : Prop := 1 ≤ v_rows.toInt ∧ v_rows.toInt ≤ 4 ∧ 1 ≤ v_cols.toInt ∧ v_cols.toInt ≤ 8 ∧ 1 ≤ v_high.toInt ∧ v_high.toInt ≤ 4 ∧ 1 ≤ v_wide.toInt ∧ v_wide.toInt ≤ 8 ∧ v_rowOf.length = 32 ∧ v_colOf.length = 32 ∧ v_below.length = 32 ∧ v_face.length = 32 ∧ v_worn.length = 64 ∧ v_last.length = 64 ∧ v_bend.length = 64 ∧ v_tall.length = 32 ∧ zn v_rowOf 0 (v_rows.toInt * v_cols.toInt) 0 v_high.toInt ∧ zn v_colOf 0 (v_rows.toInt * v_cols.toInt) 0 v_wide.toInt
def gi_ch (v_done : Int32) (v_size : Int32) (v_before : List Int32) (v_after : List Int32) : Prop := 0 ≤ v_done.toInt ∧ v_done.toInt ≤ 40 ∧ 0 ≤ v_size.toInt ∧ v_size.toInt ≤ 40 ∧ v_before.length = 40 ∧ v_after.length = 40
def gi_la (v_size : Int32) (v_stepCount : Int32) (v_draftCount : Int32) (v_tape : List Int32) (v_steps : List Int32) (v_draft : List Int32) (v_stack : List Int32) : Prop := 0 ≤ v_size.toInt ∧ v_size.toInt ≤ 120 ∧ 0 ≤ v_stepCount.toInt ∧ v_stepCount.toInt ≤ 121 ∧ 0 ≤ v_draftCount.toInt ∧ v_draftCount.toInt ≤ 121 ∧ v_tape.length = 120 ∧ v_steps.length = 121 ∧ v_draft.length = 121 ∧ v_stack.length = 121
def gi_pl (v_size : Int32) (v_lines : List Int32) (v_ways : List Int32) : Prop := 0 ≤ v_size.toInt ∧ v_size.toInt ≤ 12 ∧ v_lines.length = 12 ∧ v_ways.length = 12
def gi_sf (v_size : Int32) (v_items : List Int64) : Prop := 0 ≤ v_size.toInt ∧ v_size.toInt ≤ 60 ∧ v_items.length = 60
def gi_se (v_folds : Int32) (v_path : List Int32) (v_best : List Int32) : Prop := 0 ≤ v_folds.toInt ∧ v_folds.toInt ≤ 3 ∧ v_path.length = 3 ∧ v_best.length = 3
def gi_st (v_at : List Int32) (v_list : List Int32) (v_found : List Int32) : Prop := v_at.length = 7 ∧ v_list.length = 680 ∧ v_found.length = 8 ∧ fnd v_found
def gi_fo (v_size : Int32) (v_kinds : List Int32) (v_trace : List Int32) : Prop := 0 ≤ v_size.toInt ∧ v_size.toInt ≤ 50 ∧ v_kinds.length = 50 ∧ v_trace.length = 24 ∧ zn v_kinds 0 v_size.toInt 0 8
def gm_ch (v_keptMany : Int32) (v_done : Int32) (v_limit : List Int32) (v_changeWas : List Int32) (v_changeIs : List Int32) : Prop := 0 ≤ v_keptMany.toInt ∧ v_keptMany.toInt ≤ 40 ∧ 0 ≤ v_done.toInt ∧ v_done.toInt ≤ 40 ∧ v_limit.length = 1 ∧ v_changeWas.length = 40 ∧ v_changeIs.length = 40 ∧ v_done.toInt ≤ v_keptMany.toInt
def gm_sh (v_rowsOf : Int32) (v_columnsOf : Int32) (v_isKept : Bool) (v_imageRows : Int32) (v_imageColumns : Int32) (v_shapeRows : List Int32) (v_shapeColumns : List Int32) (v_row : List Int32) (v_column : List Int32) (v_below : List Int32) (v_face : List Int32) (v_worn : List Int32) (v_lastBend : List Int32) : Prop := 1 ≤ v_rowsOf.toInt ∧ v_rowsOf.toInt ≤ 4 ∧ 1 ≤ v_columnsOf.toInt ∧ v_columnsOf.toInt ≤ 8 ∧ v_shapeRows.length = 6 ∧ v_shapeColumns.length = 6 ∧ v_row.length = 192 ∧ v_column.length = 192 ∧ v_below.length = 192 ∧ v_face.length = 192 ∧ v_worn.length = 384 ∧ v_lastBend.length = 384 ∧ lv9 v_rowsOf v_columnsOf v_shapeRows v_shapeColumns v_row v_column (0 : Int32) ∧ (¬ (v_isKept = false) → 1 ≤ v_imageRows.toInt ∧ v_imageRows.toInt ≤ 4 ∧ 1 ≤ v_imageColumns.toInt ∧ v_imageColumns.toInt ≤ 8 ∧ lv9 v_imageRows v_imageColumns v_shapeRows v_shapeColumns v_row v_column (5 : Int32))
def gm_tx (v_tapeMany : Int32) (v_textMany : Int32) (v_tape : List Int32) (v_text : List Int32) (v_names : List Int32) (v_bends : List Int32) (v_high : List Int32) (v_to : List Int32) (v_pileSize : List Int32) : Prop := 0 ≤ v_tapeMany.toInt ∧ v_tapeMany.toInt ≤ 120 ∧ -1 ≤ v_textMany.toInt ∧ v_textMany.toInt ≤ 120 ∧ v_tape.length = 120 ∧ v_text.length = 120 ∧ v_names.length = 6 ∧ v_bends.length = 64 ∧ v_high.length = 32 ∧ v_to.length = 32 ∧ v_pileSize.length = 64
def gm_pl (v_planned : Int32) (v_planLine : List Int32) (v_planWay : List Int32) : Prop := 0 ≤ v_planned.toInt ∧ v_planned.toInt ≤ 12 ∧ v_planLine.length = 12 ∧ v_planWay.length = 12
def gm_se (v_bestMany : Int32) (v_way1 : List Int32) (v_bestWay : List Int32) : Prop := 0 ≤ v_bestMany.toInt ∧ v_bestMany.toInt ≤ 3 ∧ v_way1.length = 3 ∧ v_bestWay.length = 3
def gm_or (v_order1 : List Int32) (v_placeIn : List Int32) : Prop := v_order1.length = 7 ∧ v_placeIn.length = 7
def gm_bo (v_bodies : Int32) (v_bodyKind : List Int32) (v_trace : List Int32) : Prop := 0 ≤ v_bodies.toInt ∧ v_bodies.toInt ≤ 50 ∧ v_bodyKind.length = 50 ∧ v_trace.length = 24 ∧ zn v_bodyKind 0 v_bodies.toInt 0 8
def gm_sf (v_shelf : List Int32) (v_many : List Int32) (v_items : List Int64) (v_carried : List Int64) : Prop := v_shelf.length = 6 ∧ v_many.length = 6 ∧ v_items.length = 360 ∧ v_carried.length = 60 ∧ zn v_many 0 6 0 61

theorem st8_act {x1 : Int32} {x2 : Int32} {x3 : Int32} {v_foldings_size : Int32} {v_foldings_ran : Int32} {v_foldings_number : Int32} {v_foldings_kinds : List Int32} {v_foldings_trace : List Int32} (g_0 : gi_fo v_foldings_size v_foldings_kinds v_foldings_trace) : wp (fX8_act 700 x1 x2 x3 v_foldings_size v_foldings_ran v_foldings_number v_foldings_kinds v_foldings_trace) (cu4 (fun (r : Int32) (wv_foldings_ran : Int32) (wv_foldings_number : Int32) (wv_foldings_trace : List Int32) => gi_fo v_foldings_size v_foldings_kinds wv_foldings_trace)) := by
  obtain ⟨a_0, a_1, a_2, a_3, a_4⟩ := id g_0
  unfold fX8_act fX1_perform
  refine wp_bd4 (R := fun _ _ _ t => gi_fo v_foldings_size v_foldings_kinds t) ?_ (fun r w2 w3 w4 q => wp_so4 q)
  refine wp_bd1 (sf_X1_has (Nat.le_refl 700) a_0 a_1) (fun r q => ?_)
  rcases q with ⟨rfl, q0, q1⟩ | ⟨rfl, -⟩
  · refine wp_ifn (by decide) ?_
    refine wp_if (fun _ => wp_so4 g_0) (fun c1 => ?_)
    refine wp_if (fun c2 => ?_) (fun _ => wp_so4 g_0)
    have n4 : (4 : Int32).toInt = 4 := by decide
    have n0 : (0 : Int32).toInt = 0 := by decide
    have d1 : 0 ≤ x2.toInt := by rw [Int32.lt_iff_toInt_lt] at c1; omega
    have d2 : x2.toInt < 4 := by rw [Int32.lt_iff_toInt_lt] at c2; omega
    refine wp_ck (i_inb (by omega) (by omega)) ?_
    refine wp_ck (i_inb (by omega) (by omega)) ?_
    have z := zn_get a_4 q0 q0 q1 (by omega)
    have K : ∃ r c t, fX1_call 700 (fX1_run 700 42) (mm_ig v_foldings_kinds x1) (mm_ig v_foldings_kinds x1) x2 x3 (0 : Int32) (0 : Int32) x1 v_foldings_trace = some (r, c, t) ∧ t.length = 24 := by
      rcases k4 d1 d2 with rfl | rfl | rfl | rfl
      · obtain ⟨r, c, t, e1, -, e3⟩ := ac_0 z.1 z.2 x3 x1 v_foldings_trace a_3
        exact ⟨r, c, t, e1, e3⟩
      · obtain ⟨r, c, t, e1, -, e3⟩ := ac_1 z.1 z.2 x3 x1 v_foldings_trace a_3
        exact ⟨r, c, t, e1, e3⟩
      · obtain ⟨r, c, t, e1, -, e3⟩ := ac_2 z.1 z.2 x3 x1 v_foldings_trace a_3
        exact ⟨r, c, t, e1, e3⟩
      · obtain ⟨r, c, t, e1, -, e3⟩ := ac_3 z.1 z.2 x3 x1 v_foldings_trace a_3
        exact ⟨r, c, t, e1, e3⟩
    obtain ⟨r, c, t, e1, e3⟩ := K
    exact wp_bd3 (R := fun (_ : Int32) (_ : Int32) (t : List Int32) => t.length = 24) ⟨(r, c, t), e1, e3⟩ (fun _ _ _ h => wp_so4 ⟨a_0, a_1, a_2, h, a_4⟩)
  · refine wp_ifp rfl ?_
    exact wp_so4 g_0
set_option maxHeartbeats 4000000 in
set_option maxRecDepth 20000 in
theorem st8_sheet {x1 : Int32} {v_now_rows : Int32} {v_now_cols : Int32} {v_now_high : Int32} {v_now_wide : Int32} {v_now_folds : Int32} {v_now_wrong : Int32} {v_now_more : Int32} {v_now_rowOf : List Int32} {v_now_colOf : List Int32} {v_now_below : List Int32} {v_now_face : List Int32} {v_now_worn : List Int32} {v_now_last : List Int32} {v_now_bend : List Int32} {v_now_tall : List Int32} (g_0 : gi_sh v_now_rows v_now_cols v_now_high v_now_wide v_now_rowOf v_now_colOf v_now_below v_now_face v_now_worn v_now_last v_now_bend v_now_tall) : wp (fX8_sheet 700 x1 v_now_rows v_now_cols v_now_high v_now_wide v_now_folds v_now_wrong v_now_more v_now_rowOf v_now_colOf v_now_below v_now_face v_now_worn v_now_last) (cu14 (fun (r : Int32) (wv_now_rows : Int32) (wv_now_cols : Int32) (wv_now_high : Int32) (wv_now_wide : Int32) (wv_now_folds : Int32) (wv_now_wrong : Int32) (wv_now_more : Int32) (wv_now_rowOf : List Int32) (wv_now_colOf : List Int32) (wv_now_below : List Int32) (wv_now_face : List Int32) (wv_now_worn : List Int32) (wv_now_last : List Int32) => gi_sh wv_now_rows wv_now_cols wv_now_high wv_now_wide wv_now_rowOf wv_now_colOf wv_now_below wv_now_face wv_now_worn wv_now_last v_now_bend v_now_tall)) := by
  obtain ⟨a_0_0, a_0_1, a_0_2, a_0_3, a_0_4, a_0_5, a_0_6, a_0_7, a_0_8, a_0_9, a_0_10, a_0_11, a_0_12, a_0_13, a_0_14, a_0_15, a_0_16, a_0_17⟩ := id g_0
  refine wp_cu14 (sf_X8_sheet (Nat.le_refl 700) a_0_0 a_0_1 a_0_2 a_0_3 a_0_4 a_0_5 a_0_6 a_0_7 a_0_8 a_0_9 a_0_10 a_0_11 a_0_12 a_0_13 a_0_16 a_0_17) (fun r wv_now_rows wv_now_cols wv_now_high wv_now_wide wv_now_folds wv_now_wrong wv_now_more wv_now_rowOf wv_now_colOf wv_now_below wv_now_face wv_now_worn wv_now_last ⟨q_0, q_1, q_2, q_3, q_4, q_5, q_6, q_7, q_8, q_9, q_10, q_11, q_12, q_13, q_14, q_15⟩ => ?_)
  exact ⟨q_0, q_1, q_2, q_3, q_4, q_5, q_6, q_7, q_8, q_9, q_10, q_11, q_12, q_13, a_0_14, a_0_15, q_14, q_15⟩
set_option maxHeartbeats 4000000 in
set_option maxRecDepth 20000 in
theorem st8_limit {x1 : Int32} {v_changes_value : Int32} {v_changes_done : Int32} {v_changes_size : Int32} {v_changes_before : List Int32} {v_changes_after : List Int32} (g_0 : gi_ch v_changes_done v_changes_size v_changes_before v_changes_after) : wp (fX8_limit 700 x1 v_changes_value v_changes_done v_changes_size v_changes_before v_changes_after) (cu6 (fun (r : Int32) (wv_changes_value : Int32) (wv_changes_done : Int32) (wv_changes_size : Int32) (wv_changes_before : List Int32) (wv_changes_after : List Int32) => gi_ch wv_changes_done wv_changes_size wv_changes_before wv_changes_after)) := by
  obtain ⟨a_0_0, a_0_1, a_0_2, a_0_3, a_0_4, a_0_5⟩ := id g_0
  refine wp_cu6 (sf_X8_limit (Nat.le_refl 700) a_0_0 a_0_1 a_0_2 a_0_3 a_0_4 a_0_5) (fun r wv_changes_value wv_changes_done wv_changes_size wv_changes_before wv_changes_after ⟨q_0, q_1, q_2, q_3, q_4, q_5⟩ => ?_)
  exact ⟨q_0, q_1, q_2, q_3, q_4, q_5⟩
set_option maxHeartbeats 4000000 in
set_option maxRecDepth 20000 in
theorem st8_feed {x1 : Int32} {v_wearing_size : Int32} {v_wearing_tape : List Int32} {v_wearing_stepCount : Int32} {v_wearing_draftCount : Int32} {v_wearing_steps : List Int32} {v_wearing_draft : List Int32} {v_wearing_stack : List Int32} (g_0 : gi_la v_wearing_size v_wearing_stepCount v_wearing_draftCount v_wearing_tape v_wearing_steps v_wearing_draft v_wearing_stack) : wp (fX8_feed 700 x1 v_wearing_size v_wearing_tape) (cu3 (fun (r : Int32) (wv_wearing_size : Int32) (wv_wearing_tape : List Int32) => gi_la wv_wearing_size v_wearing_stepCount v_wearing_draftCount wv_wearing_tape v_wearing_steps v_wearing_draft v_wearing_stack)) := by
  obtain ⟨a_0_0, a_0_1, a_0_2, a_0_3, a_0_4, a_0_5, a_0_6, a_0_7, a_0_8, a_0_9⟩ := id g_0
  refine wp_cu3 (sf_X8_feed (Nat.le_refl 700) a_0_0 a_0_1 a_0_6) (fun r wv_wearing_size wv_wearing_tape ⟨q_0, q_1, q_2⟩ => ?_)
  exact ⟨q_0, q_1, a_0_2, a_0_3, a_0_4, a_0_5, q_2, a_0_7, a_0_8, a_0_9⟩
set_option maxHeartbeats 4000000 in
set_option maxRecDepth 20000 in
theorem st8_law {v_wearing_size : Int32} {v_wearing_stepCount : Int32} {v_wearing_draftCount : Int32} {v_wearing_place : Int32} {v_wearing_fault : Int32} {v_wearing_tape : List Int32} {v_wearing_steps : List Int32} {v_wearing_draft : List Int32} {v_wearing_stack : List Int32} (g_0 : gi_la v_wearing_size v_wearing_stepCount v_wearing_draftCount v_wearing_tape v_wearing_steps v_wearing_draft v_wearing_stack) : wp (fX8_law 700 v_wearing_size v_wearing_stepCount v_wearing_draftCount v_wearing_place v_wearing_fault v_wearing_tape v_wearing_steps v_wearing_draft) (cu8 (fun (r : Int32) (wv_wearing_size : Int32) (wv_wearing_stepCount : Int32) (wv_wearing_draftCount : Int32) (wv_wearing_place : Int32) (wv_wearing_fault : Int32) (wv_wearing_steps : List Int32) (wv_wearing_draft : List Int32) => gi_la wv_wearing_size wv_wearing_stepCount wv_wearing_draftCount v_wearing_tape wv_wearing_steps wv_wearing_draft v_wearing_stack)) := by
  obtain ⟨a_0_0, a_0_1, a_0_2, a_0_3, a_0_4, a_0_5, a_0_6, a_0_7, a_0_8, a_0_9⟩ := id g_0
  refine wp_cu8 (sf_X8_law (Nat.le_refl 700) a_0_0 a_0_1 a_0_2 a_0_3 a_0_4 a_0_5 a_0_6 a_0_7 a_0_8) (fun r wv_wearing_size wv_wearing_stepCount wv_wearing_draftCount wv_wearing_place wv_wearing_fault wv_wearing_steps wv_wearing_draft ⟨q_0, q_1, q_2, q_3, q_4, q_5, q_6, q_7⟩ => ?_)
  exact ⟨q_0, q_1, q_2, q_3, q_4, q_5, a_0_6, q_6, q_7, a_0_9⟩
set_option maxHeartbeats 4000000 in
set_option maxRecDepth 20000 in
theorem st8_fold {x1 : Int32} {x2 : Int32} {v_now_rows : Int32} {v_now_cols : Int32} {v_now_high : Int32} {v_now_wide : Int32} {v_now_folds : Int32} {v_now_wrong : Int32} {v_now_more : Int32} {v_now_rowOf : List Int32} {v_now_colOf : List Int32} {v_now_below : List Int32} {v_now_face : List Int32} {v_now_worn : List Int32} {v_now_last : List Int32} {v_now_bend : List Int32} {v_now_tall : List Int32} {v_wearing_stepCount : Int32} {v_wearing_stacked : Int32} {v_wearing_steps : List Int32} {v_wearing_stack : List Int32} {v_changes_value : Int32} {v_wearing_size : Int32} {v_wearing_draftCount : Int32} {v_wearing_tape : List Int32} {v_wearing_draft : List Int32} (g_0 : gi_sh v_now_rows v_now_cols v_now_high v_now_wide v_now_rowOf v_now_colOf v_now_below v_now_face v_now_worn v_now_last v_now_bend v_now_tall) (g_1 : gi_la v_wearing_size v_wearing_stepCount v_wearing_draftCount v_wearing_tape v_wearing_steps v_wearing_draft v_wearing_stack) : wp (fX8_fold 700 x1 x2 v_now_rows v_now_cols v_now_high v_now_wide v_now_folds v_now_wrong v_now_more v_now_rowOf v_now_colOf v_now_below v_now_face v_now_worn v_now_last v_now_bend v_now_tall v_wearing_stepCount v_wearing_stacked v_wearing_steps v_wearing_stack v_changes_value) (cu16 (fun (r : Int32) (wv_now_high : Int32) (wv_now_wide : Int32) (wv_now_folds : Int32) (wv_now_wrong : Int32) (wv_now_more : Int32) (wv_now_rowOf : List Int32) (wv_now_colOf : List Int32) (wv_now_below : List Int32) (wv_now_face : List Int32) (wv_now_worn : List Int32) (wv_now_last : List Int32) (wv_now_bend : List Int32) (wv_now_tall : List Int32) (wv_wearing_stacked : Int32) (wv_wearing_stack : List Int32) => gi_sh v_now_rows v_now_cols wv_now_high wv_now_wide wv_now_rowOf wv_now_colOf wv_now_below wv_now_face wv_now_worn wv_now_last wv_now_bend wv_now_tall ∧ gi_la v_wearing_size v_wearing_stepCount v_wearing_draftCount v_wearing_tape v_wearing_steps v_wearing_draft wv_wearing_stack)) := by
  obtain ⟨a_0_0, a_0_1, a_0_2, a_0_3, a_0_4, a_0_5, a_0_6, a_0_7, a_0_8, a_0_9, a_0_10, a_0_11, a_0_12, a_0_13, a_0_14, a_0_15, a_0_16, a_0_17⟩ := id g_0
  obtain ⟨a_1_0, a_1_1, a_1_2, a_1_3, a_1_4, a_1_5, a_1_6, a_1_7, a_1_8, a_1_9⟩ := id g_1
  refine wp_cu16 (sf_X8_fold (Nat.le_refl 700) a_0_0 a_0_1 a_0_2 a_0_3 a_0_4 a_0_5 a_0_6 a_0_7 a_0_8 a_0_9 a_0_10 a_0_11 a_0_12 a_0_13 a_0_14 a_0_15 a_0_16 a_0_17 a_1_2 a_1_3 a_1_7 a_1_9) (fun r wv_now_high wv_now_wide wv_now_folds wv_now_wrong wv_now_more wv_now_rowOf wv_now_colOf wv_now_below wv_now_face wv_now_worn wv_now_last wv_now_bend wv_now_tall wv_wearing_stacked wv_wearing_stack ⟨q_0, q_1, q_2, q_3, q_4, q_5, q_6, q_7, q_8, q_9, q_10, q_11, q_12, q_13, q_14⟩ => ?_)
  exact ⟨⟨a_0_0, a_0_1, a_0_2, a_0_3, q_0, q_1, q_2, q_3, q_4, q_5, q_6, q_7, q_8, q_9, q_10, q_11, q_12, q_13⟩, ⟨a_1_0, a_1_1, a_1_2, a_1_3, a_1_4, a_1_5, a_1_6, a_1_7, a_1_8, q_14⟩⟩
set_option maxHeartbeats 4000000 in
set_option maxRecDepth 20000 in
theorem st8_flat {v_now_rows : Int32} {v_now_cols : Int32} {v_now_high : Int32} {v_now_wide : Int32} {v_now_rowOf : List Int32} {v_now_colOf : List Int32} {v_now_below : List Int32} {v_now_face : List Int32} {v_now_worn : List Int32} {v_now_last : List Int32} {v_now_bend : List Int32} {v_now_tall : List Int32} (g_0 : gi_sh v_now_rows v_now_cols v_now_high v_now_wide v_now_rowOf v_now_colOf v_now_below v_now_face v_now_worn v_now_last v_now_bend v_now_tall) : wp (fX8_flat 700 v_now_rows v_now_cols v_now_high v_now_wide v_now_rowOf v_now_colOf v_now_below v_now_face) (cu7 (fun (r : Int32) (wv_now_high : Int32) (wv_now_wide : Int32) (wv_now_rowOf : List Int32) (wv_now_colOf : List Int32) (wv_now_below : List Int32) (wv_now_face : List Int32) => gi_sh v_now_rows v_now_cols wv_now_high wv_now_wide wv_now_rowOf wv_now_colOf wv_now_below wv_now_face v_now_worn v_now_last v_now_bend v_now_tall)) := by
  obtain ⟨a_0_0, a_0_1, a_0_2, a_0_3, a_0_4, a_0_5, a_0_6, a_0_7, a_0_8, a_0_9, a_0_10, a_0_11, a_0_12, a_0_13, a_0_14, a_0_15, a_0_16, a_0_17⟩ := id g_0
  refine wp_cu7 (sf_X8_flat (Nat.le_refl 700) a_0_0 a_0_1 a_0_2 a_0_3 a_0_4 a_0_5 a_0_6 a_0_7 a_0_8 a_0_9 a_0_10 a_0_11 a_0_16 a_0_17) (fun r wv_now_high wv_now_wide wv_now_rowOf wv_now_colOf wv_now_below wv_now_face ⟨q_0, q_1, q_2, q_3, q_4, q_5, q_6, q_7, q_8, q_9⟩ => ?_)
  exact ⟨a_0_0, a_0_1, a_0_2, a_0_3, q_0, q_1, q_2, q_3, q_4, q_5, q_6, q_7, a_0_12, a_0_13, a_0_14, a_0_15, q_8, q_9⟩
set_option maxHeartbeats 4000000 in
set_option maxRecDepth 20000 in
theorem st8_crease {x1 : Int32} {x2 : Int32} {v_now_rows : Int32} {v_now_cols : Int32} {v_now_worn : List Int32} {v_now_last : List Int32} {v_changes_value : Int32} {v_now_high : Int32} {v_now_wide : Int32} {v_now_rowOf : List Int32} {v_now_colOf : List Int32} {v_now_below : List Int32} {v_now_face : List Int32} {v_now_bend : List Int32} {v_now_tall : List Int32} (g_0 : gi_sh v_now_rows v_now_cols v_now_high v_now_wide v_now_rowOf v_now_colOf v_now_below v_now_face v_now_worn v_now_last v_now_bend v_now_tall) : wp (fX8_crease 700 x1 x2 v_now_rows v_now_cols v_now_worn v_now_last v_changes_value) (fun (r : Int32) => True) := by
  obtain ⟨a_0_0, a_0_1, a_0_2, a_0_3, a_0_4, a_0_5, a_0_6, a_0_7, a_0_8, a_0_9, a_0_10, a_0_11, a_0_12, a_0_13, a_0_14, a_0_15, a_0_16, a_0_17⟩ := id g_0
  refine wp_cu1 (sf_X8_crease (Nat.le_refl 700) a_0_0 a_0_1 a_0_2 a_0_3 a_0_12 a_0_13) (fun r _ => ?_)
  exact trivial
set_option maxHeartbeats 4000000 in
set_option maxRecDepth 20000 in
theorem st8_shape {x1 : Int32} {v_now_rows : Int32} {v_now_cols : Int32} {v_now_high : Int32} {v_now_wide : Int32} {v_now_below : List Int32} {v_now_rowOf : List Int32} {v_now_colOf : List Int32} {v_now_face : List Int32} {v_now_worn : List Int32} {v_now_last : List Int32} {v_now_bend : List Int32} {v_now_tall : List Int32} (g_0 : gi_sh v_now_rows v_now_cols v_now_high v_now_wide v_now_rowOf v_now_colOf v_now_below v_now_face v_now_worn v_now_last v_now_bend v_now_tall) : wp (fX8_shape 700 x1 v_now_rows v_now_cols v_now_high v_now_wide v_now_below) (fun (r : Int32) => True) := by
  obtain ⟨a_0_0, a_0_1, a_0_2, a_0_3, a_0_4, a_0_5, a_0_6, a_0_7, a_0_8, a_0_9, a_0_10, a_0_11, a_0_12, a_0_13, a_0_14, a_0_15, a_0_16, a_0_17⟩ := id g_0
  refine wp_cu1 (sf_X8_shape (Nat.le_refl 700) a_0_0 a_0_1 a_0_2 a_0_3 a_0_4 a_0_5 a_0_6 a_0_7 a_0_10) (fun r _ => ?_)
  exact trivial
set_option maxHeartbeats 4000000 in
set_option maxRecDepth 20000 in
theorem st8_where {x1 : Int32} {x2 : Int32} {v_now_rows : Int32} {v_now_cols : Int32} {v_now_rowOf : List Int32} {v_now_colOf : List Int32} {v_now_below : List Int32} {v_now_face : List Int32} {v_now_high : Int32} {v_now_wide : Int32} {v_now_worn : List Int32} {v_now_last : List Int32} {v_now_bend : List Int32} {v_now_tall : List Int32} (g_0 : gi_sh v_now_rows v_now_cols v_now_high v_now_wide v_now_rowOf v_now_colOf v_now_below v_now_face v_now_worn v_now_last v_now_bend v_now_tall) : wp (fX8_where 700 x1 x2 v_now_rows v_now_cols v_now_rowOf v_now_colOf v_now_below v_now_face) (fun (r : Int32) => True) := by
  obtain ⟨a_0_0, a_0_1, a_0_2, a_0_3, a_0_4, a_0_5, a_0_6, a_0_7, a_0_8, a_0_9, a_0_10, a_0_11, a_0_12, a_0_13, a_0_14, a_0_15, a_0_16, a_0_17⟩ := id g_0
  refine wp_cu1 (sf_X8_where (Nat.le_refl 700) a_0_0 a_0_1 a_0_2 a_0_3 a_0_8 a_0_9 a_0_10 a_0_11) (fun r _ => ?_)
  exact trivial
set_option maxHeartbeats 4000000 in
set_option maxRecDepth 20000 in
theorem st8_pile {x1 : Int32} {x2 : Int32} {v_now_rows : Int32} {v_now_cols : Int32} {v_now_high : Int32} {v_now_wide : Int32} {v_now_rowOf : List Int32} {v_now_colOf : List Int32} {v_now_below : List Int32} {v_now_face : List Int32} {v_now_worn : List Int32} {v_now_last : List Int32} {v_now_bend : List Int32} {v_now_tall : List Int32} (g_0 : gi_sh v_now_rows v_now_cols v_now_high v_now_wide v_now_rowOf v_now_colOf v_now_below v_now_face v_now_worn v_now_last v_now_bend v_now_tall) : wp (fX8_pile 700 x1 x2 v_now_rows v_now_cols v_now_high v_now_wide v_now_rowOf v_now_colOf v_now_below) (fun (r : Int32) => True) := by
  obtain ⟨a_0_0, a_0_1, a_0_2, a_0_3, a_0_4, a_0_5, a_0_6, a_0_7, a_0_8, a_0_9, a_0_10, a_0_11, a_0_12, a_0_13, a_0_14, a_0_15, a_0_16, a_0_17⟩ := id g_0
  refine wp_cu1 (sf_X8_pile (Nat.le_refl 700) a_0_0 a_0_1 a_0_2 a_0_3 a_0_4 a_0_5 a_0_6 a_0_7 a_0_8 a_0_9 a_0_10 a_0_16 a_0_17) (fun r _ => ?_)
  exact trivial
set_option maxHeartbeats 4000000 in
set_option maxRecDepth 20000 in
theorem st8_led {x1 : Int32} {v_now_rows : Int32} {v_now_cols : Int32} {v_now_folds : Int32} {v_now_wrong : Int32} {v_now_worn : List Int32} {v_changes_value : Int32} {v_now_high : Int32} {v_now_wide : Int32} {v_now_rowOf : List Int32} {v_now_colOf : List Int32} {v_now_below : List Int32} {v_now_face : List Int32} {v_now_last : List Int32} {v_now_bend : List Int32} {v_now_tall : List Int32} (g_0 : gi_sh v_now_rows v_now_cols v_now_high v_now_wide v_now_rowOf v_now_colOf v_now_below v_now_face v_now_worn v_now_last v_now_bend v_now_tall) : wp (fX8_led 700 x1 v_now_rows v_now_cols v_now_folds v_now_wrong v_now_worn v_changes_value) (fun (r : Int32) => True) := by
  obtain ⟨a_0_0, a_0_1, a_0_2, a_0_3, a_0_4, a_0_5, a_0_6, a_0_7, a_0_8, a_0_9, a_0_10, a_0_11, a_0_12, a_0_13, a_0_14, a_0_15, a_0_16, a_0_17⟩ := id g_0
  refine wp_cu1 (sf_X8_led (Nat.le_refl 700) a_0_0 a_0_1 a_0_2 a_0_3 a_0_12) (fun r _ => ?_)
  exact trivial
set_option maxHeartbeats 4000000 in
set_option maxRecDepth 20000 in
theorem st8_plan {x1 : Int32} {x2 : Int32} {v_planned_size : Int32} {v_planned_lines : List Int32} {v_planned_ways : List Int32} (g_0 : gi_pl v_planned_size v_planned_lines v_planned_ways) : wp (fX8_plan 700 x1 x2 v_planned_size v_planned_lines v_planned_ways) (cu4 (fun (r : Int32) (wv_planned_size : Int32) (wv_planned_lines : List Int32) (wv_planned_ways : List Int32) => gi_pl wv_planned_size wv_planned_lines wv_planned_ways)) := by
  obtain ⟨a_0_0, a_0_1, a_0_2, a_0_3⟩ := id g_0
  refine wp_cu4 (sf_X8_plan (Nat.le_refl 700) a_0_0 a_0_1 a_0_2 a_0_3) (fun r wv_planned_size wv_planned_lines wv_planned_ways ⟨q_0, q_1, q_2, q_3⟩ => ?_)
  exact ⟨q_0, q_1, q_2, q_3⟩
set_option maxHeartbeats 4000000 in
set_option maxRecDepth 20000 in
theorem st8_plans {x1 : Int32} {x2 : Int32} {x3 : Int32} {v_planned_size : Int32} {v_planned_lines : List Int32} {v_planned_ways : List Int32} {v_shelves0_holds : Int32} {v_shelves0_sort : Int32} {v_shelves0_size : Int32} {v_shelves0_items : List Int64} {v_shelves1_holds : Int32} {v_shelves1_sort : Int32} {v_shelves1_size : Int32} {v_shelves1_items : List Int64} {v_shelves2_holds : Int32} {v_shelves2_sort : Int32} {v_shelves2_size : Int32} {v_shelves2_items : List Int64} {v_shelves3_holds : Int32} {v_shelves3_sort : Int32} {v_shelves3_size : Int32} {v_shelves3_items : List Int64} {v_shelves4_holds : Int32} {v_shelves4_sort : Int32} {v_shelves4_size : Int32} {v_shelves4_items : List Int64} {v_shelves5_holds : Int32} {v_shelves5_sort : Int32} {v_shelves5_size : Int32} {v_shelves5_items : List Int64} (g_0 : gi_pl v_planned_size v_planned_lines v_planned_ways) (g_1 : gi_sf v_shelves0_size v_shelves0_items) (g_2 : gi_sf v_shelves1_size v_shelves1_items) (g_3 : gi_sf v_shelves2_size v_shelves2_items) (g_4 : gi_sf v_shelves3_size v_shelves3_items) (g_5 : gi_sf v_shelves4_size v_shelves4_items) (g_6 : gi_sf v_shelves5_size v_shelves5_items) : wp (fX8_plans 700 x1 x2 x3 v_planned_size v_planned_lines v_planned_ways v_shelves0_holds v_shelves0_sort v_shelves0_size v_shelves0_items v_shelves1_holds v_shelves1_sort v_shelves1_size v_shelves1_items v_shelves2_holds v_shelves2_sort v_shelves2_size v_shelves2_items v_shelves3_holds v_shelves3_sort v_shelves3_size v_shelves3_items v_shelves4_holds v_shelves4_sort v_shelves4_size v_shelves4_items v_shelves5_holds v_shelves5_sort v_shelves5_size v_shelves5_items) (cu4 (fun (r : Int32) (wv_planned_size : Int32) (wv_planned_lines : List Int32) (wv_planned_ways : List Int32) => gi_pl wv_planned_size wv_planned_lines wv_planned_ways)) := by
  obtain ⟨a_0_0, a_0_1, a_0_2, a_0_3⟩ := id g_0
  obtain ⟨a_1_0, a_1_1, a_1_2⟩ := id g_1
  obtain ⟨a_2_0, a_2_1, a_2_2⟩ := id g_2
  obtain ⟨a_3_0, a_3_1, a_3_2⟩ := id g_3
  obtain ⟨a_4_0, a_4_1, a_4_2⟩ := id g_4
  obtain ⟨a_5_0, a_5_1, a_5_2⟩ := id g_5
  obtain ⟨a_6_0, a_6_1, a_6_2⟩ := id g_6
  refine wp_cu4 (sf_X8_plans (Nat.le_refl 700) a_0_0 a_0_1 a_0_2 a_0_3 a_1_0 a_1_1 a_1_2 a_2_0 a_2_1 a_2_2 a_3_0 a_3_1 a_3_2 a_4_0 a_4_1 a_4_2 a_5_0 a_5_1 a_5_2 a_6_0 a_6_1 a_6_2) (fun r wv_planned_size wv_planned_lines wv_planned_ways ⟨q_0, q_1, q_2, q_3⟩ => ?_)
  exact ⟨q_0, q_1, q_2, q_3⟩
set_option maxHeartbeats 4000000 in
set_option maxRecDepth 20000 in
theorem st8_cost {x1 : Int32} {v_now_rows : Int32} {v_now_cols : Int32} {v_now_high : Int32} {v_now_wide : Int32} {v_now_folds : Int32} {v_now_wrong : Int32} {v_now_more : Int32} {v_now_rowOf : List Int32} {v_now_colOf : List Int32} {v_now_below : List Int32} {v_now_face : List Int32} {v_now_worn : List Int32} {v_now_last : List Int32} {v_wearing_stepCount : Int32} {v_wearing_stacked : Int32} {v_wearing_steps : List Int32} {v_wearing_stack : List Int32} {v_planned_size : Int32} {v_planned_trial_rows : Int32} {v_planned_trial_cols : Int32} {v_planned_trial_high : Int32} {v_planned_trial_wide : Int32} {v_planned_trial_folds : Int32} {v_planned_trial_wrong : Int32} {v_planned_trial_more : Int32} {v_planned_trial_rowOf : List Int32} {v_planned_trial_colOf : List Int32} {v_planned_trial_below : List Int32} {v_planned_trial_face : List Int32} {v_planned_trial_worn : List Int32} {v_planned_trial_last : List Int32} {v_planned_trial_bend : List Int32} {v_planned_trial_tall : List Int32} {v_planned_lines : List Int32} {v_planned_ways : List Int32} {v_changes_value : Int32} {v_now_bend : List Int32} {v_now_tall : List Int32} {v_wearing_size : Int32} {v_wearing_draftCount : Int32} {v_wearing_tape : List Int32} {v_wearing_draft : List Int32} (g_0 : gi_sh v_now_rows v_now_cols v_now_high v_now_wide v_now_rowOf v_now_colOf v_now_below v_now_face v_now_worn v_now_last v_now_bend v_now_tall) (g_1 : gi_la v_wearing_size v_wearing_stepCount v_wearing_draftCount v_wearing_tape v_wearing_steps v_wearing_draft v_wearing_stack) (g_2 : gi_pl v_planned_size v_planned_lines v_planned_ways) (g_3 : gi_sh v_planned_trial_rows v_planned_trial_cols v_planned_trial_high v_planned_trial_wide v_planned_trial_rowOf v_planned_trial_colOf v_planned_trial_below v_planned_trial_face v_planned_trial_worn v_planned_trial_last v_planned_trial_bend v_planned_trial_tall) : wp (fX8_cost 700 x1 v_now_rows v_now_cols v_now_high v_now_wide v_now_folds v_now_wrong v_now_more v_now_rowOf v_now_colOf v_now_below v_now_face v_now_worn v_now_last v_wearing_stepCount v_wearing_stacked v_wearing_steps v_wearing_stack v_planned_size v_planned_trial_rows v_planned_trial_cols v_planned_trial_high v_planned_trial_wide v_planned_trial_folds v_planned_trial_wrong v_planned_trial_more v_planned_trial_rowOf v_planned_trial_colOf v_planned_trial_below v_planned_trial_face v_planned_trial_worn v_planned_trial_last v_planned_trial_bend v_planned_trial_tall v_planned_lines v_planned_ways v_changes_value) (cu18 (fun (r : Int32) (wv_wearing_stacked : Int32) (wv_wearing_stack : List Int32) (wv_planned_trial_rows : Int32) (wv_planned_trial_cols : Int32) (wv_planned_trial_high : Int32) (wv_planned_trial_wide : Int32) (wv_planned_trial_folds : Int32) (wv_planned_trial_wrong : Int32) (wv_planned_trial_more : Int32) (wv_planned_trial_rowOf : List Int32) (wv_planned_trial_colOf : List Int32) (wv_planned_trial_below : List Int32) (wv_planned_trial_face : List Int32) (wv_planned_trial_worn : List Int32) (wv_planned_trial_last : List Int32) (wv_planned_trial_bend : List Int32) (wv_planned_trial_tall : List Int32) => gi_la v_wearing_size v_wearing_stepCount v_wearing_draftCount v_wearing_tape v_wearing_steps v_wearing_draft wv_wearing_stack ∧ gi_sh wv_planned_trial_rows wv_planned_trial_cols wv_planned_trial_high wv_planned_trial_wide wv_planned_trial_rowOf wv_planned_trial_colOf wv_planned_trial_below wv_planned_trial_face wv_planned_trial_worn wv_planned_trial_last wv_planned_trial_bend wv_planned_trial_tall)) := by
  obtain ⟨a_0_0, a_0_1, a_0_2, a_0_3, a_0_4, a_0_5, a_0_6, a_0_7, a_0_8, a_0_9, a_0_10, a_0_11, a_0_12, a_0_13, a_0_14, a_0_15, a_0_16, a_0_17⟩ := id g_0
  obtain ⟨a_1_0, a_1_1, a_1_2, a_1_3, a_1_4, a_1_5, a_1_6, a_1_7, a_1_8, a_1_9⟩ := id g_1
  obtain ⟨a_2_0, a_2_1, a_2_2, a_2_3⟩ := id g_2
  obtain ⟨a_3_0, a_3_1, a_3_2, a_3_3, a_3_4, a_3_5, a_3_6, a_3_7, a_3_8, a_3_9, a_3_10, a_3_11, a_3_12, a_3_13, a_3_14, a_3_15, a_3_16, a_3_17⟩ := id g_3
  refine wp_cu18 (sf_X8_cost (Nat.le_refl 700) a_0_0 a_0_1 a_0_2 a_0_3 a_0_4 a_0_5 a_0_6 a_0_7 a_0_8 a_0_9 a_0_10 a_0_11 a_0_12 a_0_13 a_0_16 a_0_17 a_1_2 a_1_3 a_1_7 a_1_9 a_2_0 a_2_1 a_2_2 a_2_3 a_3_0 a_3_1 a_3_2 a_3_3 a_3_4 a_3_5 a_3_6 a_3_7 a_3_8 a_3_9 a_3_10 a_3_11 a_3_12 a_3_13 a_3_14 a_3_15 a_3_16 a_3_17) (fun r wv_wearing_stacked wv_wearing_stack wv_planned_trial_rows wv_planned_trial_cols wv_planned_trial_high wv_planned_trial_wide wv_planned_trial_folds wv_planned_trial_wrong wv_planned_trial_more wv_planned_trial_rowOf wv_planned_trial_colOf wv_planned_trial_below wv_planned_trial_face wv_planned_trial_worn wv_planned_trial_last wv_planned_trial_bend wv_planned_trial_tall ⟨q_0, q_1, q_2, q_3, q_4, q_5, q_6, q_7, q_8, q_9, q_10, q_11, q_12, q_13, q_14, q_15, q_16, q_17, q_18⟩ => ?_)
  exact ⟨⟨a_1_0, a_1_1, a_1_2, a_1_3, a_1_4, a_1_5, a_1_6, a_1_7, a_1_8, q_0⟩, ⟨q_1, q_2, q_3, q_4, q_5, q_6, q_7, q_8, q_9, q_10, q_11, q_12, q_13, q_14, q_15, q_16, q_17, q_18⟩⟩
set_option maxHeartbeats 4000000 in
set_option maxRecDepth 20000 in
theorem st8_lies {x1 : Int32} {x2 : Int32} {v_now_rows : Int32} {v_now_cols : Int32} {v_now_high : Int32} {v_now_wide : Int32} {v_now_folds : Int32} {v_now_wrong : Int32} {v_now_more : Int32} {v_now_rowOf : List Int32} {v_now_colOf : List Int32} {v_now_below : List Int32} {v_now_face : List Int32} {v_now_worn : List Int32} {v_now_last : List Int32} {v_wearing_stepCount : Int32} {v_wearing_stacked : Int32} {v_wearing_steps : List Int32} {v_wearing_stack : List Int32} {v_planned_size : Int32} {v_planned_trial_rows : Int32} {v_planned_trial_cols : Int32} {v_planned_trial_high : Int32} {v_planned_trial_wide : Int32} {v_planned_trial_folds : Int32} {v_planned_trial_wrong : Int32} {v_planned_trial_more : Int32} {v_planned_trial_rowOf : List Int32} {v_planned_trial_colOf : List Int32} {v_planned_trial_below : List Int32} {v_planned_trial_face : List Int32} {v_planned_trial_worn : List Int32} {v_planned_trial_last : List Int32} {v_planned_trial_bend : List Int32} {v_planned_trial_tall : List Int32} {v_planned_lines : List Int32} {v_planned_ways : List Int32} {v_changes_value : Int32} {v_now_bend : List Int32} {v_now_tall : List Int32} {v_wearing_size : Int32} {v_wearing_draftCount : Int32} {v_wearing_tape : List Int32} {v_wearing_draft : List Int32} (g_0 : gi_sh v_now_rows v_now_cols v_now_high v_now_wide v_now_rowOf v_now_colOf v_now_below v_now_face v_now_worn v_now_last v_now_bend v_now_tall) (g_1 : gi_la v_wearing_size v_wearing_stepCount v_wearing_draftCount v_wearing_tape v_wearing_steps v_wearing_draft v_wearing_stack) (g_2 : gi_pl v_planned_size v_planned_lines v_planned_ways) (g_3 : gi_sh v_planned_trial_rows v_planned_trial_cols v_planned_trial_high v_planned_trial_wide v_planned_trial_rowOf v_planned_trial_colOf v_planned_trial_below v_planned_trial_face v_planned_trial_worn v_planned_trial_last v_planned_trial_bend v_planned_trial_tall) : wp (fX8_lies 700 x1 x2 v_now_rows v_now_cols v_now_high v_now_wide v_now_folds v_now_wrong v_now_more v_now_rowOf v_now_colOf v_now_below v_now_face v_now_worn v_now_last v_wearing_stepCount v_wearing_stacked v_wearing_steps v_wearing_stack v_planned_size v_planned_trial_rows v_planned_trial_cols v_planned_trial_high v_planned_trial_wide v_planned_trial_folds v_planned_trial_wrong v_planned_trial_more v_planned_trial_rowOf v_planned_trial_colOf v_planned_trial_below v_planned_trial_face v_planned_trial_worn v_planned_trial_last v_planned_trial_bend v_planned_trial_tall v_planned_lines v_planned_ways v_changes_value) (cu18 (fun (r : Int32) (wv_wearing_stacked : Int32) (wv_wearing_stack : List Int32) (wv_planned_trial_rows : Int32) (wv_planned_trial_cols : Int32) (wv_planned_trial_high : Int32) (wv_planned_trial_wide : Int32) (wv_planned_trial_folds : Int32) (wv_planned_trial_wrong : Int32) (wv_planned_trial_more : Int32) (wv_planned_trial_rowOf : List Int32) (wv_planned_trial_colOf : List Int32) (wv_planned_trial_below : List Int32) (wv_planned_trial_face : List Int32) (wv_planned_trial_worn : List Int32) (wv_planned_trial_last : List Int32) (wv_planned_trial_bend : List Int32) (wv_planned_trial_tall : List Int32) => gi_la v_wearing_size v_wearing_stepCount v_wearing_draftCount v_wearing_tape v_wearing_steps v_wearing_draft wv_wearing_stack ∧ gi_sh wv_planned_trial_rows wv_planned_trial_cols wv_planned_trial_high wv_planned_trial_wide wv_planned_trial_rowOf wv_planned_trial_colOf wv_planned_trial_below wv_planned_trial_face wv_planned_trial_worn wv_planned_trial_last wv_planned_trial_bend wv_planned_trial_tall)) := by
  obtain ⟨a_0_0, a_0_1, a_0_2, a_0_3, a_0_4, a_0_5, a_0_6, a_0_7, a_0_8, a_0_9, a_0_10, a_0_11, a_0_12, a_0_13, a_0_14, a_0_15, a_0_16, a_0_17⟩ := id g_0
  obtain ⟨a_1_0, a_1_1, a_1_2, a_1_3, a_1_4, a_1_5, a_1_6, a_1_7, a_1_8, a_1_9⟩ := id g_1
  obtain ⟨a_2_0, a_2_1, a_2_2, a_2_3⟩ := id g_2
  obtain ⟨a_3_0, a_3_1, a_3_2, a_3_3, a_3_4, a_3_5, a_3_6, a_3_7, a_3_8, a_3_9, a_3_10, a_3_11, a_3_12, a_3_13, a_3_14, a_3_15, a_3_16, a_3_17⟩ := id g_3
  refine wp_cu18 (sf_X8_lies (Nat.le_refl 700) a_0_0 a_0_1 a_0_2 a_0_3 a_0_4 a_0_5 a_0_6 a_0_7 a_0_8 a_0_9 a_0_10 a_0_11 a_0_12 a_0_13 a_0_16 a_0_17 a_1_2 a_1_3 a_1_7 a_1_9 a_2_0 a_2_1 a_2_2 a_2_3 a_3_0 a_3_1 a_3_2 a_3_3 a_3_4 a_3_5 a_3_6 a_3_7 a_3_8 a_3_9 a_3_10 a_3_11 a_3_12 a_3_13 a_3_14 a_3_15 a_3_16 a_3_17) (fun r wv_wearing_stacked wv_wearing_stack wv_planned_trial_rows wv_planned_trial_cols wv_planned_trial_high wv_planned_trial_wide wv_planned_trial_folds wv_planned_trial_wrong wv_planned_trial_more wv_planned_trial_rowOf wv_planned_trial_colOf wv_planned_trial_below wv_planned_trial_face wv_planned_trial_worn wv_planned_trial_last wv_planned_trial_bend wv_planned_trial_tall ⟨q_0, q_1, q_2, q_3, q_4, q_5, q_6, q_7, q_8, q_9, q_10, q_11, q_12, q_13, q_14, q_15, q_16, q_17, q_18⟩ => ?_)
  exact ⟨⟨a_1_0, a_1_1, a_1_2, a_1_3, a_1_4, a_1_5, a_1_6, a_1_7, a_1_8, q_0⟩, ⟨q_1, q_2, q_3, q_4, q_5, q_6, q_7, q_8, q_9, q_10, q_11, q_12, q_13, q_14, q_15, q_16, q_17, q_18⟩⟩
set_option maxHeartbeats 4000000 in
set_option maxRecDepth 20000 in
theorem st8_top {x1 : Int32} {x2 : Int32} {v_now_rows : Int32} {v_now_cols : Int32} {v_now_high : Int32} {v_now_wide : Int32} {v_now_folds : Int32} {v_now_wrong : Int32} {v_now_more : Int32} {v_now_rowOf : List Int32} {v_now_colOf : List Int32} {v_now_below : List Int32} {v_now_face : List Int32} {v_now_worn : List Int32} {v_now_last : List Int32} {v_wearing_stepCount : Int32} {v_wearing_stacked : Int32} {v_wearing_steps : List Int32} {v_wearing_stack : List Int32} {v_planned_size : Int32} {v_planned_trial_rows : Int32} {v_planned_trial_cols : Int32} {v_planned_trial_high : Int32} {v_planned_trial_wide : Int32} {v_planned_trial_folds : Int32} {v_planned_trial_wrong : Int32} {v_planned_trial_more : Int32} {v_planned_trial_rowOf : List Int32} {v_planned_trial_colOf : List Int32} {v_planned_trial_below : List Int32} {v_planned_trial_face : List Int32} {v_planned_trial_worn : List Int32} {v_planned_trial_last : List Int32} {v_planned_trial_bend : List Int32} {v_planned_trial_tall : List Int32} {v_planned_lines : List Int32} {v_planned_ways : List Int32} {v_changes_value : Int32} {v_now_bend : List Int32} {v_now_tall : List Int32} {v_wearing_size : Int32} {v_wearing_draftCount : Int32} {v_wearing_tape : List Int32} {v_wearing_draft : List Int32} (g_0 : gi_sh v_now_rows v_now_cols v_now_high v_now_wide v_now_rowOf v_now_colOf v_now_below v_now_face v_now_worn v_now_last v_now_bend v_now_tall) (g_1 : gi_la v_wearing_size v_wearing_stepCount v_wearing_draftCount v_wearing_tape v_wearing_steps v_wearing_draft v_wearing_stack) (g_2 : gi_pl v_planned_size v_planned_lines v_planned_ways) (g_3 : gi_sh v_planned_trial_rows v_planned_trial_cols v_planned_trial_high v_planned_trial_wide v_planned_trial_rowOf v_planned_trial_colOf v_planned_trial_below v_planned_trial_face v_planned_trial_worn v_planned_trial_last v_planned_trial_bend v_planned_trial_tall) : wp (fX8_top 700 x1 x2 v_now_rows v_now_cols v_now_high v_now_wide v_now_folds v_now_wrong v_now_more v_now_rowOf v_now_colOf v_now_below v_now_face v_now_worn v_now_last v_wearing_stepCount v_wearing_stacked v_wearing_steps v_wearing_stack v_planned_size v_planned_trial_rows v_planned_trial_cols v_planned_trial_high v_planned_trial_wide v_planned_trial_folds v_planned_trial_wrong v_planned_trial_more v_planned_trial_rowOf v_planned_trial_colOf v_planned_trial_below v_planned_trial_face v_planned_trial_worn v_planned_trial_last v_planned_trial_bend v_planned_trial_tall v_planned_lines v_planned_ways v_changes_value) (cu18 (fun (r : Int32) (wv_wearing_stacked : Int32) (wv_wearing_stack : List Int32) (wv_planned_trial_rows : Int32) (wv_planned_trial_cols : Int32) (wv_planned_trial_high : Int32) (wv_planned_trial_wide : Int32) (wv_planned_trial_folds : Int32) (wv_planned_trial_wrong : Int32) (wv_planned_trial_more : Int32) (wv_planned_trial_rowOf : List Int32) (wv_planned_trial_colOf : List Int32) (wv_planned_trial_below : List Int32) (wv_planned_trial_face : List Int32) (wv_planned_trial_worn : List Int32) (wv_planned_trial_last : List Int32) (wv_planned_trial_bend : List Int32) (wv_planned_trial_tall : List Int32) => gi_la v_wearing_size v_wearing_stepCount v_wearing_draftCount v_wearing_tape v_wearing_steps v_wearing_draft wv_wearing_stack ∧ gi_sh wv_planned_trial_rows wv_planned_trial_cols wv_planned_trial_high wv_planned_trial_wide wv_planned_trial_rowOf wv_planned_trial_colOf wv_planned_trial_below wv_planned_trial_face wv_planned_trial_worn wv_planned_trial_last wv_planned_trial_bend wv_planned_trial_tall)) := by
  obtain ⟨a_0_0, a_0_1, a_0_2, a_0_3, a_0_4, a_0_5, a_0_6, a_0_7, a_0_8, a_0_9, a_0_10, a_0_11, a_0_12, a_0_13, a_0_14, a_0_15, a_0_16, a_0_17⟩ := id g_0
  obtain ⟨a_1_0, a_1_1, a_1_2, a_1_3, a_1_4, a_1_5, a_1_6, a_1_7, a_1_8, a_1_9⟩ := id g_1
  obtain ⟨a_2_0, a_2_1, a_2_2, a_2_3⟩ := id g_2
  obtain ⟨a_3_0, a_3_1, a_3_2, a_3_3, a_3_4, a_3_5, a_3_6, a_3_7, a_3_8, a_3_9, a_3_10, a_3_11, a_3_12, a_3_13, a_3_14, a_3_15, a_3_16, a_3_17⟩ := id g_3
  refine wp_cu18 (sf_X8_top (Nat.le_refl 700) a_0_0 a_0_1 a_0_2 a_0_3 a_0_4 a_0_5 a_0_6 a_0_7 a_0_8 a_0_9 a_0_10 a_0_11 a_0_12 a_0_13 a_0_16 a_0_17 a_1_2 a_1_3 a_1_7 a_1_9 a_2_0 a_2_1 a_2_2 a_2_3 a_3_0 a_3_1 a_3_2 a_3_3 a_3_4 a_3_5 a_3_6 a_3_7 a_3_8 a_3_9 a_3_10 a_3_11 a_3_12 a_3_13 a_3_14 a_3_15 a_3_16 a_3_17) (fun r wv_wearing_stacked wv_wearing_stack wv_planned_trial_rows wv_planned_trial_cols wv_planned_trial_high wv_planned_trial_wide wv_planned_trial_folds wv_planned_trial_wrong wv_planned_trial_more wv_planned_trial_rowOf wv_planned_trial_colOf wv_planned_trial_below wv_planned_trial_face wv_planned_trial_worn wv_planned_trial_last wv_planned_trial_bend wv_planned_trial_tall ⟨q_0, q_1, q_2, q_3, q_4, q_5, q_6, q_7, q_8, q_9, q_10, q_11, q_12, q_13, q_14, q_15, q_16, q_17, q_18⟩ => ?_)
  exact ⟨⟨a_1_0, a_1_1, a_1_2, a_1_3, a_1_4, a_1_5, a_1_6, a_1_7, a_1_8, q_0⟩, ⟨q_1, q_2, q_3, q_4, q_5, q_6, q_7, q_8, q_9, q_10, q_11, q_12, q_13, q_14, q_15, q_16, q_17, q_18⟩⟩
set_option maxHeartbeats 4000000 in
set_option maxRecDepth 20000 in
theorem st8_beside {x1 : Int32} {x2 : Int32} {v_now_rows : Int32} {v_now_cols : Int32} {v_now_high : Int32} {v_now_wide : Int32} {v_now_folds : Int32} {v_now_wrong : Int32} {v_now_more : Int32} {v_now_rowOf : List Int32} {v_now_colOf : List Int32} {v_now_below : List Int32} {v_now_face : List Int32} {v_now_worn : List Int32} {v_now_last : List Int32} {v_wearing_stepCount : Int32} {v_wearing_stacked : Int32} {v_wearing_steps : List Int32} {v_wearing_stack : List Int32} {v_planned_size : Int32} {v_planned_trial_rows : Int32} {v_planned_trial_cols : Int32} {v_planned_trial_high : Int32} {v_planned_trial_wide : Int32} {v_planned_trial_folds : Int32} {v_planned_trial_wrong : Int32} {v_planned_trial_more : Int32} {v_planned_trial_rowOf : List Int32} {v_planned_trial_colOf : List Int32} {v_planned_trial_below : List Int32} {v_planned_trial_face : List Int32} {v_planned_trial_worn : List Int32} {v_planned_trial_last : List Int32} {v_planned_trial_bend : List Int32} {v_planned_trial_tall : List Int32} {v_planned_lines : List Int32} {v_planned_ways : List Int32} {v_changes_value : Int32} {v_now_bend : List Int32} {v_now_tall : List Int32} {v_wearing_size : Int32} {v_wearing_draftCount : Int32} {v_wearing_tape : List Int32} {v_wearing_draft : List Int32} (g_0 : gi_sh v_now_rows v_now_cols v_now_high v_now_wide v_now_rowOf v_now_colOf v_now_below v_now_face v_now_worn v_now_last v_now_bend v_now_tall) (g_1 : gi_la v_wearing_size v_wearing_stepCount v_wearing_draftCount v_wearing_tape v_wearing_steps v_wearing_draft v_wearing_stack) (g_2 : gi_pl v_planned_size v_planned_lines v_planned_ways) (g_3 : gi_sh v_planned_trial_rows v_planned_trial_cols v_planned_trial_high v_planned_trial_wide v_planned_trial_rowOf v_planned_trial_colOf v_planned_trial_below v_planned_trial_face v_planned_trial_worn v_planned_trial_last v_planned_trial_bend v_planned_trial_tall) : wp (fX8_beside 700 x1 x2 v_now_rows v_now_cols v_now_high v_now_wide v_now_folds v_now_wrong v_now_more v_now_rowOf v_now_colOf v_now_below v_now_face v_now_worn v_now_last v_wearing_stepCount v_wearing_stacked v_wearing_steps v_wearing_stack v_planned_size v_planned_trial_rows v_planned_trial_cols v_planned_trial_high v_planned_trial_wide v_planned_trial_folds v_planned_trial_wrong v_planned_trial_more v_planned_trial_rowOf v_planned_trial_colOf v_planned_trial_below v_planned_trial_face v_planned_trial_worn v_planned_trial_last v_planned_trial_bend v_planned_trial_tall v_planned_lines v_planned_ways v_changes_value) (cu18 (fun (r : Int32) (wv_wearing_stacked : Int32) (wv_wearing_stack : List Int32) (wv_planned_trial_rows : Int32) (wv_planned_trial_cols : Int32) (wv_planned_trial_high : Int32) (wv_planned_trial_wide : Int32) (wv_planned_trial_folds : Int32) (wv_planned_trial_wrong : Int32) (wv_planned_trial_more : Int32) (wv_planned_trial_rowOf : List Int32) (wv_planned_trial_colOf : List Int32) (wv_planned_trial_below : List Int32) (wv_planned_trial_face : List Int32) (wv_planned_trial_worn : List Int32) (wv_planned_trial_last : List Int32) (wv_planned_trial_bend : List Int32) (wv_planned_trial_tall : List Int32) => gi_la v_wearing_size v_wearing_stepCount v_wearing_draftCount v_wearing_tape v_wearing_steps v_wearing_draft wv_wearing_stack ∧ gi_sh wv_planned_trial_rows wv_planned_trial_cols wv_planned_trial_high wv_planned_trial_wide wv_planned_trial_rowOf wv_planned_trial_colOf wv_planned_trial_below wv_planned_trial_face wv_planned_trial_worn wv_planned_trial_last wv_planned_trial_bend wv_planned_trial_tall)) := by
  obtain ⟨a_0_0, a_0_1, a_0_2, a_0_3, a_0_4, a_0_5, a_0_6, a_0_7, a_0_8, a_0_9, a_0_10, a_0_11, a_0_12, a_0_13, a_0_14, a_0_15, a_0_16, a_0_17⟩ := id g_0
  obtain ⟨a_1_0, a_1_1, a_1_2, a_1_3, a_1_4, a_1_5, a_1_6, a_1_7, a_1_8, a_1_9⟩ := id g_1
  obtain ⟨a_2_0, a_2_1, a_2_2, a_2_3⟩ := id g_2
  obtain ⟨a_3_0, a_3_1, a_3_2, a_3_3, a_3_4, a_3_5, a_3_6, a_3_7, a_3_8, a_3_9, a_3_10, a_3_11, a_3_12, a_3_13, a_3_14, a_3_15, a_3_16, a_3_17⟩ := id g_3
  refine wp_cu18 (sf_X8_beside (Nat.le_refl 700) a_0_0 a_0_1 a_0_2 a_0_3 a_0_4 a_0_5 a_0_6 a_0_7 a_0_8 a_0_9 a_0_10 a_0_11 a_0_12 a_0_13 a_0_16 a_0_17 a_1_2 a_1_3 a_1_7 a_1_9 a_2_0 a_2_1 a_2_2 a_2_3 a_3_0 a_3_1 a_3_2 a_3_3 a_3_4 a_3_5 a_3_6 a_3_7 a_3_8 a_3_9 a_3_10 a_3_11 a_3_12 a_3_13 a_3_14 a_3_15 a_3_16 a_3_17) (fun r wv_wearing_stacked wv_wearing_stack wv_planned_trial_rows wv_planned_trial_cols wv_planned_trial_high wv_planned_trial_wide wv_planned_trial_folds wv_planned_trial_wrong wv_planned_trial_more wv_planned_trial_rowOf wv_planned_trial_colOf wv_planned_trial_below wv_planned_trial_face wv_planned_trial_worn wv_planned_trial_last wv_planned_trial_bend wv_planned_trial_tall ⟨q_0, q_1, q_2, q_3, q_4, q_5, q_6, q_7, q_8, q_9, q_10, q_11, q_12, q_13, q_14, q_15, q_16, q_17, q_18⟩ => ?_)
  exact ⟨⟨a_1_0, a_1_1, a_1_2, a_1_3, a_1_4, a_1_5, a_1_6, a_1_7, a_1_8, q_0⟩, ⟨q_1, q_2, q_3, q_4, q_5, q_6, q_7, q_8, q_9, q_10, q_11, q_12, q_13, q_14, q_15, q_16, q_17, q_18⟩⟩
set_option maxHeartbeats 4000000 in
set_option maxRecDepth 20000 in
theorem st8_wished {x1 : Int32} {x2 : Int32} {v_now_rows : Int32} {v_now_cols : Int32} {v_now_high : Int32} {v_now_wide : Int32} {v_now_folds : Int32} {v_now_wrong : Int32} {v_now_more : Int32} {v_now_rowOf : List Int32} {v_now_colOf : List Int32} {v_now_below : List Int32} {v_now_face : List Int32} {v_now_worn : List Int32} {v_now_last : List Int32} {v_search_found : Bool} {v_search_wrong : Int32} {v_search_more : Int32} {v_search_folds : Int32} {v_search_wanted : Int32} {v_search_levels0_rows : Int32} {v_search_levels0_cols : Int32} {v_search_levels0_high : Int32} {v_search_levels0_wide : Int32} {v_search_levels0_folds : Int32} {v_search_levels0_wrong : Int32} {v_search_levels0_more : Int32} {v_search_levels0_rowOf : List Int32} {v_search_levels0_colOf : List Int32} {v_search_levels0_below : List Int32} {v_search_levels0_face : List Int32} {v_search_levels0_worn : List Int32} {v_search_levels0_last : List Int32} {v_search_levels1_rows : Int32} {v_search_levels1_cols : Int32} {v_search_levels1_high : Int32} {v_search_levels1_wide : Int32} {v_search_levels1_folds : Int32} {v_search_levels1_wrong : Int32} {v_search_levels1_more : Int32} {v_search_levels1_rowOf : List Int32} {v_search_levels1_colOf : List Int32} {v_search_levels1_below : List Int32} {v_search_levels1_face : List Int32} {v_search_levels1_worn : List Int32} {v_search_levels1_last : List Int32} {v_search_levels1_tall : List Int32} {v_search_levels2_rows : Int32} {v_search_levels2_cols : Int32} {v_search_levels2_high : Int32} {v_search_levels2_wide : Int32} {v_search_levels2_folds : Int32} {v_search_levels2_wrong : Int32} {v_search_levels2_more : Int32} {v_search_levels2_rowOf : List Int32} {v_search_levels2_colOf : List Int32} {v_search_levels2_below : List Int32} {v_search_levels2_face : List Int32} {v_search_levels2_worn : List Int32} {v_search_levels2_last : List Int32} {v_search_levels2_tall : List Int32} {v_search_levels3_rows : Int32} {v_search_levels3_cols : Int32} {v_search_levels3_high : Int32} {v_search_levels3_wide : Int32} {v_search_levels3_folds : Int32} {v_search_levels3_wrong : Int32} {v_search_levels3_more : Int32} {v_search_levels3_rowOf : List Int32} {v_search_levels3_colOf : List Int32} {v_search_levels3_below : List Int32} {v_search_levels3_face : List Int32} {v_search_levels3_worn : List Int32} {v_search_levels3_last : List Int32} {v_search_levels3_tall : List Int32} {v_search_path : List Int32} {v_search_best : List Int32} {v_now_bend : List Int32} {v_now_tall : List Int32} {v_search_levels0_bend : List Int32} {v_search_levels0_tall : List Int32} {v_search_levels1_bend : List Int32} {v_search_levels2_bend : List Int32} {v_search_levels3_bend : List Int32} (g_0 : gi_sh v_now_rows v_now_cols v_now_high v_now_wide v_now_rowOf v_now_colOf v_now_below v_now_face v_now_worn v_now_last v_now_bend v_now_tall) (g_1 : gi_se v_search_folds v_search_path v_search_best) (g_2 : gi_sh v_search_levels0_rows v_search_levels0_cols v_search_levels0_high v_search_levels0_wide v_search_levels0_rowOf v_search_levels0_colOf v_search_levels0_below v_search_levels0_face v_search_levels0_worn v_search_levels0_last v_search_levels0_bend v_search_levels0_tall) (g_3 : gi_sh v_search_levels1_rows v_search_levels1_cols v_search_levels1_high v_search_levels1_wide v_search_levels1_rowOf v_search_levels1_colOf v_search_levels1_below v_search_levels1_face v_search_levels1_worn v_search_levels1_last v_search_levels1_bend v_search_levels1_tall) (g_4 : gi_sh v_search_levels2_rows v_search_levels2_cols v_search_levels2_high v_search_levels2_wide v_search_levels2_rowOf v_search_levels2_colOf v_search_levels2_below v_search_levels2_face v_search_levels2_worn v_search_levels2_last v_search_levels2_bend v_search_levels2_tall) (g_5 : gi_sh v_search_levels3_rows v_search_levels3_cols v_search_levels3_high v_search_levels3_wide v_search_levels3_rowOf v_search_levels3_colOf v_search_levels3_below v_search_levels3_face v_search_levels3_worn v_search_levels3_last v_search_levels3_bend v_search_levels3_tall) : wp (fX8_wished 700 x1 x2 v_now_rows v_now_cols v_now_high v_now_wide v_now_folds v_now_wrong v_now_more v_now_rowOf v_now_colOf v_now_below v_now_face v_now_worn v_now_last v_search_found v_search_wrong v_search_more v_search_folds v_search_wanted v_search_levels0_rows v_search_levels0_cols v_search_levels0_high v_search_levels0_wide v_search_levels0_folds v_search_levels0_wrong v_search_levels0_more v_search_levels0_rowOf v_search_levels0_colOf v_search_levels0_below v_search_levels0_face v_search_levels0_worn v_search_levels0_last v_search_levels1_rows v_search_levels1_cols v_search_levels1_high v_search_levels1_wide v_search_levels1_folds v_search_levels1_wrong v_search_levels1_more v_search_levels1_rowOf v_search_levels1_colOf v_search_levels1_below v_search_levels1_face v_search_levels1_worn v_search_levels1_last v_search_levels1_tall v_search_levels2_rows v_search_levels2_cols v_search_levels2_high v_search_levels2_wide v_search_levels2_folds v_search_levels2_wrong v_search_levels2_more v_search_levels2_rowOf v_search_levels2_colOf v_search_levels2_below v_search_levels2_face v_search_levels2_worn v_search_levels2_last v_search_levels2_tall v_search_levels3_rows v_search_levels3_cols v_search_levels3_high v_search_levels3_wide v_search_levels3_folds v_search_levels3_wrong v_search_levels3_more v_search_levels3_rowOf v_search_levels3_colOf v_search_levels3_below v_search_levels3_face v_search_levels3_worn v_search_levels3_last v_search_levels3_tall v_search_path v_search_best) (cu63 (fun (r : Int32) (wv_search_found : Bool) (wv_search_wrong : Int32) (wv_search_more : Int32) (wv_search_folds : Int32) (wv_search_wanted : Int32) (wv_search_levels0_rows : Int32) (wv_search_levels0_cols : Int32) (wv_search_levels0_high : Int32) (wv_search_levels0_wide : Int32) (wv_search_levels0_folds : Int32) (wv_search_levels0_wrong : Int32) (wv_search_levels0_more : Int32) (wv_search_levels0_rowOf : List Int32) (wv_search_levels0_colOf : List Int32) (wv_search_levels0_below : List Int32) (wv_search_levels0_face : List Int32) (wv_search_levels0_worn : List Int32) (wv_search_levels0_last : List Int32) (wv_search_levels1_rows : Int32) (wv_search_levels1_cols : Int32) (wv_search_levels1_high : Int32) (wv_search_levels1_wide : Int32) (wv_search_levels1_folds : Int32) (wv_search_levels1_wrong : Int32) (wv_search_levels1_more : Int32) (wv_search_levels1_rowOf : List Int32) (wv_search_levels1_colOf : List Int32) (wv_search_levels1_below : List Int32) (wv_search_levels1_face : List Int32) (wv_search_levels1_worn : List Int32) (wv_search_levels1_last : List Int32) (wv_search_levels1_tall : List Int32) (wv_search_levels2_rows : Int32) (wv_search_levels2_cols : Int32) (wv_search_levels2_high : Int32) (wv_search_levels2_wide : Int32) (wv_search_levels2_folds : Int32) (wv_search_levels2_wrong : Int32) (wv_search_levels2_more : Int32) (wv_search_levels2_rowOf : List Int32) (wv_search_levels2_colOf : List Int32) (wv_search_levels2_below : List Int32) (wv_search_levels2_face : List Int32) (wv_search_levels2_worn : List Int32) (wv_search_levels2_last : List Int32) (wv_search_levels2_tall : List Int32) (wv_search_levels3_rows : Int32) (wv_search_levels3_cols : Int32) (wv_search_levels3_high : Int32) (wv_search_levels3_wide : Int32) (wv_search_levels3_folds : Int32) (wv_search_levels3_wrong : Int32) (wv_search_levels3_more : Int32) (wv_search_levels3_rowOf : List Int32) (wv_search_levels3_colOf : List Int32) (wv_search_levels3_below : List Int32) (wv_search_levels3_face : List Int32) (wv_search_levels3_worn : List Int32) (wv_search_levels3_last : List Int32) (wv_search_levels3_tall : List Int32) (wv_search_path : List Int32) (wv_search_best : List Int32) => gi_se wv_search_folds wv_search_path wv_search_best ∧ gi_sh wv_search_levels0_rows wv_search_levels0_cols wv_search_levels0_high wv_search_levels0_wide wv_search_levels0_rowOf wv_search_levels0_colOf wv_search_levels0_below wv_search_levels0_face wv_search_levels0_worn wv_search_levels0_last v_search_levels0_bend v_search_levels0_tall ∧ gi_sh wv_search_levels1_rows wv_search_levels1_cols wv_search_levels1_high wv_search_levels1_wide wv_search_levels1_rowOf wv_search_levels1_colOf wv_search_levels1_below wv_search_levels1_face wv_search_levels1_worn wv_search_levels1_last v_search_levels1_bend wv_search_levels1_tall ∧ gi_sh wv_search_levels2_rows wv_search_levels2_cols wv_search_levels2_high wv_search_levels2_wide wv_search_levels2_rowOf wv_search_levels2_colOf wv_search_levels2_below wv_search_levels2_face wv_search_levels2_worn wv_search_levels2_last v_search_levels2_bend wv_search_levels2_tall ∧ gi_sh wv_search_levels3_rows wv_search_levels3_cols wv_search_levels3_high wv_search_levels3_wide wv_search_levels3_rowOf wv_search_levels3_colOf wv_search_levels3_below wv_search_levels3_face wv_search_levels3_worn wv_search_levels3_last v_search_levels3_bend wv_search_levels3_tall)) := by
  obtain ⟨a_0_0, a_0_1, a_0_2, a_0_3, a_0_4, a_0_5, a_0_6, a_0_7, a_0_8, a_0_9, a_0_10, a_0_11, a_0_12, a_0_13, a_0_14, a_0_15, a_0_16, a_0_17⟩ := id g_0
  obtain ⟨a_1_0, a_1_1, a_1_2, a_1_3⟩ := id g_1
  obtain ⟨a_2_0, a_2_1, a_2_2, a_2_3, a_2_4, a_2_5, a_2_6, a_2_7, a_2_8, a_2_9, a_2_10, a_2_11, a_2_12, a_2_13, a_2_14, a_2_15, a_2_16, a_2_17⟩ := id g_2
  obtain ⟨a_3_0, a_3_1, a_3_2, a_3_3, a_3_4, a_3_5, a_3_6, a_3_7, a_3_8, a_3_9, a_3_10, a_3_11, a_3_12, a_3_13, a_3_14, a_3_15, a_3_16, a_3_17⟩ := id g_3
  obtain ⟨a_4_0, a_4_1, a_4_2, a_4_3, a_4_4, a_4_5, a_4_6, a_4_7, a_4_8, a_4_9, a_4_10, a_4_11, a_4_12, a_4_13, a_4_14, a_4_15, a_4_16, a_4_17⟩ := id g_4
  obtain ⟨a_5_0, a_5_1, a_5_2, a_5_3, a_5_4, a_5_5, a_5_6, a_5_7, a_5_8, a_5_9, a_5_10, a_5_11, a_5_12, a_5_13, a_5_14, a_5_15, a_5_16, a_5_17⟩ := id g_5
  refine wp_cu63 (sf_X8_wished (Nat.le_refl 700) a_0_0 a_0_1 a_0_2 a_0_3 a_0_4 a_0_5 a_0_6 a_0_7 a_0_8 a_0_9 a_0_10 a_0_11 a_0_12 a_0_13 a_0_16 a_0_17 a_1_0 a_1_1 a_1_2 a_1_3 a_2_0 a_2_1 a_2_2 a_2_3 a_2_4 a_2_5 a_2_6 a_2_7 a_2_8 a_2_9 a_2_10 a_2_11 a_2_12 a_2_13 a_2_16 a_2_17 a_3_0 a_3_1 a_3_2 a_3_3 a_3_4 a_3_5 a_3_6 a_3_7 a_3_8 a_3_9 a_3_10 a_3_11 a_3_12 a_3_13 a_3_15 a_3_16 a_3_17 a_4_0 a_4_1 a_4_2 a_4_3 a_4_4 a_4_5 a_4_6 a_4_7 a_4_8 a_4_9 a_4_10 a_4_11 a_4_12 a_4_13 a_4_15 a_4_16 a_4_17 a_5_0 a_5_1 a_5_2 a_5_3 a_5_4 a_5_5 a_5_6 a_5_7 a_5_8 a_5_9 a_5_10 a_5_11 a_5_12 a_5_13 a_5_15 a_5_16 a_5_17) (fun r wv_search_found wv_search_wrong wv_search_more wv_search_folds wv_search_wanted wv_search_levels0_rows wv_search_levels0_cols wv_search_levels0_high wv_search_levels0_wide wv_search_levels0_folds wv_search_levels0_wrong wv_search_levels0_more wv_search_levels0_rowOf wv_search_levels0_colOf wv_search_levels0_below wv_search_levels0_face wv_search_levels0_worn wv_search_levels0_last wv_search_levels1_rows wv_search_levels1_cols wv_search_levels1_high wv_search_levels1_wide wv_search_levels1_folds wv_search_levels1_wrong wv_search_levels1_more wv_search_levels1_rowOf wv_search_levels1_colOf wv_search_levels1_below wv_search_levels1_face wv_search_levels1_worn wv_search_levels1_last wv_search_levels1_tall wv_search_levels2_rows wv_search_levels2_cols wv_search_levels2_high wv_search_levels2_wide wv_search_levels2_folds wv_search_levels2_wrong wv_search_levels2_more wv_search_levels2_rowOf wv_search_levels2_colOf wv_search_levels2_below wv_search_levels2_face wv_search_levels2_worn wv_search_levels2_last wv_search_levels2_tall wv_search_levels3_rows wv_search_levels3_cols wv_search_levels3_high wv_search_levels3_wide wv_search_levels3_folds wv_search_levels3_wrong wv_search_levels3_more wv_search_levels3_rowOf wv_search_levels3_colOf wv_search_levels3_below wv_search_levels3_face wv_search_levels3_worn wv_search_levels3_last wv_search_levels3_tall wv_search_path wv_search_best ⟨q_0, q_1, q_2, q_3, q_4, q_5, q_6, q_7, q_8, q_9, q_10, q_11, q_12, q_13, q_14, q_15, q_16, q_17, q_18, q_19, q_20, q_21, q_22, q_23, q_24, q_25, q_26, q_27, q_28, q_29, q_30, q_31, q_32, q_33, q_34, q_35, q_36, q_37, q_38, q_39, q_40, q_41, q_42, q_43, q_44, q_45, q_46, q_47, q_48, q_49, q_50, q_51, q_52, q_53, q_54, q_55, q_56, q_57, q_58, q_59, q_60, q_61, q_62, q_63, q_64, q_65, q_66, q_67, q_68, q_69, q_70⟩ => ?_)
  exact ⟨⟨q_0, q_1, q_2, q_3⟩, ⟨q_4, q_5, q_6, q_7, q_8, q_9, q_10, q_11, q_12, q_13, q_14, q_15, q_16, q_17, a_2_14, a_2_15, q_18, q_19⟩, ⟨q_20, q_21, q_22, q_23, q_24, q_25, q_26, q_27, q_28, q_29, q_30, q_31, q_32, q_33, a_3_14, q_34, q_35, q_36⟩, ⟨q_37, q_38, q_39, q_40, q_41, q_42, q_43, q_44, q_45, q_46, q_47, q_48, q_49, q_50, a_4_14, q_51, q_52, q_53⟩, ⟨q_54, q_55, q_56, q_57, q_58, q_59, q_60, q_61, q_62, q_63, q_64, q_65, q_66, q_67, a_5_14, q_68, q_69, q_70⟩⟩
set_option maxHeartbeats 4000000 in
set_option maxRecDepth 20000 in
theorem st8_right {x1 : Int32} {v_now_rows : Int32} {v_now_cols : Int32} {v_now_high : Int32} {v_now_wide : Int32} {v_now_folds : Int32} {v_now_wrong : Int32} {v_now_more : Int32} {v_now_rowOf : List Int32} {v_now_colOf : List Int32} {v_now_below : List Int32} {v_now_face : List Int32} {v_now_worn : List Int32} {v_now_last : List Int32} {v_wearing_stepCount : Int32} {v_wearing_stacked : Int32} {v_wearing_steps : List Int32} {v_wearing_stack : List Int32} {v_search_found : Bool} {v_search_wrong : Int32} {v_search_more : Int32} {v_search_folds : Int32} {v_search_wanted : Int32} {v_search_levels0_rows : Int32} {v_search_levels0_cols : Int32} {v_search_levels0_high : Int32} {v_search_levels0_wide : Int32} {v_search_levels0_folds : Int32} {v_search_levels0_wrong : Int32} {v_search_levels0_more : Int32} {v_search_levels0_rowOf : List Int32} {v_search_levels0_colOf : List Int32} {v_search_levels0_below : List Int32} {v_search_levels0_face : List Int32} {v_search_levels0_worn : List Int32} {v_search_levels0_last : List Int32} {v_search_levels1_rows : Int32} {v_search_levels1_cols : Int32} {v_search_levels1_high : Int32} {v_search_levels1_wide : Int32} {v_search_levels1_folds : Int32} {v_search_levels1_wrong : Int32} {v_search_levels1_more : Int32} {v_search_levels1_rowOf : List Int32} {v_search_levels1_colOf : List Int32} {v_search_levels1_below : List Int32} {v_search_levels1_face : List Int32} {v_search_levels1_worn : List Int32} {v_search_levels1_last : List Int32} {v_search_levels1_bend : List Int32} {v_search_levels1_tall : List Int32} {v_search_levels2_rows : Int32} {v_search_levels2_cols : Int32} {v_search_levels2_high : Int32} {v_search_levels2_wide : Int32} {v_search_levels2_folds : Int32} {v_search_levels2_wrong : Int32} {v_search_levels2_more : Int32} {v_search_levels2_rowOf : List Int32} {v_search_levels2_colOf : List Int32} {v_search_levels2_below : List Int32} {v_search_levels2_face : List Int32} {v_search_levels2_worn : List Int32} {v_search_levels2_last : List Int32} {v_search_levels2_bend : List Int32} {v_search_levels2_tall : List Int32} {v_search_levels3_rows : Int32} {v_search_levels3_cols : Int32} {v_search_levels3_high : Int32} {v_search_levels3_wide : Int32} {v_search_levels3_folds : Int32} {v_search_levels3_wrong : Int32} {v_search_levels3_more : Int32} {v_search_levels3_rowOf : List Int32} {v_search_levels3_colOf : List Int32} {v_search_levels3_below : List Int32} {v_search_levels3_face : List Int32} {v_search_levels3_worn : List Int32} {v_search_levels3_last : List Int32} {v_search_levels3_bend : List Int32} {v_search_levels3_tall : List Int32} {v_search_path : List Int32} {v_search_best : List Int32} {v_changes_value : Int32} {v_now_bend : List Int32} {v_now_tall : List Int32} {v_wearing_size : Int32} {v_wearing_draftCount : Int32} {v_wearing_tape : List Int32} {v_wearing_draft : List Int32} {v_search_levels0_bend : List Int32} {v_search_levels0_tall : List Int32} (g_0 : gi_sh v_now_rows v_now_cols v_now_high v_now_wide v_now_rowOf v_now_colOf v_now_below v_now_face v_now_worn v_now_last v_now_bend v_now_tall) (g_1 : gi_la v_wearing_size v_wearing_stepCount v_wearing_draftCount v_wearing_tape v_wearing_steps v_wearing_draft v_wearing_stack) (g_2 : gi_se v_search_folds v_search_path v_search_best) (g_3 : gi_sh v_search_levels0_rows v_search_levels0_cols v_search_levels0_high v_search_levels0_wide v_search_levels0_rowOf v_search_levels0_colOf v_search_levels0_below v_search_levels0_face v_search_levels0_worn v_search_levels0_last v_search_levels0_bend v_search_levels0_tall) (g_4 : gi_sh v_search_levels1_rows v_search_levels1_cols v_search_levels1_high v_search_levels1_wide v_search_levels1_rowOf v_search_levels1_colOf v_search_levels1_below v_search_levels1_face v_search_levels1_worn v_search_levels1_last v_search_levels1_bend v_search_levels1_tall) (g_5 : gi_sh v_search_levels2_rows v_search_levels2_cols v_search_levels2_high v_search_levels2_wide v_search_levels2_rowOf v_search_levels2_colOf v_search_levels2_below v_search_levels2_face v_search_levels2_worn v_search_levels2_last v_search_levels2_bend v_search_levels2_tall) (g_6 : gi_sh v_search_levels3_rows v_search_levels3_cols v_search_levels3_high v_search_levels3_wide v_search_levels3_rowOf v_search_levels3_colOf v_search_levels3_below v_search_levels3_face v_search_levels3_worn v_search_levels3_last v_search_levels3_bend v_search_levels3_tall) : wp (fX8_right 700 x1 v_now_rows v_now_cols v_now_high v_now_wide v_now_folds v_now_wrong v_now_more v_now_rowOf v_now_colOf v_now_below v_now_face v_now_worn v_now_last v_wearing_stepCount v_wearing_stacked v_wearing_steps v_wearing_stack v_search_found v_search_wrong v_search_more v_search_folds v_search_wanted v_search_levels0_rows v_search_levels0_cols v_search_levels0_high v_search_levels0_wide v_search_levels0_folds v_search_levels0_wrong v_search_levels0_more v_search_levels0_rowOf v_search_levels0_colOf v_search_levels0_below v_search_levels0_face v_search_levels0_worn v_search_levels0_last v_search_levels1_rows v_search_levels1_cols v_search_levels1_high v_search_levels1_wide v_search_levels1_folds v_search_levels1_wrong v_search_levels1_more v_search_levels1_rowOf v_search_levels1_colOf v_search_levels1_below v_search_levels1_face v_search_levels1_worn v_search_levels1_last v_search_levels1_bend v_search_levels1_tall v_search_levels2_rows v_search_levels2_cols v_search_levels2_high v_search_levels2_wide v_search_levels2_folds v_search_levels2_wrong v_search_levels2_more v_search_levels2_rowOf v_search_levels2_colOf v_search_levels2_below v_search_levels2_face v_search_levels2_worn v_search_levels2_last v_search_levels2_bend v_search_levels2_tall v_search_levels3_rows v_search_levels3_cols v_search_levels3_high v_search_levels3_wide v_search_levels3_folds v_search_levels3_wrong v_search_levels3_more v_search_levels3_rowOf v_search_levels3_colOf v_search_levels3_below v_search_levels3_face v_search_levels3_worn v_search_levels3_last v_search_levels3_bend v_search_levels3_tall v_search_path v_search_best v_changes_value) (cu68 (fun (r : Int32) (wv_wearing_stacked : Int32) (wv_wearing_stack : List Int32) (wv_search_found : Bool) (wv_search_wrong : Int32) (wv_search_more : Int32) (wv_search_folds : Int32) (wv_search_wanted : Int32) (wv_search_levels0_rows : Int32) (wv_search_levels0_cols : Int32) (wv_search_levels0_high : Int32) (wv_search_levels0_wide : Int32) (wv_search_levels0_folds : Int32) (wv_search_levels0_wrong : Int32) (wv_search_levels0_more : Int32) (wv_search_levels0_rowOf : List Int32) (wv_search_levels0_colOf : List Int32) (wv_search_levels0_below : List Int32) (wv_search_levels0_face : List Int32) (wv_search_levels0_worn : List Int32) (wv_search_levels0_last : List Int32) (wv_search_levels1_rows : Int32) (wv_search_levels1_cols : Int32) (wv_search_levels1_high : Int32) (wv_search_levels1_wide : Int32) (wv_search_levels1_folds : Int32) (wv_search_levels1_wrong : Int32) (wv_search_levels1_more : Int32) (wv_search_levels1_rowOf : List Int32) (wv_search_levels1_colOf : List Int32) (wv_search_levels1_below : List Int32) (wv_search_levels1_face : List Int32) (wv_search_levels1_worn : List Int32) (wv_search_levels1_last : List Int32) (wv_search_levels1_bend : List Int32) (wv_search_levels1_tall : List Int32) (wv_search_levels2_rows : Int32) (wv_search_levels2_cols : Int32) (wv_search_levels2_high : Int32) (wv_search_levels2_wide : Int32) (wv_search_levels2_folds : Int32) (wv_search_levels2_wrong : Int32) (wv_search_levels2_more : Int32) (wv_search_levels2_rowOf : List Int32) (wv_search_levels2_colOf : List Int32) (wv_search_levels2_below : List Int32) (wv_search_levels2_face : List Int32) (wv_search_levels2_worn : List Int32) (wv_search_levels2_last : List Int32) (wv_search_levels2_bend : List Int32) (wv_search_levels2_tall : List Int32) (wv_search_levels3_rows : Int32) (wv_search_levels3_cols : Int32) (wv_search_levels3_high : Int32) (wv_search_levels3_wide : Int32) (wv_search_levels3_folds : Int32) (wv_search_levels3_wrong : Int32) (wv_search_levels3_more : Int32) (wv_search_levels3_rowOf : List Int32) (wv_search_levels3_colOf : List Int32) (wv_search_levels3_below : List Int32) (wv_search_levels3_face : List Int32) (wv_search_levels3_worn : List Int32) (wv_search_levels3_last : List Int32) (wv_search_levels3_bend : List Int32) (wv_search_levels3_tall : List Int32) (wv_search_path : List Int32) (wv_search_best : List Int32) => gi_la v_wearing_size v_wearing_stepCount v_wearing_draftCount v_wearing_tape v_wearing_steps v_wearing_draft wv_wearing_stack ∧ gi_se wv_search_folds wv_search_path wv_search_best ∧ gi_sh wv_search_levels0_rows wv_search_levels0_cols wv_search_levels0_high wv_search_levels0_wide wv_search_levels0_rowOf wv_search_levels0_colOf wv_search_levels0_below wv_search_levels0_face wv_search_levels0_worn wv_search_levels0_last v_search_levels0_bend v_search_levels0_tall ∧ gi_sh wv_search_levels1_rows wv_search_levels1_cols wv_search_levels1_high wv_search_levels1_wide wv_search_levels1_rowOf wv_search_levels1_colOf wv_search_levels1_below wv_search_levels1_face wv_search_levels1_worn wv_search_levels1_last wv_search_levels1_bend wv_search_levels1_tall ∧ gi_sh wv_search_levels2_rows wv_search_levels2_cols wv_search_levels2_high wv_search_levels2_wide wv_search_levels2_rowOf wv_search_levels2_colOf wv_search_levels2_below wv_search_levels2_face wv_search_levels2_worn wv_search_levels2_last wv_search_levels2_bend wv_search_levels2_tall ∧ gi_sh wv_search_levels3_rows wv_search_levels3_cols wv_search_levels3_high wv_search_levels3_wide wv_search_levels3_rowOf wv_search_levels3_colOf wv_search_levels3_below wv_search_levels3_face wv_search_levels3_worn wv_search_levels3_last wv_search_levels3_bend wv_search_levels3_tall)) := by
  obtain ⟨a_0_0, a_0_1, a_0_2, a_0_3, a_0_4, a_0_5, a_0_6, a_0_7, a_0_8, a_0_9, a_0_10, a_0_11, a_0_12, a_0_13, a_0_14, a_0_15, a_0_16, a_0_17⟩ := id g_0
  obtain ⟨a_1_0, a_1_1, a_1_2, a_1_3, a_1_4, a_1_5, a_1_6, a_1_7, a_1_8, a_1_9⟩ := id g_1
  obtain ⟨a_2_0, a_2_1, a_2_2, a_2_3⟩ := id g_2
  obtain ⟨a_3_0, a_3_1, a_3_2, a_3_3, a_3_4, a_3_5, a_3_6, a_3_7, a_3_8, a_3_9, a_3_10, a_3_11, a_3_12, a_3_13, a_3_14, a_3_15, a_3_16, a_3_17⟩ := id g_3
  obtain ⟨a_4_0, a_4_1, a_4_2, a_4_3, a_4_4, a_4_5, a_4_6, a_4_7, a_4_8, a_4_9, a_4_10, a_4_11, a_4_12, a_4_13, a_4_14, a_4_15, a_4_16, a_4_17⟩ := id g_4
  obtain ⟨a_5_0, a_5_1, a_5_2, a_5_3, a_5_4, a_5_5, a_5_6, a_5_7, a_5_8, a_5_9, a_5_10, a_5_11, a_5_12, a_5_13, a_5_14, a_5_15, a_5_16, a_5_17⟩ := id g_5
  obtain ⟨a_6_0, a_6_1, a_6_2, a_6_3, a_6_4, a_6_5, a_6_6, a_6_7, a_6_8, a_6_9, a_6_10, a_6_11, a_6_12, a_6_13, a_6_14, a_6_15, a_6_16, a_6_17⟩ := id g_6
  refine wp_cu68 (sf_X8_right (Nat.le_refl 700) a_0_0 a_0_1 a_0_2 a_0_3 a_0_4 a_0_5 a_0_6 a_0_7 a_0_8 a_0_9 a_0_10 a_0_11 a_0_12 a_0_13 a_0_16 a_0_17 a_1_2 a_1_3 a_1_7 a_1_9 a_2_0 a_2_1 a_2_2 a_2_3 a_3_0 a_3_1 a_3_2 a_3_3 a_3_4 a_3_5 a_3_6 a_3_7 a_3_8 a_3_9 a_3_10 a_3_11 a_3_12 a_3_13 a_3_16 a_3_17 a_4_0 a_4_1 a_4_2 a_4_3 a_4_4 a_4_5 a_4_6 a_4_7 a_4_8 a_4_9 a_4_10 a_4_11 a_4_12 a_4_13 a_4_14 a_4_15 a_4_16 a_4_17 a_5_0 a_5_1 a_5_2 a_5_3 a_5_4 a_5_5 a_5_6 a_5_7 a_5_8 a_5_9 a_5_10 a_5_11 a_5_12 a_5_13 a_5_14 a_5_15 a_5_16 a_5_17 a_6_0 a_6_1 a_6_2 a_6_3 a_6_4 a_6_5 a_6_6 a_6_7 a_6_8 a_6_9 a_6_10 a_6_11 a_6_12 a_6_13 a_6_14 a_6_15 a_6_16 a_6_17) (fun r wv_wearing_stacked wv_wearing_stack wv_search_found wv_search_wrong wv_search_more wv_search_folds wv_search_wanted wv_search_levels0_rows wv_search_levels0_cols wv_search_levels0_high wv_search_levels0_wide wv_search_levels0_folds wv_search_levels0_wrong wv_search_levels0_more wv_search_levels0_rowOf wv_search_levels0_colOf wv_search_levels0_below wv_search_levels0_face wv_search_levels0_worn wv_search_levels0_last wv_search_levels1_rows wv_search_levels1_cols wv_search_levels1_high wv_search_levels1_wide wv_search_levels1_folds wv_search_levels1_wrong wv_search_levels1_more wv_search_levels1_rowOf wv_search_levels1_colOf wv_search_levels1_below wv_search_levels1_face wv_search_levels1_worn wv_search_levels1_last wv_search_levels1_bend wv_search_levels1_tall wv_search_levels2_rows wv_search_levels2_cols wv_search_levels2_high wv_search_levels2_wide wv_search_levels2_folds wv_search_levels2_wrong wv_search_levels2_more wv_search_levels2_rowOf wv_search_levels2_colOf wv_search_levels2_below wv_search_levels2_face wv_search_levels2_worn wv_search_levels2_last wv_search_levels2_bend wv_search_levels2_tall wv_search_levels3_rows wv_search_levels3_cols wv_search_levels3_high wv_search_levels3_wide wv_search_levels3_folds wv_search_levels3_wrong wv_search_levels3_more wv_search_levels3_rowOf wv_search_levels3_colOf wv_search_levels3_below wv_search_levels3_face wv_search_levels3_worn wv_search_levels3_last wv_search_levels3_bend wv_search_levels3_tall wv_search_path wv_search_best ⟨q_0, q_1, q_2, q_3, q_4, q_5, q_6, q_7, q_8, q_9, q_10, q_11, q_12, q_13, q_14, q_15, q_16, q_17, q_18, q_19, q_20, q_21, q_22, q_23, q_24, q_25, q_26, q_27, q_28, q_29, q_30, q_31, q_32, q_33, q_34, q_35, q_36, q_37, q_38, q_39, q_40, q_41, q_42, q_43, q_44, q_45, q_46, q_47, q_48, q_49, q_50, q_51, q_52, q_53, q_54, q_55, q_56, q_57, q_58, q_59, q_60, q_61, q_62, q_63, q_64, q_65, q_66, q_67, q_68, q_69, q_70, q_71, q_72, q_73, q_74⟩ => ?_)
  exact ⟨⟨a_1_0, a_1_1, a_1_2, a_1_3, a_1_4, a_1_5, a_1_6, a_1_7, a_1_8, q_0⟩, ⟨q_1, q_2, q_3, q_4⟩, ⟨q_5, q_6, q_7, q_8, q_9, q_10, q_11, q_12, q_13, q_14, q_15, q_16, q_17, q_18, a_3_14, a_3_15, q_19, q_20⟩, ⟨q_21, q_22, q_23, q_24, q_25, q_26, q_27, q_28, q_29, q_30, q_31, q_32, q_33, q_34, q_35, q_36, q_37, q_38⟩, ⟨q_39, q_40, q_41, q_42, q_43, q_44, q_45, q_46, q_47, q_48, q_49, q_50, q_51, q_52, q_53, q_54, q_55, q_56⟩, ⟨q_57, q_58, q_59, q_60, q_61, q_62, q_63, q_64, q_65, q_66, q_67, q_68, q_69, q_70, q_71, q_72, q_73, q_74⟩⟩
set_option maxHeartbeats 4000000 in
set_option maxRecDepth 20000 in
theorem st8_wind {x1 : Int32} {x2 : Int32} {x3 : Int32} {v_now_rows : Int32} {v_now_cols : Int32} {v_now_high : Int32} {v_now_wide : Int32} {v_now_folds : Int32} {v_now_wrong : Int32} {v_now_more : Int32} {v_now_rowOf : List Int32} {v_now_colOf : List Int32} {v_now_below : List Int32} {v_now_face : List Int32} {v_now_worn : List Int32} {v_now_last : List Int32} {v_wearing_stepCount : Int32} {v_wearing_stacked : Int32} {v_wearing_steps : List Int32} {v_wearing_stack : List Int32} {v_planned_size : Int32} {v_planned_trial_rows : Int32} {v_planned_trial_cols : Int32} {v_planned_trial_high : Int32} {v_planned_trial_wide : Int32} {v_planned_trial_folds : Int32} {v_planned_trial_wrong : Int32} {v_planned_trial_more : Int32} {v_planned_trial_rowOf : List Int32} {v_planned_trial_colOf : List Int32} {v_planned_trial_below : List Int32} {v_planned_trial_face : List Int32} {v_planned_trial_worn : List Int32} {v_planned_trial_last : List Int32} {v_planned_trial_bend : List Int32} {v_planned_trial_tall : List Int32} {v_planned_lines : List Int32} {v_planned_ways : List Int32} {v_changes_value : Int32} {v_now_bend : List Int32} {v_now_tall : List Int32} {v_wearing_size : Int32} {v_wearing_draftCount : Int32} {v_wearing_tape : List Int32} {v_wearing_draft : List Int32} (g_0 : gi_sh v_now_rows v_now_cols v_now_high v_now_wide v_now_rowOf v_now_colOf v_now_below v_now_face v_now_worn v_now_last v_now_bend v_now_tall) (g_1 : gi_la v_wearing_size v_wearing_stepCount v_wearing_draftCount v_wearing_tape v_wearing_steps v_wearing_draft v_wearing_stack) (g_2 : gi_pl v_planned_size v_planned_lines v_planned_ways) (g_3 : gi_sh v_planned_trial_rows v_planned_trial_cols v_planned_trial_high v_planned_trial_wide v_planned_trial_rowOf v_planned_trial_colOf v_planned_trial_below v_planned_trial_face v_planned_trial_worn v_planned_trial_last v_planned_trial_bend v_planned_trial_tall) : wp (fX8_wind 700 x1 x2 x3 v_now_rows v_now_cols v_now_high v_now_wide v_now_folds v_now_wrong v_now_more v_now_rowOf v_now_colOf v_now_below v_now_face v_now_worn v_now_last v_wearing_stepCount v_wearing_stacked v_wearing_steps v_wearing_stack v_planned_size v_planned_trial_rows v_planned_trial_cols v_planned_trial_high v_planned_trial_wide v_planned_trial_folds v_planned_trial_wrong v_planned_trial_more v_planned_trial_rowOf v_planned_trial_colOf v_planned_trial_below v_planned_trial_face v_planned_trial_worn v_planned_trial_last v_planned_trial_bend v_planned_trial_tall v_planned_lines v_planned_ways v_changes_value) (cu18 (fun (r : Int32) (wv_wearing_stacked : Int32) (wv_wearing_stack : List Int32) (wv_planned_trial_rows : Int32) (wv_planned_trial_cols : Int32) (wv_planned_trial_high : Int32) (wv_planned_trial_wide : Int32) (wv_planned_trial_folds : Int32) (wv_planned_trial_wrong : Int32) (wv_planned_trial_more : Int32) (wv_planned_trial_rowOf : List Int32) (wv_planned_trial_colOf : List Int32) (wv_planned_trial_below : List Int32) (wv_planned_trial_face : List Int32) (wv_planned_trial_worn : List Int32) (wv_planned_trial_last : List Int32) (wv_planned_trial_bend : List Int32) (wv_planned_trial_tall : List Int32) => gi_la v_wearing_size v_wearing_stepCount v_wearing_draftCount v_wearing_tape v_wearing_steps v_wearing_draft wv_wearing_stack ∧ gi_sh wv_planned_trial_rows wv_planned_trial_cols wv_planned_trial_high wv_planned_trial_wide wv_planned_trial_rowOf wv_planned_trial_colOf wv_planned_trial_below wv_planned_trial_face wv_planned_trial_worn wv_planned_trial_last wv_planned_trial_bend wv_planned_trial_tall)) := by
  obtain ⟨a_0_0, a_0_1, a_0_2, a_0_3, a_0_4, a_0_5, a_0_6, a_0_7, a_0_8, a_0_9, a_0_10, a_0_11, a_0_12, a_0_13, a_0_14, a_0_15, a_0_16, a_0_17⟩ := id g_0
  obtain ⟨a_1_0, a_1_1, a_1_2, a_1_3, a_1_4, a_1_5, a_1_6, a_1_7, a_1_8, a_1_9⟩ := id g_1
  obtain ⟨a_2_0, a_2_1, a_2_2, a_2_3⟩ := id g_2
  obtain ⟨a_3_0, a_3_1, a_3_2, a_3_3, a_3_4, a_3_5, a_3_6, a_3_7, a_3_8, a_3_9, a_3_10, a_3_11, a_3_12, a_3_13, a_3_14, a_3_15, a_3_16, a_3_17⟩ := id g_3
  refine wp_cu18 (sf_X8_wind (Nat.le_refl 700) a_0_0 a_0_1 a_0_2 a_0_3 a_0_4 a_0_5 a_0_6 a_0_7 a_0_8 a_0_9 a_0_10 a_0_11 a_0_12 a_0_13 a_0_16 a_0_17 a_1_2 a_1_3 a_1_7 a_1_9 a_2_0 a_2_1 a_2_2 a_2_3 a_3_0 a_3_1 a_3_2 a_3_3 a_3_4 a_3_5 a_3_6 a_3_7 a_3_8 a_3_9 a_3_10 a_3_11 a_3_12 a_3_13 a_3_14 a_3_15 a_3_16 a_3_17) (fun r wv_wearing_stacked wv_wearing_stack wv_planned_trial_rows wv_planned_trial_cols wv_planned_trial_high wv_planned_trial_wide wv_planned_trial_folds wv_planned_trial_wrong wv_planned_trial_more wv_planned_trial_rowOf wv_planned_trial_colOf wv_planned_trial_below wv_planned_trial_face wv_planned_trial_worn wv_planned_trial_last wv_planned_trial_bend wv_planned_trial_tall ⟨q_0, q_1, q_2, q_3, q_4, q_5, q_6, q_7, q_8, q_9, q_10, q_11, q_12, q_13, q_14, q_15, q_16, q_17, q_18⟩ => ?_)
  exact ⟨⟨a_1_0, a_1_1, a_1_2, a_1_3, a_1_4, a_1_5, a_1_6, a_1_7, a_1_8, q_0⟩, ⟨q_1, q_2, q_3, q_4, q_5, q_6, q_7, q_8, q_9, q_10, q_11, q_12, q_13, q_14, q_15, q_16, q_17, q_18⟩⟩
set_option maxHeartbeats 4000000 in
set_option maxRecDepth 20000 in
theorem st8_crosses {x1 : Int32} {x2 : Int32} {v_strip_at : List Int32} {v_strip_list : List Int32} {v_strip_found : List Int32} (g_0 : gi_st v_strip_at v_strip_list v_strip_found) : wp (fX8_crosses 700 x1 x2 v_strip_at) (cu2 (fun (r : Int32) (wv_strip_at : List Int32) => gi_st wv_strip_at v_strip_list v_strip_found)) := by
  obtain ⟨a_0_0, a_0_1, a_0_2, a_0_3⟩ := id g_0
  refine wp_cu2 (sf_X8_crosses (Nat.le_refl 700) a_0_0) (fun r wv_strip_at q_0 => ?_)
  exact ⟨q_0, a_0_1, a_0_2, a_0_3⟩
set_option maxHeartbeats 4000000 in
set_option maxRecDepth 20000 in
theorem st8_orders {x1 : Int32} {x2 : Int32} {v_strip_list : List Int32} {v_strip_found : List Int32} {v_strip_at : List Int32} (g_0 : gi_st v_strip_at v_strip_list v_strip_found) : wp (fX8_orders 700 x1 x2 v_strip_list v_strip_found v_strip_at) (cu4 (fun (r : Int32) (wv_strip_list : List Int32) (wv_strip_found : List Int32) (wv_strip_at : List Int32) => gi_st wv_strip_at wv_strip_list wv_strip_found)) := by
  obtain ⟨a_0_0, a_0_1, a_0_2, a_0_3⟩ := id g_0
  refine wp_cu4 (sf_X8_orders (Nat.le_refl 700) a_0_1 a_0_2 a_0_0 a_0_3) (fun r wv_strip_list wv_strip_found wv_strip_at ⟨q_0, q_1, q_2, q_3⟩ => ?_)
  exact ⟨q_2, q_0, q_1, q_3⟩
set_option maxHeartbeats 4000000 in
set_option maxRecDepth 20000 in
theorem st8_bends {x1 : Int32} {x2 : Int32} {v_strip_at : List Int32} {v_strip_list : List Int32} {v_strip_found : List Int32} (g_0 : gi_st v_strip_at v_strip_list v_strip_found) : wp (fX8_bends 700 x1 x2 v_strip_at) (cu2 (fun (r : Int32) (wv_strip_at : List Int32) => gi_st wv_strip_at v_strip_list v_strip_found)) := by
  obtain ⟨a_0_0, a_0_1, a_0_2, a_0_3⟩ := id g_0
  refine wp_cu2 (sf_X8_bends (Nat.le_refl 700) a_0_0) (fun r wv_strip_at q_0 => ?_)
  exact ⟨q_0, a_0_1, a_0_2, a_0_3⟩
set_option maxHeartbeats 4000000 in
set_option maxRecDepth 20000 in
theorem st8_by {x1 : Int32} {x2 : Int32} {x3 : Int32} {v_strip_list : List Int32} {v_strip_found : List Int32} {v_strip_at : List Int32} (g_0 : gi_st v_strip_at v_strip_list v_strip_found) : wp (fX8_by 700 x1 x2 x3 v_strip_list v_strip_found v_strip_at) (cu4 (fun (r : Int32) (wv_strip_list : List Int32) (wv_strip_found : List Int32) (wv_strip_at : List Int32) => gi_st wv_strip_at wv_strip_list wv_strip_found)) := by
  obtain ⟨a_0_0, a_0_1, a_0_2, a_0_3⟩ := id g_0
  refine wp_cu4 (sf_X8_by (Nat.le_refl 700) a_0_1 a_0_2 a_0_0 a_0_3) (fun r wv_strip_list wv_strip_found wv_strip_at ⟨q_0, q_1, q_2, q_3⟩ => ?_)
  exact ⟨q_2, q_0, q_1, q_3⟩
set_option maxHeartbeats 4000000 in
set_option maxRecDepth 20000 in
theorem st8_with {x1 : Int32} {x2 : Int32} {v_strip_list : List Int32} {v_strip_found : List Int32} {v_strip_at : List Int32} (g_0 : gi_st v_strip_at v_strip_list v_strip_found) : wp (fX8_with 700 x1 x2 v_strip_list v_strip_found v_strip_at) (cu4 (fun (r : Int32) (wv_strip_list : List Int32) (wv_strip_found : List Int32) (wv_strip_at : List Int32) => gi_st wv_strip_at wv_strip_list wv_strip_found)) := by
  obtain ⟨a_0_0, a_0_1, a_0_2, a_0_3⟩ := id g_0
  refine wp_cu4 (sf_X8_with (Nat.le_refl 700) a_0_1 a_0_2 a_0_0 a_0_3) (fun r wv_strip_list wv_strip_found wv_strip_at ⟨q_0, q_1, q_2, q_3⟩ => ?_)
  exact ⟨q_2, q_0, q_1, q_3⟩
set_option maxHeartbeats 4000000 in
set_option maxRecDepth 20000 in
theorem st8_image {v_hasImage : Bool} {v_now_rows : Int32} {v_now_cols : Int32} {v_now_high : Int32} {v_now_wide : Int32} {v_now_folds : Int32} {v_now_wrong : Int32} {v_now_more : Int32} {v_now_rowOf : List Int32} {v_now_colOf : List Int32} {v_now_below : List Int32} {v_now_face : List Int32} {v_now_worn : List Int32} {v_now_last : List Int32} {v_kept_rows : Int32} {v_kept_cols : Int32} {v_kept_high : Int32} {v_kept_wide : Int32} {v_kept_folds : Int32} {v_kept_wrong : Int32} {v_kept_more : Int32} {v_kept_rowOf : List Int32} {v_kept_colOf : List Int32} {v_kept_below : List Int32} {v_kept_face : List Int32} {v_kept_worn : List Int32} {v_kept_last : List Int32} {v_now_bend : List Int32} {v_now_tall : List Int32} {v_kept_bend : List Int32} {v_kept_tall : List Int32} (g_0 : gi_sh v_now_rows v_now_cols v_now_high v_now_wide v_now_rowOf v_now_colOf v_now_below v_now_face v_now_worn v_now_last v_now_bend v_now_tall) (g_1 : gi_sh v_kept_rows v_kept_cols v_kept_high v_kept_wide v_kept_rowOf v_kept_colOf v_kept_below v_kept_face v_kept_worn v_kept_last v_kept_bend v_kept_tall) : wp (fX8_image 700 v_hasImage v_now_rows v_now_cols v_now_high v_now_wide v_now_folds v_now_wrong v_now_more v_now_rowOf v_now_colOf v_now_below v_now_face v_now_worn v_now_last v_kept_rows v_kept_cols v_kept_high v_kept_wide v_kept_folds v_kept_wrong v_kept_more v_kept_rowOf v_kept_colOf v_kept_below v_kept_face v_kept_worn v_kept_last) (cu15 (fun (r : Int32) (wv_hasImage : Bool) (wv_kept_rows : Int32) (wv_kept_cols : Int32) (wv_kept_high : Int32) (wv_kept_wide : Int32) (wv_kept_folds : Int32) (wv_kept_wrong : Int32) (wv_kept_more : Int32) (wv_kept_rowOf : List Int32) (wv_kept_colOf : List Int32) (wv_kept_below : List Int32) (wv_kept_face : List Int32) (wv_kept_worn : List Int32) (wv_kept_last : List Int32) => gi_sh wv_kept_rows wv_kept_cols wv_kept_high wv_kept_wide wv_kept_rowOf wv_kept_colOf wv_kept_below wv_kept_face wv_kept_worn wv_kept_last v_kept_bend v_kept_tall)) := by
  obtain ⟨a_0_0, a_0_1, a_0_2, a_0_3, a_0_4, a_0_5, a_0_6, a_0_7, a_0_8, a_0_9, a_0_10, a_0_11, a_0_12, a_0_13, a_0_14, a_0_15, a_0_16, a_0_17⟩ := id g_0
  obtain ⟨a_1_0, a_1_1, a_1_2, a_1_3, a_1_4, a_1_5, a_1_6, a_1_7, a_1_8, a_1_9, a_1_10, a_1_11, a_1_12, a_1_13, a_1_14, a_1_15, a_1_16, a_1_17⟩ := id g_1
  refine wp_cu15 (sf_X8_image (Nat.le_refl 700) a_0_0 a_0_1 a_0_2 a_0_3 a_0_4 a_0_5 a_0_6 a_0_7 a_0_8 a_0_9 a_0_10 a_0_11 a_0_12 a_0_13 a_0_16 a_0_17 a_1_0 a_1_1 a_1_2 a_1_3 a_1_4 a_1_5 a_1_6 a_1_7 a_1_8 a_1_9 a_1_10 a_1_11 a_1_12 a_1_13 a_1_16 a_1_17) (fun r wv_hasImage wv_kept_rows wv_kept_cols wv_kept_high wv_kept_wide wv_kept_folds wv_kept_wrong wv_kept_more wv_kept_rowOf wv_kept_colOf wv_kept_below wv_kept_face wv_kept_worn wv_kept_last ⟨q_0, q_1, q_2, q_3, q_4, q_5, q_6, q_7, q_8, q_9, q_10, q_11, q_12, q_13, q_14, q_15⟩ => ?_)
  exact ⟨q_0, q_1, q_2, q_3, q_4, q_5, q_6, q_7, q_8, q_9, q_10, q_11, q_12, q_13, a_1_14, a_1_15, q_14, q_15⟩
set_option maxHeartbeats 4000000 in
set_option maxRecDepth 20000 in
theorem st8_back {v_hasImage : Bool} {v_now_rows : Int32} {v_now_cols : Int32} {v_now_high : Int32} {v_now_wide : Int32} {v_now_folds : Int32} {v_now_wrong : Int32} {v_now_more : Int32} {v_now_rowOf : List Int32} {v_now_colOf : List Int32} {v_now_below : List Int32} {v_now_face : List Int32} {v_now_worn : List Int32} {v_now_last : List Int32} {v_kept_rows : Int32} {v_kept_cols : Int32} {v_kept_high : Int32} {v_kept_wide : Int32} {v_kept_folds : Int32} {v_kept_wrong : Int32} {v_kept_more : Int32} {v_kept_rowOf : List Int32} {v_kept_colOf : List Int32} {v_kept_below : List Int32} {v_kept_face : List Int32} {v_kept_worn : List Int32} {v_kept_last : List Int32} {v_now_bend : List Int32} {v_now_tall : List Int32} {v_kept_bend : List Int32} {v_kept_tall : List Int32} (g_0 : gi_sh v_now_rows v_now_cols v_now_high v_now_wide v_now_rowOf v_now_colOf v_now_below v_now_face v_now_worn v_now_last v_now_bend v_now_tall) (g_1 : gi_sh v_kept_rows v_kept_cols v_kept_high v_kept_wide v_kept_rowOf v_kept_colOf v_kept_below v_kept_face v_kept_worn v_kept_last v_kept_bend v_kept_tall) : wp (fX8_back 700 v_hasImage v_now_rows v_now_cols v_now_high v_now_wide v_now_folds v_now_wrong v_now_more v_now_rowOf v_now_colOf v_now_below v_now_face v_now_worn v_now_last v_kept_rows v_kept_cols v_kept_high v_kept_wide v_kept_folds v_kept_wrong v_kept_more v_kept_rowOf v_kept_colOf v_kept_below v_kept_face v_kept_worn v_kept_last) (cu14 (fun (r : Int32) (wv_now_rows : Int32) (wv_now_cols : Int32) (wv_now_high : Int32) (wv_now_wide : Int32) (wv_now_folds : Int32) (wv_now_wrong : Int32) (wv_now_more : Int32) (wv_now_rowOf : List Int32) (wv_now_colOf : List Int32) (wv_now_below : List Int32) (wv_now_face : List Int32) (wv_now_worn : List Int32) (wv_now_last : List Int32) => gi_sh wv_now_rows wv_now_cols wv_now_high wv_now_wide wv_now_rowOf wv_now_colOf wv_now_below wv_now_face wv_now_worn wv_now_last v_now_bend v_now_tall)) := by
  obtain ⟨a_0_0, a_0_1, a_0_2, a_0_3, a_0_4, a_0_5, a_0_6, a_0_7, a_0_8, a_0_9, a_0_10, a_0_11, a_0_12, a_0_13, a_0_14, a_0_15, a_0_16, a_0_17⟩ := id g_0
  obtain ⟨a_1_0, a_1_1, a_1_2, a_1_3, a_1_4, a_1_5, a_1_6, a_1_7, a_1_8, a_1_9, a_1_10, a_1_11, a_1_12, a_1_13, a_1_14, a_1_15, a_1_16, a_1_17⟩ := id g_1
  refine wp_cu14 (sf_X8_back (Nat.le_refl 700) a_0_0 a_0_1 a_0_2 a_0_3 a_0_4 a_0_5 a_0_6 a_0_7 a_0_8 a_0_9 a_0_10 a_0_11 a_0_12 a_0_13 a_0_16 a_0_17 a_1_0 a_1_1 a_1_2 a_1_3 a_1_4 a_1_5 a_1_6 a_1_7 a_1_8 a_1_9 a_1_10 a_1_11 a_1_12 a_1_13 a_1_16 a_1_17) (fun r wv_now_rows wv_now_cols wv_now_high wv_now_wide wv_now_folds wv_now_wrong wv_now_more wv_now_rowOf wv_now_colOf wv_now_below wv_now_face wv_now_worn wv_now_last ⟨q_0, q_1, q_2, q_3, q_4, q_5, q_6, q_7, q_8, q_9, q_10, q_11, q_12, q_13, q_14, q_15⟩ => ?_)
  exact ⟨q_0, q_1, q_2, q_3, q_4, q_5, q_6, q_7, q_8, q_9, q_10, q_11, q_12, q_13, a_0_14, a_0_15, q_14, q_15⟩
set_option maxHeartbeats 4000000 in
set_option maxRecDepth 20000 in
theorem st8_undo {v_changes_value : Int32} {v_changes_done : Int32} {v_changes_before : List Int32} {v_changes_size : Int32} {v_changes_after : List Int32} (g_0 : gi_ch v_changes_done v_changes_size v_changes_before v_changes_after) : wp (fX8_undo 700 v_changes_value v_changes_done v_changes_before) (cu3 (fun (r : Int32) (wv_changes_value : Int32) (wv_changes_done : Int32) => gi_ch wv_changes_done v_changes_size v_changes_before v_changes_after)) := by
  obtain ⟨a_0_0, a_0_1, a_0_2, a_0_3, a_0_4, a_0_5⟩ := id g_0
  refine wp_cu3 (sf_X8_undo (Nat.le_refl 700) a_0_0 a_0_1 a_0_4) (fun r wv_changes_value wv_changes_done ⟨q_0, q_1⟩ => ?_)
  exact ⟨q_0, q_1, a_0_2, a_0_3, a_0_4, a_0_5⟩
set_option maxHeartbeats 4000000 in
set_option maxRecDepth 20000 in
theorem st8_redo {v_changes_value : Int32} {v_changes_done : Int32} {v_changes_size : Int32} {v_changes_after : List Int32} {v_changes_before : List Int32} (g_0 : gi_ch v_changes_done v_changes_size v_changes_before v_changes_after) : wp (fX8_redo 700 v_changes_value v_changes_done v_changes_size v_changes_after) (cu3 (fun (r : Int32) (wv_changes_value : Int32) (wv_changes_done : Int32) => gi_ch wv_changes_done v_changes_size v_changes_before v_changes_after)) := by
  obtain ⟨a_0_0, a_0_1, a_0_2, a_0_3, a_0_4, a_0_5⟩ := id g_0
  refine wp_cu3 (sf_X8_redo (Nat.le_refl 700) a_0_0 a_0_1 a_0_2 a_0_3 a_0_5) (fun r wv_changes_value wv_changes_done ⟨q_0, q_1⟩ => ?_)
  exact ⟨q_0, q_1, a_0_2, a_0_3, a_0_4, a_0_5⟩
set_option maxHeartbeats 4000000 in
set_option maxRecDepth 20000 in
theorem st8_body {x1 : Int32} {v_foldings_size : Int32} {v_foldings_kinds : List Int32} {v_foldings_trace : List Int32} (g_0 : gi_fo v_foldings_size v_foldings_kinds v_foldings_trace) : wp (fX8_body 700 x1 v_foldings_size v_foldings_kinds) (cu3 (fun (r : Int32) (wv_foldings_size : Int32) (wv_foldings_kinds : List Int32) => gi_fo wv_foldings_size wv_foldings_kinds v_foldings_trace)) := by
  obtain ⟨a_0_0, a_0_1, a_0_2, a_0_3, a_0_4⟩ := id g_0
  refine wp_cu3 (sf_X8_body (Nat.le_refl 700) a_0_0 a_0_1 a_0_2 a_0_4) (fun r wv_foldings_size wv_foldings_kinds ⟨q_0, q_1, q_2, q_3⟩ => ?_)
  exact ⟨q_0, q_1, q_2, a_0_3, q_3⟩
set_option maxHeartbeats 4000000 in
set_option maxRecDepth 20000 in
theorem st8_trace {x1 : Int32} {v_foldings_ran : Int32} {v_foldings_trace : List Int32} {v_foldings_size : Int32} {v_foldings_kinds : List Int32} (g_0 : gi_fo v_foldings_size v_foldings_kinds v_foldings_trace) : wp (fX8_trace 700 x1 v_foldings_ran v_foldings_trace) (fun (r : Int32) => True) := by
  obtain ⟨a_0_0, a_0_1, a_0_2, a_0_3, a_0_4⟩ := id g_0
  refine wp_cu1 (sf_X8_trace (Nat.le_refl 700) a_0_3) (fun r _ => ?_)
  exact trivial
set_option maxHeartbeats 4000000 in
set_option maxRecDepth 20000 in
theorem st8_keep {x1 : Int32} {x2 : Int32} {v_foldings_size : Int32} {v_shelves0_holds : Int32} {v_shelves0_body : Int32} {v_shelves1_holds : Int32} {v_shelves1_body : Int32} {v_shelves2_holds : Int32} {v_shelves2_body : Int32} {v_shelves3_holds : Int32} {v_shelves3_body : Int32} {v_shelves4_holds : Int32} {v_shelves4_body : Int32} {v_shelves5_holds : Int32} {v_shelves5_body : Int32} {v_foldings_kinds : List Int32} {v_foldings_trace : List Int32} (g_0 : gi_fo v_foldings_size v_foldings_kinds v_foldings_trace) : wp (fX8_keep 700 x1 x2 v_foldings_size v_shelves0_holds v_shelves0_body v_shelves1_holds v_shelves1_body v_shelves2_holds v_shelves2_body v_shelves3_holds v_shelves3_body v_shelves4_holds v_shelves4_body v_shelves5_holds v_shelves5_body) (cu13 (fun (r : Int32) (wv_shelves0_holds : Int32) (wv_shelves0_body : Int32) (wv_shelves1_holds : Int32) (wv_shelves1_body : Int32) (wv_shelves2_holds : Int32) (wv_shelves2_body : Int32) (wv_shelves3_holds : Int32) (wv_shelves3_body : Int32) (wv_shelves4_holds : Int32) (wv_shelves4_body : Int32) (wv_shelves5_holds : Int32) (wv_shelves5_body : Int32) => True)) := by
  obtain ⟨a_0_0, a_0_1, a_0_2, a_0_3, a_0_4⟩ := id g_0
  refine wp_cu13 (sf_X8_keep (Nat.le_refl 700) a_0_0 a_0_1) (fun r wv_shelves0_holds wv_shelves0_body wv_shelves1_holds wv_shelves1_body wv_shelves2_holds wv_shelves2_body wv_shelves3_holds wv_shelves3_body wv_shelves4_holds wv_shelves4_body wv_shelves5_holds wv_shelves5_body _ => ?_)
  exact trivial
set_option maxHeartbeats 4000000 in
set_option maxRecDepth 20000 in
theorem st8_row {x1 : Int32} {x2 : Int32} {x3 : Int32} {v_shelves0_holds : Int32} {v_shelves0_sort : Int32} {v_shelves0_size : Int32} {v_shelves0_items : List Int64} {v_shelves1_holds : Int32} {v_shelves1_sort : Int32} {v_shelves1_size : Int32} {v_shelves1_items : List Int64} {v_shelves2_holds : Int32} {v_shelves2_sort : Int32} {v_shelves2_size : Int32} {v_shelves2_items : List Int64} {v_shelves3_holds : Int32} {v_shelves3_sort : Int32} {v_shelves3_size : Int32} {v_shelves3_items : List Int64} {v_shelves4_holds : Int32} {v_shelves4_sort : Int32} {v_shelves4_size : Int32} {v_shelves4_items : List Int64} {v_shelves5_holds : Int32} {v_shelves5_sort : Int32} {v_shelves5_size : Int32} {v_shelves5_items : List Int64} (g_0 : gi_sf v_shelves0_size v_shelves0_items) (g_1 : gi_sf v_shelves1_size v_shelves1_items) (g_2 : gi_sf v_shelves2_size v_shelves2_items) (g_3 : gi_sf v_shelves3_size v_shelves3_items) (g_4 : gi_sf v_shelves4_size v_shelves4_items) (g_5 : gi_sf v_shelves5_size v_shelves5_items) : wp (fX8_row 700 x1 x2 x3 v_shelves0_holds v_shelves0_sort v_shelves0_size v_shelves0_items v_shelves1_holds v_shelves1_sort v_shelves1_size v_shelves1_items v_shelves2_holds v_shelves2_sort v_shelves2_size v_shelves2_items v_shelves3_holds v_shelves3_sort v_shelves3_size v_shelves3_items v_shelves4_holds v_shelves4_sort v_shelves4_size v_shelves4_items v_shelves5_holds v_shelves5_sort v_shelves5_size v_shelves5_items) (cu25 (fun (r : Int32) (wv_shelves0_holds : Int32) (wv_shelves0_sort : Int32) (wv_shelves0_size : Int32) (wv_shelves0_items : List Int64) (wv_shelves1_holds : Int32) (wv_shelves1_sort : Int32) (wv_shelves1_size : Int32) (wv_shelves1_items : List Int64) (wv_shelves2_holds : Int32) (wv_shelves2_sort : Int32) (wv_shelves2_size : Int32) (wv_shelves2_items : List Int64) (wv_shelves3_holds : Int32) (wv_shelves3_sort : Int32) (wv_shelves3_size : Int32) (wv_shelves3_items : List Int64) (wv_shelves4_holds : Int32) (wv_shelves4_sort : Int32) (wv_shelves4_size : Int32) (wv_shelves4_items : List Int64) (wv_shelves5_holds : Int32) (wv_shelves5_sort : Int32) (wv_shelves5_size : Int32) (wv_shelves5_items : List Int64) => gi_sf wv_shelves0_size wv_shelves0_items ∧ gi_sf wv_shelves1_size wv_shelves1_items ∧ gi_sf wv_shelves2_size wv_shelves2_items ∧ gi_sf wv_shelves3_size wv_shelves3_items ∧ gi_sf wv_shelves4_size wv_shelves4_items ∧ gi_sf wv_shelves5_size wv_shelves5_items)) := by
  obtain ⟨a_0_0, a_0_1, a_0_2⟩ := id g_0
  obtain ⟨a_1_0, a_1_1, a_1_2⟩ := id g_1
  obtain ⟨a_2_0, a_2_1, a_2_2⟩ := id g_2
  obtain ⟨a_3_0, a_3_1, a_3_2⟩ := id g_3
  obtain ⟨a_4_0, a_4_1, a_4_2⟩ := id g_4
  obtain ⟨a_5_0, a_5_1, a_5_2⟩ := id g_5
  refine wp_cu25 (sf_X8_row (Nat.le_refl 700) a_0_0 a_0_1 a_0_2 a_1_0 a_1_1 a_1_2 a_2_0 a_2_1 a_2_2 a_3_0 a_3_1 a_3_2 a_4_0 a_4_1 a_4_2 a_5_0 a_5_1 a_5_2) (fun r wv_shelves0_holds wv_shelves0_sort wv_shelves0_size wv_shelves0_items wv_shelves1_holds wv_shelves1_sort wv_shelves1_size wv_shelves1_items wv_shelves2_holds wv_shelves2_sort wv_shelves2_size wv_shelves2_items wv_shelves3_holds wv_shelves3_sort wv_shelves3_size wv_shelves3_items wv_shelves4_holds wv_shelves4_sort wv_shelves4_size wv_shelves4_items wv_shelves5_holds wv_shelves5_sort wv_shelves5_size wv_shelves5_items ⟨q_0, q_1, q_2, q_3, q_4, q_5, q_6, q_7, q_8, q_9, q_10, q_11, q_12, q_13, q_14, q_15, q_16, q_17⟩ => ?_)
  exact ⟨⟨q_0, q_1, q_2⟩, ⟨q_3, q_4, q_5⟩, ⟨q_6, q_7, q_8⟩, ⟨q_9, q_10, q_11⟩, ⟨q_12, q_13, q_14⟩, ⟨q_15, q_16, q_17⟩⟩
set_option maxHeartbeats 4000000 in
set_option maxRecDepth 20000 in
theorem st8_put {x1 : Int32} {x2 : Int32} {x3 : Int64} {v_shelves0_holds : Int32} {v_shelves0_sort : Int32} {v_shelves0_size : Int32} {v_shelves0_items : List Int64} {v_shelves1_holds : Int32} {v_shelves1_sort : Int32} {v_shelves1_size : Int32} {v_shelves1_items : List Int64} {v_shelves2_holds : Int32} {v_shelves2_sort : Int32} {v_shelves2_size : Int32} {v_shelves2_items : List Int64} {v_shelves3_holds : Int32} {v_shelves3_sort : Int32} {v_shelves3_size : Int32} {v_shelves3_items : List Int64} {v_shelves4_holds : Int32} {v_shelves4_sort : Int32} {v_shelves4_size : Int32} {v_shelves4_items : List Int64} {v_shelves5_holds : Int32} {v_shelves5_sort : Int32} {v_shelves5_size : Int32} {v_shelves5_items : List Int64} (g_0 : gi_sf v_shelves0_size v_shelves0_items) (g_1 : gi_sf v_shelves1_size v_shelves1_items) (g_2 : gi_sf v_shelves2_size v_shelves2_items) (g_3 : gi_sf v_shelves3_size v_shelves3_items) (g_4 : gi_sf v_shelves4_size v_shelves4_items) (g_5 : gi_sf v_shelves5_size v_shelves5_items) : wp (fX8_put 700 x1 x2 x3 v_shelves0_holds v_shelves0_sort v_shelves0_size v_shelves0_items v_shelves1_holds v_shelves1_sort v_shelves1_size v_shelves1_items v_shelves2_holds v_shelves2_sort v_shelves2_size v_shelves2_items v_shelves3_holds v_shelves3_sort v_shelves3_size v_shelves3_items v_shelves4_holds v_shelves4_sort v_shelves4_size v_shelves4_items v_shelves5_holds v_shelves5_sort v_shelves5_size v_shelves5_items) (cu7 (fun (r : Int32) (wv_shelves0_items : List Int64) (wv_shelves1_items : List Int64) (wv_shelves2_items : List Int64) (wv_shelves3_items : List Int64) (wv_shelves4_items : List Int64) (wv_shelves5_items : List Int64) => gi_sf v_shelves0_size wv_shelves0_items ∧ gi_sf v_shelves1_size wv_shelves1_items ∧ gi_sf v_shelves2_size wv_shelves2_items ∧ gi_sf v_shelves3_size wv_shelves3_items ∧ gi_sf v_shelves4_size wv_shelves4_items ∧ gi_sf v_shelves5_size wv_shelves5_items)) := by
  obtain ⟨a_0_0, a_0_1, a_0_2⟩ := id g_0
  obtain ⟨a_1_0, a_1_1, a_1_2⟩ := id g_1
  obtain ⟨a_2_0, a_2_1, a_2_2⟩ := id g_2
  obtain ⟨a_3_0, a_3_1, a_3_2⟩ := id g_3
  obtain ⟨a_4_0, a_4_1, a_4_2⟩ := id g_4
  obtain ⟨a_5_0, a_5_1, a_5_2⟩ := id g_5
  refine wp_cu7 (sf_X8_put (Nat.le_refl 700) a_0_0 a_0_1 a_0_2 a_1_0 a_1_1 a_1_2 a_2_0 a_2_1 a_2_2 a_3_0 a_3_1 a_3_2 a_4_0 a_4_1 a_4_2 a_5_0 a_5_1 a_5_2) (fun r wv_shelves0_items wv_shelves1_items wv_shelves2_items wv_shelves3_items wv_shelves4_items wv_shelves5_items ⟨q_0, q_1, q_2, q_3, q_4, q_5⟩ => ?_)
  exact ⟨⟨a_0_0, a_0_1, q_0⟩, ⟨a_1_0, a_1_1, q_1⟩, ⟨a_2_0, a_2_1, q_2⟩, ⟨a_3_0, a_3_1, q_3⟩, ⟨a_4_0, a_4_1, q_4⟩, ⟨a_5_0, a_5_1, q_5⟩⟩
set_option maxHeartbeats 4000000 in
set_option maxRecDepth 20000 in
theorem st8_element {x1 : Int32} {x2 : Int32} {v_shelves0_holds : Int32} {v_shelves0_size : Int32} {v_shelves0_items : List Int64} {v_shelves1_holds : Int32} {v_shelves1_size : Int32} {v_shelves1_items : List Int64} {v_shelves2_holds : Int32} {v_shelves2_size : Int32} {v_shelves2_items : List Int64} {v_shelves3_holds : Int32} {v_shelves3_size : Int32} {v_shelves3_items : List Int64} {v_shelves4_holds : Int32} {v_shelves4_size : Int32} {v_shelves4_items : List Int64} {v_shelves5_holds : Int32} {v_shelves5_size : Int32} {v_shelves5_items : List Int64} (g_0 : gi_sf v_shelves0_size v_shelves0_items) (g_1 : gi_sf v_shelves1_size v_shelves1_items) (g_2 : gi_sf v_shelves2_size v_shelves2_items) (g_3 : gi_sf v_shelves3_size v_shelves3_items) (g_4 : gi_sf v_shelves4_size v_shelves4_items) (g_5 : gi_sf v_shelves5_size v_shelves5_items) : wp (fX8_element 700 x1 x2 v_shelves0_holds v_shelves0_size v_shelves0_items v_shelves1_holds v_shelves1_size v_shelves1_items v_shelves2_holds v_shelves2_size v_shelves2_items v_shelves3_holds v_shelves3_size v_shelves3_items v_shelves4_holds v_shelves4_size v_shelves4_items v_shelves5_holds v_shelves5_size v_shelves5_items) (fun (r : Int64) => True) := by
  obtain ⟨a_0_0, a_0_1, a_0_2⟩ := id g_0
  obtain ⟨a_1_0, a_1_1, a_1_2⟩ := id g_1
  obtain ⟨a_2_0, a_2_1, a_2_2⟩ := id g_2
  obtain ⟨a_3_0, a_3_1, a_3_2⟩ := id g_3
  obtain ⟨a_4_0, a_4_1, a_4_2⟩ := id g_4
  obtain ⟨a_5_0, a_5_1, a_5_2⟩ := id g_5
  refine wp_cu1 (sf_X8_element (Nat.le_refl 700) a_0_0 a_0_1 a_0_2 a_1_0 a_1_1 a_1_2 a_2_0 a_2_1 a_2_2 a_3_0 a_3_1 a_3_2 a_4_0 a_4_1 a_4_2 a_5_0 a_5_1 a_5_2) (fun r _ => ?_)
  exact trivial
set_option maxHeartbeats 4000000 in
set_option maxRecDepth 20000 in
theorem st8_shift {x1 : Int32} {x2 : Int32} {x3 : Int32} {x4 : Int32} {x5 : Int32} {v_shelves0_holds : Int32} {v_shelves0_sort : Int32} {v_shelves0_size : Int32} {v_shelves0_items : List Int64} {v_shelves1_holds : Int32} {v_shelves1_sort : Int32} {v_shelves1_size : Int32} {v_shelves1_items : List Int64} {v_shelves2_holds : Int32} {v_shelves2_sort : Int32} {v_shelves2_size : Int32} {v_shelves2_items : List Int64} {v_shelves3_holds : Int32} {v_shelves3_sort : Int32} {v_shelves3_size : Int32} {v_shelves3_items : List Int64} {v_shelves4_holds : Int32} {v_shelves4_sort : Int32} {v_shelves4_size : Int32} {v_shelves4_items : List Int64} {v_shelves5_holds : Int32} {v_shelves5_sort : Int32} {v_shelves5_size : Int32} {v_shelves5_items : List Int64} (g_0 : gi_sf v_shelves0_size v_shelves0_items) (g_1 : gi_sf v_shelves1_size v_shelves1_items) (g_2 : gi_sf v_shelves2_size v_shelves2_items) (g_3 : gi_sf v_shelves3_size v_shelves3_items) (g_4 : gi_sf v_shelves4_size v_shelves4_items) (g_5 : gi_sf v_shelves5_size v_shelves5_items) : wp (fX8_shift 700 x1 x2 x3 x4 x5 v_shelves0_holds v_shelves0_sort v_shelves0_size v_shelves0_items v_shelves1_holds v_shelves1_sort v_shelves1_size v_shelves1_items v_shelves2_holds v_shelves2_sort v_shelves2_size v_shelves2_items v_shelves3_holds v_shelves3_sort v_shelves3_size v_shelves3_items v_shelves4_holds v_shelves4_sort v_shelves4_size v_shelves4_items v_shelves5_holds v_shelves5_sort v_shelves5_size v_shelves5_items) (cu7 (fun (r : Int32) (wv_shelves0_items : List Int64) (wv_shelves1_items : List Int64) (wv_shelves2_items : List Int64) (wv_shelves3_items : List Int64) (wv_shelves4_items : List Int64) (wv_shelves5_items : List Int64) => gi_sf v_shelves0_size wv_shelves0_items ∧ gi_sf v_shelves1_size wv_shelves1_items ∧ gi_sf v_shelves2_size wv_shelves2_items ∧ gi_sf v_shelves3_size wv_shelves3_items ∧ gi_sf v_shelves4_size wv_shelves4_items ∧ gi_sf v_shelves5_size wv_shelves5_items)) := by
  obtain ⟨a_0_0, a_0_1, a_0_2⟩ := id g_0
  obtain ⟨a_1_0, a_1_1, a_1_2⟩ := id g_1
  obtain ⟨a_2_0, a_2_1, a_2_2⟩ := id g_2
  obtain ⟨a_3_0, a_3_1, a_3_2⟩ := id g_3
  obtain ⟨a_4_0, a_4_1, a_4_2⟩ := id g_4
  obtain ⟨a_5_0, a_5_1, a_5_2⟩ := id g_5
  refine wp_cu7 (sf_X8_shift (Nat.le_refl 700) a_0_0 a_0_1 a_0_2 a_1_0 a_1_1 a_1_2 a_2_0 a_2_1 a_2_2 a_3_0 a_3_1 a_3_2 a_4_0 a_4_1 a_4_2 a_5_0 a_5_1 a_5_2) (fun r wv_shelves0_items wv_shelves1_items wv_shelves2_items wv_shelves3_items wv_shelves4_items wv_shelves5_items ⟨q_0, q_1, q_2, q_3, q_4, q_5⟩ => ?_)
  exact ⟨⟨a_0_0, a_0_1, q_0⟩, ⟨a_1_0, a_1_1, q_1⟩, ⟨a_2_0, a_2_1, q_2⟩, ⟨a_3_0, a_3_1, q_3⟩, ⟨a_4_0, a_4_1, q_4⟩, ⟨a_5_0, a_5_1, q_5⟩⟩
set_option maxHeartbeats 4000000 in
set_option maxRecDepth 20000 in
theorem st8_taken {x1 : Int32} {x2 : Int32} {v_foldings_size : Int32} {v_foldings_kinds : List Int32} {v_shelves0_holds : Int32} {v_shelves0_body : Int32} {v_shelves1_holds : Int32} {v_shelves1_body : Int32} {v_shelves2_holds : Int32} {v_shelves2_body : Int32} {v_shelves3_holds : Int32} {v_shelves3_body : Int32} {v_shelves4_holds : Int32} {v_shelves4_body : Int32} {v_shelves5_holds : Int32} {v_shelves5_body : Int32} {v_foldings_trace : List Int32} (g_0 : gi_fo v_foldings_size v_foldings_kinds v_foldings_trace) : wp (fX8_taken 700 x1 x2 v_foldings_size v_foldings_kinds v_shelves0_holds v_shelves0_body v_shelves1_holds v_shelves1_body v_shelves2_holds v_shelves2_body v_shelves3_holds v_shelves3_body v_shelves4_holds v_shelves4_body v_shelves5_holds v_shelves5_body) (fun (r : Int32) => True) := by
  obtain ⟨a_0_0, a_0_1, a_0_2, a_0_3, a_0_4⟩ := id g_0
  refine wp_cu1 (sf_X8_taken (Nat.le_refl 700) a_0_0 a_0_1 a_0_2 a_0_4) (fun r _ => ?_)
  exact trivial
set_option maxHeartbeats 4000000 in
set_option maxRecDepth 20000 in
theorem st8_count {x1 : Int32} {v_now_rows : Int32} {v_now_cols : Int32} {v_wearing_size : Int32} {v_planned_size : Int32} {v_changes_done : Int32} {v_foldings_size : Int32} {v_foldings_ran : Int32} {v_now_high : Int32} {v_now_wide : Int32} {v_now_rowOf : List Int32} {v_now_colOf : List Int32} {v_now_below : List Int32} {v_now_face : List Int32} {v_now_worn : List Int32} {v_now_last : List Int32} {v_now_bend : List Int32} {v_now_tall : List Int32} {v_changes_size : Int32} {v_changes_before : List Int32} {v_changes_after : List Int32} {v_wearing_stepCount : Int32} {v_wearing_draftCount : Int32} {v_wearing_tape : List Int32} {v_wearing_steps : List Int32} {v_wearing_draft : List Int32} {v_wearing_stack : List Int32} {v_planned_lines : List Int32} {v_planned_ways : List Int32} {v_foldings_kinds : List Int32} {v_foldings_trace : List Int32} (g_0 : gi_sh v_now_rows v_now_cols v_now_high v_now_wide v_now_rowOf v_now_colOf v_now_below v_now_face v_now_worn v_now_last v_now_bend v_now_tall) (g_1 : gi_ch v_changes_done v_changes_size v_changes_before v_changes_after) (g_2 : gi_la v_wearing_size v_wearing_stepCount v_wearing_draftCount v_wearing_tape v_wearing_steps v_wearing_draft v_wearing_stack) (g_3 : gi_pl v_planned_size v_planned_lines v_planned_ways) (g_4 : gi_fo v_foldings_size v_foldings_kinds v_foldings_trace) : wp (fX8_count 700 x1 v_now_rows v_now_cols v_wearing_size v_planned_size v_changes_done v_foldings_size v_foldings_ran) (fun (r : Int32) => True) := by
  obtain ⟨a_0_0, a_0_1, a_0_2, a_0_3, a_0_4, a_0_5, a_0_6, a_0_7, a_0_8, a_0_9, a_0_10, a_0_11, a_0_12, a_0_13, a_0_14, a_0_15, a_0_16, a_0_17⟩ := id g_0
  obtain ⟨a_1_0, a_1_1, a_1_2, a_1_3, a_1_4, a_1_5⟩ := id g_1
  obtain ⟨a_2_0, a_2_1, a_2_2, a_2_3, a_2_4, a_2_5, a_2_6, a_2_7, a_2_8, a_2_9⟩ := id g_2
  obtain ⟨a_3_0, a_3_1, a_3_2, a_3_3⟩ := id g_3
  obtain ⟨a_4_0, a_4_1, a_4_2, a_4_3, a_4_4⟩ := id g_4
  refine wp_cu1 (sf_X8_count (Nat.le_refl 700) a_0_0 a_0_1 a_0_2 a_0_3 a_2_0 a_2_1 a_3_0 a_3_1 a_1_0 a_1_1 a_4_0 a_4_1) (fun r _ => ?_)
  exact trivial
end
section
/-! The reference: each call keeps the invariants -/

theorem sfb_X9_body {x1 : Int32} {v_bodies : Int32} {v_bodyKind : List Int32} (h_0 : 0 ≤ v_bodies.toInt) (h_1 : v_bodies.toInt ≤ 50) (h_2 : v_bodyKind.length = 50) (h_3 : zn v_bodyKind 0 v_bodies.toInt 0 8) : wp (fX9_body 700 x1 v_bodies v_bodyKind) (cu3 (fun (r : Int32) (wv_bodies : Int32) (wv_bodyKind : List Int32) => 0 ≤ wv_bodies.toInt ∧ wv_bodies.toInt ≤ 50 ∧ wv_bodyKind.length = 50 ∧ zn wv_bodyKind 0 wv_bodies.toInt 0 8)) := by
  unfold fX9_body
  have n_1 := i_64 x1
  have n_2 : (0 : Int64).toInt = 0 := by decide
  have n_3 : (7 : Int64).toInt = 7 := by decide
  have n_4 : (1 : Int32).toInt = 1 := by decide
  have n_5 : (50 : Int32).toInt = 50 := by decide
  refine wp_bd1 (sf_X9_within (Nat.le_refl 700)) (fun r q => ?_)
  rcases q with ⟨rfl, q0, q1⟩ | ⟨rfl, -⟩
  · refine wp_ifn (by decide) ?_
    refine wp_if (fun _ => wp_so3 ⟨h_0, h_1, h_2, h_3⟩) (fun c1 => ?_)
    have d1 : v_bodies.toInt < 50 := by
      have : v_bodies.toInt ≠ 50 := fun e => c1 (Int32.toInt_inj.mp (by omega))
      omega
    refine wp_ck (i_inb (by omega) (by omega)) ?_
    refine wp_nm (fun l hl => ?_)
    refine wp_nm (fun y hy => ?_)
    have e := i_addE hy.symm (by omega) (by omega)
    subst hl
    exact wp_so3 ⟨by omega, by omega, by rw [is_len]; exact h_2, zn_ext h_3 h_0 rfl (by omega) (by omega) (by omega)⟩
  · refine wp_ifp rfl ?_
    exact wp_so3 ⟨h_0, h_1, h_2, h_3⟩
theorem sb_X9_isBody {x1 : Int32} {v_bodies : Int32} (h_0 : 0 ≤ v_bodies.toInt) (h_1 : v_bodies.toInt ≤ 50) : wp (fX9_isBody 700 x1 v_bodies) (fun (r : Bool) => (r = true ∧ 0 ≤ x1.toInt ∧ x1.toInt < v_bodies.toInt) ∨ (r = false ∧ True)) := by
  unfold fX9_isBody
  have n_1 := i_64 x1
  have n_2 : (0 : Int64).toInt = 0 := by decide
  have n_4 : (1 : Int32).toInt = 1 := by decide
  have n_3 := i_64 (v_bodies - (1 : Int32))
  have e := i_subE (rfl : v_bodies - (1 : Int32) = _) (by omega) (by omega)
  refine wp_bd1 (sf_X9_within (Nat.le_refl 700)) (fun r q => ?_)
  rcases q with ⟨rfl, q0, q1⟩ | ⟨rfl, -⟩
  · exact wp_so1 (Or.inl ⟨rfl, by rw [n_1, n_2] at q0; exact q0, by rw [n_1, n_3, e, n_4] at q1; omega⟩)
  · exact wp_so1 (Or.inr ⟨rfl, trivial⟩)
theorem st9_act {x1 : Int32} {x2 : Int32} {x3 : Int32} {v_bodies : Int32} {v_ran : Int32} {v_ownKind : Int32} {v_ownNumber : Int32} {v_bodyKind : List Int32} {v_trace : List Int32} (g_0 : gm_bo v_bodies v_bodyKind v_trace) : wp (fX9_act 700 x1 x2 x3 v_bodies v_ran v_ownKind v_ownNumber v_bodyKind v_trace) (cu5 (fun (r : Int32) (wv_ran : Int32) (wv_ownKind : Int32) (wv_ownNumber : Int32) (wv_trace : List Int32) => gm_bo v_bodies v_bodyKind wv_trace)) := by
  obtain ⟨a_0, a_1, a_2, a_3, a_4⟩ := id g_0
  unfold fX9_act
  refine wp_bd1 (sb_X9_isBody a_0 a_1) (fun r q => ?_)
  rcases q with ⟨rfl, q0, q1⟩ | ⟨rfl, -⟩
  · refine wp_ifn (by decide) ?_
    refine wp_ck (i_inb (by omega) (by omega)) ?_
    refine wp_nm (fun y hy => ?_)
    have z := zn_get a_4 q0 q0 (by omega) (by omega)
    rw [← hy] at z
    have F : ∀ (t : List Int32), t.length = 24 → gm_bo v_bodies v_bodyKind t := fun t h => ⟨a_0, a_1, a_2, h, a_4⟩
    refine wp_if (fun _ => ?_) (fun _ => wp_if (fun _ => ?_) (fun _ => wp_if (fun _ => ?_) (fun _ => wp_if (fun _ => ?_) (fun _ => wp_so5 g_0))))
    · obtain ⟨r, c, t, -, e1, e3⟩ := ac_0 z.1 z.2 x3 x1 v_trace a_3
      exact wp_bd3 (R := fun (_ : Int32) (_ : Int32) (t : List Int32) => t.length = 24) ⟨(r, c, t), e1, e3⟩ (fun _ _ _ h => wp_so5 (F _ h))
    · obtain ⟨r, c, t, -, e1, e3⟩ := ac_1 z.1 z.2 x3 x1 v_trace a_3
      exact wp_bd3 (R := fun (_ : Int32) (_ : Int32) (t : List Int32) => t.length = 24) ⟨(r, c, t), e1, e3⟩ (fun _ _ _ h => wp_so5 (F _ h))
    · obtain ⟨r, c, t, -, e1, e3⟩ := ac_2 z.1 z.2 x3 x1 v_trace a_3
      exact wp_bd3 (R := fun (_ : Int32) (_ : Int32) (t : List Int32) => t.length = 24) ⟨(r, c, t), e1, e3⟩ (fun _ _ _ h => wp_so5 (F _ h))
    · obtain ⟨r, c, t, -, e1, e3⟩ := ac_3 z.1 z.2 x3 x1 v_trace a_3
      exact wp_bd3 (R := fun (_ : Int32) (_ : Int32) (t : List Int32) => t.length = 24) ⟨(r, c, t), e1, e3⟩ (fun _ _ _ h => wp_so5 (F _ h))
  · refine wp_ifp rfl ?_
    exact wp_so5 g_0
set_option maxHeartbeats 4000000 in
set_option maxRecDepth 20000 in
theorem st9_sheet {x1 : Int32} {v_rowsOf : Int32} {v_columnsOf : Int32} {v_folded : Int32} {v_wronged : Int32} {v_shapeRows : List Int32} {v_shapeColumns : List Int32} {v_row : List Int32} {v_column : List Int32} {v_below : List Int32} {v_face : List Int32} {v_worn : List Int32} {v_lastBend : List Int32} {v_isKept : Bool} {v_imageRows : Int32} {v_imageColumns : Int32} (g_0 : gm_sh v_rowsOf v_columnsOf v_isKept v_imageRows v_imageColumns v_shapeRows v_shapeColumns v_row v_column v_below v_face v_worn v_lastBend) : wp (fX9_sheet 700 x1 v_rowsOf v_columnsOf v_folded v_wronged v_shapeRows v_shapeColumns v_row v_column v_below v_face v_worn v_lastBend) (cu13 (fun (r : Int32) (wv_rowsOf : Int32) (wv_columnsOf : Int32) (wv_folded : Int32) (wv_wronged : Int32) (wv_shapeRows : List Int32) (wv_shapeColumns : List Int32) (wv_row : List Int32) (wv_column : List Int32) (wv_below : List Int32) (wv_face : List Int32) (wv_worn : List Int32) (wv_lastBend : List Int32) => gm_sh wv_rowsOf wv_columnsOf v_isKept v_imageRows v_imageColumns wv_shapeRows wv_shapeColumns wv_row wv_column wv_below wv_face wv_worn wv_lastBend)) := by
  obtain ⟨a_0_0, a_0_1, a_0_2, a_0_3, a_0_4, a_0_5, a_0_6, a_0_7, a_0_8, a_0_9, a_0_10, a_0_11, a_0_12, a_0_13⟩ := id g_0
  have n0 : (0 : Int32).toInt = 0 := by decide
  have n1 : (1 : Int32).toInt = 1 := by decide
  have n5 : (5 : Int32).toInt = 5 := by decide
  refine wp_cu13 (sf_X9_sheet (u_row := v_row) (u_col := v_column) (u_sR := v_shapeRows) (u_sC := v_shapeColumns) (A := 0) (B9 := 32) (a9 := 0) (b9 := 1) (Nat.le_refl 700) a_0_0 a_0_1 a_0_2 a_0_3 a_0_4 a_0_5 a_0_6 a_0_7 a_0_8 a_0_9 a_0_10 a_0_11 (fr_refl _ _ _) (fr_refl _ _ _) (fr_refl _ _ _) (fr_refl _ _ _) (by omega) (by omega) (by omega) (by omega) a_0_12) (fun r wv_rowsOf wv_columnsOf wv_folded wv_wronged wv_shapeRows wv_shapeColumns wv_row wv_column wv_below wv_face wv_worn wv_lastBend ⟨q_0, q_1, q_2, q_3, q_4, q_5, q_6, q_7, q_8, q_9, q_10, q_11, q_12, q_13, q_14, q_15, q_16⟩ => ?_)
  have l_5 : ¬ (v_isKept = false) → 1 ≤ v_imageRows.toInt ∧ v_imageRows.toInt ≤ 4 ∧ 1 ≤ v_imageColumns.toInt ∧ v_imageColumns.toInt ≤ 8 ∧ lv9 v_imageRows v_imageColumns wv_shapeRows wv_shapeColumns wv_row wv_column (5 : Int32) := fun hk => (by
    obtain ⟨j_0, j_1, j_2, j_3, j_4⟩ := a_0_13 hk
    exact ⟨j_0, j_1, j_2, j_3, lv9_fr j_4 q_14 q_15 q_12 q_13 (by omega) (by omega) (by omega) (by omega) (i_fl j_0 j_1 j_2 j_3).2.2⟩)
  exact ⟨q_0, q_1, q_2, q_3, q_4, q_5, q_6, q_7, q_8, q_9, q_10, q_11, q_16, l_5⟩
set_option maxHeartbeats 4000000 in
set_option maxRecDepth 20000 in
theorem st9_limit {x1 : Int32} {v_keptMany : Int32} {v_done : Int32} {v_limit : List Int32} {v_changeWas : List Int32} {v_changeIs : List Int32} (g_0 : gm_ch v_keptMany v_done v_limit v_changeWas v_changeIs) : wp (fX9_limit 700 x1 v_keptMany v_done v_limit v_changeWas v_changeIs) (cu6 (fun (r : Int32) (wv_keptMany : Int32) (wv_done : Int32) (wv_limit : List Int32) (wv_changeWas : List Int32) (wv_changeIs : List Int32) => gm_ch wv_keptMany wv_done wv_limit wv_changeWas wv_changeIs)) := by
  obtain ⟨a_0_0, a_0_1, a_0_2, a_0_3, a_0_4, a_0_5, a_0_6, a_0_7⟩ := id g_0
  refine wp_cu6 (sf_X9_limit (Nat.le_refl 700) a_0_0 a_0_1 a_0_2 a_0_3 a_0_4 a_0_5 a_0_6 a_0_7) (fun r wv_keptMany wv_done wv_limit wv_changeWas wv_changeIs ⟨q_0, q_1, q_2, q_3, q_4, q_5, q_6, q_7⟩ => ?_)
  exact ⟨q_0, q_1, q_2, q_3, q_4, q_5, q_6, q_7⟩
set_option maxHeartbeats 4000000 in
set_option maxRecDepth 20000 in
theorem st9_feed {x1 : Int32} {v_tapeMany : Int32} {v_tape : List Int32} {v_textMany : Int32} {v_text : List Int32} {v_names : List Int32} {v_bends : List Int32} {v_high : List Int32} {v_to : List Int32} {v_pileSize : List Int32} (g_0 : gm_tx v_tapeMany v_textMany v_tape v_text v_names v_bends v_high v_to v_pileSize) : wp (fX9_feed 700 x1 v_tapeMany v_tape) (cu3 (fun (r : Int32) (wv_tapeMany : Int32) (wv_tape : List Int32) => gm_tx wv_tapeMany v_textMany wv_tape v_text v_names v_bends v_high v_to v_pileSize)) := by
  obtain ⟨a_0_0, a_0_1, a_0_2, a_0_3, a_0_4, a_0_5, a_0_6, a_0_7, a_0_8, a_0_9, a_0_10⟩ := id g_0
  refine wp_cu3 (sf_X9_feed (Nat.le_refl 700) a_0_0 a_0_1 a_0_4) (fun r wv_tapeMany wv_tape ⟨q_0, q_1, q_2⟩ => ?_)
  exact ⟨q_0, q_1, a_0_2, a_0_3, q_2, a_0_5, a_0_6, a_0_7, a_0_8, a_0_9, a_0_10⟩
set_option maxHeartbeats 4000000 in
set_option maxRecDepth 20000 in
theorem st9_law {v_tapeMany : Int32} {v_textMany : Int32} {v_base : Int32} {v_at : Int32} {v_ends : Int32} {v_fault : Int32} {v_opened : Int32} {v_tape : List Int32} {v_text : List Int32} {v_names : List Int32} {v_bends : List Int32} {v_high : List Int32} {v_to : List Int32} {v_pileSize : List Int32} (g_0 : gm_tx v_tapeMany v_textMany v_tape v_text v_names v_bends v_high v_to v_pileSize) : wp (fX9_law 700 v_tapeMany v_textMany v_base v_at v_ends v_fault v_opened v_tape v_text v_names) (cu9 (fun (r : Int32) (wv_tapeMany : Int32) (wv_textMany : Int32) (wv_base : Int32) (wv_at : Int32) (wv_ends : Int32) (wv_fault : Int32) (wv_opened : Int32) (wv_text : List Int32) => gm_tx wv_tapeMany wv_textMany v_tape wv_text v_names v_bends v_high v_to v_pileSize)) := by
  obtain ⟨a_0_0, a_0_1, a_0_2, a_0_3, a_0_4, a_0_5, a_0_6, a_0_7, a_0_8, a_0_9, a_0_10⟩ := id g_0
  refine wp_cu9 (sf_X9_law (Nat.le_refl 700) a_0_0 a_0_1 a_0_2 a_0_3 a_0_4 a_0_5 a_0_6) (fun r wv_tapeMany wv_textMany wv_base wv_at wv_ends wv_fault wv_opened wv_text ⟨q_0, q_1, q_2, q_3, q_4⟩ => ?_)
  exact ⟨q_0, q_1, q_2, q_3, a_0_4, q_4, a_0_6, a_0_7, a_0_8, a_0_9, a_0_10⟩
set_option maxHeartbeats 4000000 in
set_option maxRecDepth 20000 in
theorem st9_fold {x1 : Int32} {x2 : Int32} {v_rowsOf : Int32} {v_columnsOf : Int32} {v_folded : Int32} {v_wronged : Int32} {v_textMany : Int32} {v_base : Int32} {v_at : Int32} {v_ends : Int32} {v_fault : Int32} {v_opened : Int32} {v_bentMany : Int32} {v_bentWrong : Int32} {v_moreWorn : Int32} {v_limit : List Int32} {v_shapeRows : List Int32} {v_shapeColumns : List Int32} {v_row : List Int32} {v_column : List Int32} {v_below : List Int32} {v_face : List Int32} {v_worn : List Int32} {v_lastBend : List Int32} {v_tape : List Int32} {v_text : List Int32} {v_names : List Int32} {v_bends : List Int32} {v_high : List Int32} {v_to : List Int32} {v_pileSize : List Int32} {v_keptMany : Int32} {v_done : Int32} {v_changeWas : List Int32} {v_changeIs : List Int32} {v_isKept : Bool} {v_imageRows : Int32} {v_imageColumns : Int32} {v_tapeMany : Int32} (g_0 : gm_ch v_keptMany v_done v_limit v_changeWas v_changeIs) (g_1 : gm_sh v_rowsOf v_columnsOf v_isKept v_imageRows v_imageColumns v_shapeRows v_shapeColumns v_row v_column v_below v_face v_worn v_lastBend) (g_2 : gm_tx v_tapeMany v_textMany v_tape v_text v_names v_bends v_high v_to v_pileSize) : wp (fX9_fold 700 x1 x2 v_rowsOf v_columnsOf v_folded v_wronged v_textMany v_base v_at v_ends v_fault v_opened v_bentMany v_bentWrong v_moreWorn v_limit v_shapeRows v_shapeColumns v_row v_column v_below v_face v_worn v_lastBend v_tape v_text v_names v_bends v_high v_to v_pileSize) (cu24 (fun (r : Int32) (wv_folded : Int32) (wv_wronged : Int32) (wv_base : Int32) (wv_at : Int32) (wv_ends : Int32) (wv_fault : Int32) (wv_opened : Int32) (wv_bentMany : Int32) (wv_bentWrong : Int32) (wv_moreWorn : Int32) (wv_shapeRows : List Int32) (wv_shapeColumns : List Int32) (wv_row : List Int32) (wv_column : List Int32) (wv_below : List Int32) (wv_face : List Int32) (wv_worn : List Int32) (wv_lastBend : List Int32) (wv_names : List Int32) (wv_bends : List Int32) (wv_high : List Int32) (wv_to : List Int32) (wv_pileSize : List Int32) => gm_sh v_rowsOf v_columnsOf v_isKept v_imageRows v_imageColumns wv_shapeRows wv_shapeColumns wv_row wv_column wv_below wv_face wv_worn wv_lastBend ∧ gm_tx v_tapeMany v_textMany v_tape v_text wv_names wv_bends wv_high wv_to wv_pileSize)) := by
  obtain ⟨a_0_0, a_0_1, a_0_2, a_0_3, a_0_4, a_0_5, a_0_6, a_0_7⟩ := id g_0
  obtain ⟨a_1_0, a_1_1, a_1_2, a_1_3, a_1_4, a_1_5, a_1_6, a_1_7, a_1_8, a_1_9, a_1_10, a_1_11, a_1_12, a_1_13⟩ := id g_1
  obtain ⟨a_2_0, a_2_1, a_2_2, a_2_3, a_2_4, a_2_5, a_2_6, a_2_7, a_2_8, a_2_9, a_2_10⟩ := id g_2
  have n0 : (0 : Int32).toInt = 0 := by decide
  have n1 : (1 : Int32).toInt = 1 := by decide
  have n5 : (5 : Int32).toInt = 5 := by decide
  refine wp_cu24 (sf_X9_fold (u_row := v_row) (u_col := v_column) (u_sR := v_shapeRows) (u_sC := v_shapeColumns) (A := 0) (B9 := 32) (a9 := 0) (b9 := 1) (Nat.le_refl 700) a_1_0 a_1_1 a_1_2 a_1_3 a_2_2 a_2_3 a_0_4 a_1_4 a_1_5 a_1_6 a_1_7 a_1_8 a_1_9 a_1_10 a_1_11 a_2_4 a_2_5 a_2_6 a_2_7 a_2_8 a_2_9 a_2_10 (fr_refl _ _ _) (fr_refl _ _ _) (fr_refl _ _ _) (fr_refl _ _ _) (by omega) (by omega) (by omega) (by omega) a_1_12) (fun r wv_folded wv_wronged wv_base wv_at wv_ends wv_fault wv_opened wv_bentMany wv_bentWrong wv_moreWorn wv_shapeRows wv_shapeColumns wv_row wv_column wv_below wv_face wv_worn wv_lastBend wv_names wv_bends wv_high wv_to wv_pileSize ⟨q_0, q_1, q_2, q_3, q_4, q_5, q_6, q_7, q_8, q_9, q_10, q_11, q_12, q_13, q_14, q_15, q_16, q_17⟩ => ?_)
  have l_5 : ¬ (v_isKept = false) → 1 ≤ v_imageRows.toInt ∧ v_imageRows.toInt ≤ 4 ∧ 1 ≤ v_imageColumns.toInt ∧ v_imageColumns.toInt ≤ 8 ∧ lv9 v_imageRows v_imageColumns wv_shapeRows wv_shapeColumns wv_row wv_column (5 : Int32) := fun hk => (by
    obtain ⟨j_0, j_1, j_2, j_3, j_4⟩ := a_1_13 hk
    exact ⟨j_0, j_1, j_2, j_3, lv9_fr j_4 q_15 q_16 q_13 q_14 (by omega) (by omega) (by omega) (by omega) (i_fl j_0 j_1 j_2 j_3).2.2⟩)
  exact ⟨⟨a_1_0, a_1_1, a_1_2, a_1_3, q_0, q_1, q_2, q_3, q_4, q_5, q_6, q_7, q_17, l_5⟩, ⟨a_2_0, a_2_1, a_2_2, a_2_3, a_2_4, a_2_5, q_8, q_9, q_10, q_11, q_12⟩⟩
set_option maxHeartbeats 4000000 in
set_option maxRecDepth 20000 in
theorem st9_flat {v_rowsOf : Int32} {v_columnsOf : Int32} {v_shapeRows : List Int32} {v_shapeColumns : List Int32} {v_row : List Int32} {v_column : List Int32} {v_below : List Int32} {v_face : List Int32} {v_isKept : Bool} {v_imageRows : Int32} {v_imageColumns : Int32} {v_worn : List Int32} {v_lastBend : List Int32} (g_0 : gm_sh v_rowsOf v_columnsOf v_isKept v_imageRows v_imageColumns v_shapeRows v_shapeColumns v_row v_column v_below v_face v_worn v_lastBend) : wp (fX9_flat 700 v_rowsOf v_columnsOf v_shapeRows v_shapeColumns v_row v_column v_below v_face) (cu7 (fun (r : Int32) (wv_shapeRows : List Int32) (wv_shapeColumns : List Int32) (wv_row : List Int32) (wv_column : List Int32) (wv_below : List Int32) (wv_face : List Int32) => gm_sh v_rowsOf v_columnsOf v_isKept v_imageRows v_imageColumns wv_shapeRows wv_shapeColumns wv_row wv_column wv_below wv_face v_worn v_lastBend)) := by
  obtain ⟨a_0_0, a_0_1, a_0_2, a_0_3, a_0_4, a_0_5, a_0_6, a_0_7, a_0_8, a_0_9, a_0_10, a_0_11, a_0_12, a_0_13⟩ := id g_0
  have n0 : (0 : Int32).toInt = 0 := by decide
  have n1 : (1 : Int32).toInt = 1 := by decide
  have n5 : (5 : Int32).toInt = 5 := by decide
  refine wp_cu7 (sf_X9_flat (u_row := v_row) (u_col := v_column) (u_sR := v_shapeRows) (u_sC := v_shapeColumns) (A := 0) (B9 := 32) (a9 := 0) (b9 := 1) (Nat.le_refl 700) a_0_0 a_0_1 a_0_2 a_0_3 a_0_4 a_0_5 a_0_6 a_0_7 a_0_8 a_0_9 (fr_refl _ _ _) (fr_refl _ _ _) (fr_refl _ _ _) (fr_refl _ _ _) (by omega) (by omega) (by omega) (by omega) a_0_12) (fun r wv_shapeRows wv_shapeColumns wv_row wv_column wv_below wv_face ⟨q_0, q_1, q_2, q_3, q_4, q_5, q_6, q_7, q_8, q_9, q_10⟩ => ?_)
  have l_5 : ¬ (v_isKept = false) → 1 ≤ v_imageRows.toInt ∧ v_imageRows.toInt ≤ 4 ∧ 1 ≤ v_imageColumns.toInt ∧ v_imageColumns.toInt ≤ 8 ∧ lv9 v_imageRows v_imageColumns wv_shapeRows wv_shapeColumns wv_row wv_column (5 : Int32) := fun hk => (by
    obtain ⟨j_0, j_1, j_2, j_3, j_4⟩ := a_0_13 hk
    exact ⟨j_0, j_1, j_2, j_3, lv9_fr j_4 q_8 q_9 q_6 q_7 (by omega) (by omega) (by omega) (by omega) (i_fl j_0 j_1 j_2 j_3).2.2⟩)
  exact ⟨a_0_0, a_0_1, a_0_2, a_0_3, q_0, q_1, q_2, q_3, q_4, q_5, a_0_10, a_0_11, q_10, l_5⟩
set_option maxHeartbeats 4000000 in
set_option maxRecDepth 20000 in
theorem st9_crease {x1 : Int32} {x2 : Int32} {v_rowsOf : Int32} {v_columnsOf : Int32} {v_limit : List Int32} {v_worn : List Int32} {v_lastBend : List Int32} {v_keptMany : Int32} {v_done : Int32} {v_changeWas : List Int32} {v_changeIs : List Int32} {v_isKept : Bool} {v_imageRows : Int32} {v_imageColumns : Int32} {v_shapeRows : List Int32} {v_shapeColumns : List Int32} {v_row : List Int32} {v_column : List Int32} {v_below : List Int32} {v_face : List Int32} (g_0 : gm_ch v_keptMany v_done v_limit v_changeWas v_changeIs) (g_1 : gm_sh v_rowsOf v_columnsOf v_isKept v_imageRows v_imageColumns v_shapeRows v_shapeColumns v_row v_column v_below v_face v_worn v_lastBend) : wp (fX9_crease 700 x1 x2 v_rowsOf v_columnsOf v_limit v_worn v_lastBend) (fun (r : Int32) => True) := by
  obtain ⟨a_0_0, a_0_1, a_0_2, a_0_3, a_0_4, a_0_5, a_0_6, a_0_7⟩ := id g_0
  obtain ⟨a_1_0, a_1_1, a_1_2, a_1_3, a_1_4, a_1_5, a_1_6, a_1_7, a_1_8, a_1_9, a_1_10, a_1_11, a_1_12, a_1_13⟩ := id g_1
  refine wp_cu1 (sf_X9_crease (Nat.le_refl 700) a_1_0 a_1_1 a_1_2 a_1_3 a_0_4 a_1_10 a_1_11) (fun r _ => ?_)
  exact trivial
set_option maxHeartbeats 4000000 in
set_option maxRecDepth 20000 in
theorem st9_shape {x1 : Int32} {v_rowsOf : Int32} {v_columnsOf : Int32} {v_shapeRows : List Int32} {v_shapeColumns : List Int32} {v_below : List Int32} {v_isKept : Bool} {v_imageRows : Int32} {v_imageColumns : Int32} {v_row : List Int32} {v_column : List Int32} {v_face : List Int32} {v_worn : List Int32} {v_lastBend : List Int32} (g_0 : gm_sh v_rowsOf v_columnsOf v_isKept v_imageRows v_imageColumns v_shapeRows v_shapeColumns v_row v_column v_below v_face v_worn v_lastBend) : wp (fX9_shape 700 x1 v_rowsOf v_columnsOf v_shapeRows v_shapeColumns v_below) (fun (r : Int32) => True) := by
  obtain ⟨a_0_0, a_0_1, a_0_2, a_0_3, a_0_4, a_0_5, a_0_6, a_0_7, a_0_8, a_0_9, a_0_10, a_0_11, a_0_12, a_0_13⟩ := id g_0
  refine wp_cu1 (sf_X9_shape (Nat.le_refl 700) a_0_0 a_0_1 a_0_2 a_0_3 a_0_4 a_0_5 a_0_8) (fun r _ => ?_)
  exact trivial
set_option maxHeartbeats 4000000 in
set_option maxRecDepth 20000 in
theorem st9_where {x1 : Int32} {x2 : Int32} {v_rowsOf : Int32} {v_columnsOf : Int32} {v_row : List Int32} {v_column : List Int32} {v_below : List Int32} {v_face : List Int32} {v_isKept : Bool} {v_imageRows : Int32} {v_imageColumns : Int32} {v_shapeRows : List Int32} {v_shapeColumns : List Int32} {v_worn : List Int32} {v_lastBend : List Int32} (g_0 : gm_sh v_rowsOf v_columnsOf v_isKept v_imageRows v_imageColumns v_shapeRows v_shapeColumns v_row v_column v_below v_face v_worn v_lastBend) : wp (fX9_where 700 x1 x2 v_rowsOf v_columnsOf v_row v_column v_below v_face) (fun (r : Int32) => True) := by
  obtain ⟨a_0_0, a_0_1, a_0_2, a_0_3, a_0_4, a_0_5, a_0_6, a_0_7, a_0_8, a_0_9, a_0_10, a_0_11, a_0_12, a_0_13⟩ := id g_0
  refine wp_cu1 (sf_X9_where (Nat.le_refl 700) a_0_0 a_0_1 a_0_2 a_0_3 a_0_6 a_0_7 a_0_8 a_0_9) (fun r _ => ?_)
  exact trivial
set_option maxHeartbeats 4000000 in
set_option maxRecDepth 20000 in
theorem st9_pile {x1 : Int32} {x2 : Int32} {v_rowsOf : Int32} {v_columnsOf : Int32} {v_shapeRows : List Int32} {v_shapeColumns : List Int32} {v_row : List Int32} {v_column : List Int32} {v_below : List Int32} {v_isKept : Bool} {v_imageRows : Int32} {v_imageColumns : Int32} {v_face : List Int32} {v_worn : List Int32} {v_lastBend : List Int32} (g_0 : gm_sh v_rowsOf v_columnsOf v_isKept v_imageRows v_imageColumns v_shapeRows v_shapeColumns v_row v_column v_below v_face v_worn v_lastBend) : wp (fX9_pile 700 x1 x2 v_rowsOf v_columnsOf v_shapeRows v_shapeColumns v_row v_column v_below) (fun (r : Int32) => True) := by
  obtain ⟨a_0_0, a_0_1, a_0_2, a_0_3, a_0_4, a_0_5, a_0_6, a_0_7, a_0_8, a_0_9, a_0_10, a_0_11, a_0_12, a_0_13⟩ := id g_0
  refine wp_cu1 (sf_X9_pile (Nat.le_refl 700) a_0_0 a_0_1 a_0_2 a_0_3 a_0_4 a_0_5 a_0_6 a_0_7 a_0_8) (fun r _ => ?_)
  exact trivial
set_option maxHeartbeats 4000000 in
set_option maxRecDepth 20000 in
theorem st9_led {x1 : Int32} {v_rowsOf : Int32} {v_columnsOf : Int32} {v_folded : Int32} {v_wronged : Int32} {v_limit : List Int32} {v_worn : List Int32} {v_keptMany : Int32} {v_done : Int32} {v_changeWas : List Int32} {v_changeIs : List Int32} {v_isKept : Bool} {v_imageRows : Int32} {v_imageColumns : Int32} {v_shapeRows : List Int32} {v_shapeColumns : List Int32} {v_row : List Int32} {v_column : List Int32} {v_below : List Int32} {v_face : List Int32} {v_lastBend : List Int32} (g_0 : gm_ch v_keptMany v_done v_limit v_changeWas v_changeIs) (g_1 : gm_sh v_rowsOf v_columnsOf v_isKept v_imageRows v_imageColumns v_shapeRows v_shapeColumns v_row v_column v_below v_face v_worn v_lastBend) : wp (fX9_led 700 x1 v_rowsOf v_columnsOf v_folded v_wronged v_limit v_worn) (fun (r : Int32) => True) := by
  obtain ⟨a_0_0, a_0_1, a_0_2, a_0_3, a_0_4, a_0_5, a_0_6, a_0_7⟩ := id g_0
  obtain ⟨a_1_0, a_1_1, a_1_2, a_1_3, a_1_4, a_1_5, a_1_6, a_1_7, a_1_8, a_1_9, a_1_10, a_1_11, a_1_12, a_1_13⟩ := id g_1
  refine wp_cu1 (sf_X9_led (Nat.le_refl 700) a_1_0 a_1_1 a_1_2 a_1_3 a_0_4 a_1_10) (fun r _ => ?_)
  exact trivial
set_option maxHeartbeats 4000000 in
set_option maxRecDepth 20000 in
theorem st9_plan {x1 : Int32} {x2 : Int32} {v_planned : Int32} {v_planLine : List Int32} {v_planWay : List Int32} (g_0 : gm_pl v_planned v_planLine v_planWay) : wp (fX9_plan 700 x1 x2 v_planned v_planLine v_planWay) (cu4 (fun (r : Int32) (wv_planned : Int32) (wv_planLine : List Int32) (wv_planWay : List Int32) => gm_pl wv_planned wv_planLine wv_planWay)) := by
  obtain ⟨a_0_0, a_0_1, a_0_2, a_0_3⟩ := id g_0
  refine wp_cu4 (sf_X9_plan (Nat.le_refl 700) a_0_0 a_0_1 a_0_2 a_0_3) (fun r wv_planned wv_planLine wv_planWay ⟨q_0, q_1, q_2, q_3⟩ => ?_)
  exact ⟨q_0, q_1, q_2, q_3⟩
set_option maxHeartbeats 4000000 in
set_option maxRecDepth 20000 in
theorem st9_plans {x1 : Int32} {x2 : Int32} {x3 : Int32} {v_planned : Int32} {v_planLine : List Int32} {v_planWay : List Int32} {v_shelf : List Int32} {v_many : List Int32} {v_items : List Int64} {v_carried : List Int64} (g_0 : gm_pl v_planned v_planLine v_planWay) (g_1 : gm_sf v_shelf v_many v_items v_carried) : wp (fX9_plans 700 x1 x2 x3 v_planned v_planLine v_planWay v_shelf v_many v_items) (cu4 (fun (r : Int32) (wv_planned : Int32) (wv_planLine : List Int32) (wv_planWay : List Int32) => gm_pl wv_planned wv_planLine wv_planWay)) := by
  obtain ⟨a_0_0, a_0_1, a_0_2, a_0_3⟩ := id g_0
  obtain ⟨a_1_0, a_1_1, a_1_2, a_1_3, a_1_4⟩ := id g_1
  refine wp_cu4 (sf_X9_plans (Nat.le_refl 700) a_0_0 a_0_1 a_0_2 a_0_3 a_1_0 a_1_1 a_1_2 a_1_4) (fun r wv_planned wv_planLine wv_planWay ⟨q_0, q_1, q_2, q_3⟩ => ?_)
  exact ⟨q_0, q_1, q_2, q_3⟩
set_option maxHeartbeats 4000000 in
set_option maxRecDepth 20000 in
theorem st9_cost {x1 : Int32} {v_rowsOf : Int32} {v_columnsOf : Int32} {v_textMany : Int32} {v_base : Int32} {v_at : Int32} {v_ends : Int32} {v_fault : Int32} {v_opened : Int32} {v_bentMany : Int32} {v_bentWrong : Int32} {v_moreWorn : Int32} {v_planned : Int32} {v_allWrong : Int32} {v_allWorn : Int32} {v_z : Int32} {v_limit : List Int32} {v_shapeRows : List Int32} {v_shapeColumns : List Int32} {v_row : List Int32} {v_column : List Int32} {v_below : List Int32} {v_face : List Int32} {v_worn : List Int32} {v_lastBend : List Int32} {v_tape : List Int32} {v_text : List Int32} {v_names : List Int32} {v_bends : List Int32} {v_high : List Int32} {v_to : List Int32} {v_pileSize : List Int32} {v_planLine : List Int32} {v_planWay : List Int32} {v_keptMany : Int32} {v_done : Int32} {v_changeWas : List Int32} {v_changeIs : List Int32} {v_isKept : Bool} {v_imageRows : Int32} {v_imageColumns : Int32} {v_tapeMany : Int32} (g_0 : gm_ch v_keptMany v_done v_limit v_changeWas v_changeIs) (g_1 : gm_sh v_rowsOf v_columnsOf v_isKept v_imageRows v_imageColumns v_shapeRows v_shapeColumns v_row v_column v_below v_face v_worn v_lastBend) (g_2 : gm_tx v_tapeMany v_textMany v_tape v_text v_names v_bends v_high v_to v_pileSize) (g_3 : gm_pl v_planned v_planLine v_planWay) : wp (fX9_cost 700 x1 v_rowsOf v_columnsOf v_textMany v_base v_at v_ends v_fault v_opened v_bentMany v_bentWrong v_moreWorn v_planned v_allWrong v_allWorn v_z v_limit v_shapeRows v_shapeColumns v_row v_column v_below v_face v_worn v_lastBend v_tape v_text v_names v_bends v_high v_to v_pileSize v_planLine v_planWay) (cu25 (fun (r : Int32) (wv_base : Int32) (wv_at : Int32) (wv_ends : Int32) (wv_fault : Int32) (wv_opened : Int32) (wv_bentMany : Int32) (wv_bentWrong : Int32) (wv_moreWorn : Int32) (wv_allWrong : Int32) (wv_allWorn : Int32) (wv_z : Int32) (wv_shapeRows : List Int32) (wv_shapeColumns : List Int32) (wv_row : List Int32) (wv_column : List Int32) (wv_below : List Int32) (wv_face : List Int32) (wv_worn : List Int32) (wv_lastBend : List Int32) (wv_names : List Int32) (wv_bends : List Int32) (wv_high : List Int32) (wv_to : List Int32) (wv_pileSize : List Int32) => gm_sh v_rowsOf v_columnsOf v_isKept v_imageRows v_imageColumns wv_shapeRows wv_shapeColumns wv_row wv_column wv_below wv_face wv_worn wv_lastBend ∧ gm_tx v_tapeMany v_textMany v_tape v_text wv_names wv_bends wv_high wv_to wv_pileSize)) := by
  obtain ⟨a_0_0, a_0_1, a_0_2, a_0_3, a_0_4, a_0_5, a_0_6, a_0_7⟩ := id g_0
  obtain ⟨a_1_0, a_1_1, a_1_2, a_1_3, a_1_4, a_1_5, a_1_6, a_1_7, a_1_8, a_1_9, a_1_10, a_1_11, a_1_12, a_1_13⟩ := id g_1
  obtain ⟨a_2_0, a_2_1, a_2_2, a_2_3, a_2_4, a_2_5, a_2_6, a_2_7, a_2_8, a_2_9, a_2_10⟩ := id g_2
  obtain ⟨a_3_0, a_3_1, a_3_2, a_3_3⟩ := id g_3
  have n0 : (0 : Int32).toInt = 0 := by decide
  have n1 : (1 : Int32).toInt = 1 := by decide
  have n5 : (5 : Int32).toInt = 5 := by decide
  refine wp_cu25 (sf_X9_cost (u_row := v_row) (u_col := v_column) (u_sR := v_shapeRows) (u_sC := v_shapeColumns) (A := 32) (B9 := 160) (a9 := 1) (b9 := 5) (Nat.le_refl 700) a_1_0 a_1_1 a_1_2 a_1_3 a_2_2 a_2_3 a_3_0 a_3_1 a_0_4 a_1_4 a_1_5 a_1_6 a_1_7 a_1_8 a_1_9 a_1_10 a_1_11 a_2_4 a_2_5 a_2_6 a_2_7 a_2_8 a_2_9 a_2_10 a_3_2 a_3_3 (fr_refl _ _ _) (fr_refl _ _ _) (fr_refl _ _ _) (fr_refl _ _ _) (by omega) (by omega) (by omega) (by omega)) (fun r wv_base wv_at wv_ends wv_fault wv_opened wv_bentMany wv_bentWrong wv_moreWorn wv_allWrong wv_allWorn wv_z wv_shapeRows wv_shapeColumns wv_row wv_column wv_below wv_face wv_worn wv_lastBend wv_names wv_bends wv_high wv_to wv_pileSize ⟨q_0, q_1, q_2, q_3, q_4, q_5, q_6, q_7, q_8, q_9, q_10, q_11, q_12, q_13, q_14, q_15, q_16⟩ => ?_)
  have l_0 : lv9 v_rowsOf v_columnsOf wv_shapeRows wv_shapeColumns wv_row wv_column (0 : Int32) := lv9_fr a_1_12 q_15 q_16 q_13 q_14 (by omega) (by omega) (by omega) (by omega) (i_fl a_1_0 a_1_1 a_1_2 a_1_3).2.2
  have l_5 : ¬ (v_isKept = false) → 1 ≤ v_imageRows.toInt ∧ v_imageRows.toInt ≤ 4 ∧ 1 ≤ v_imageColumns.toInt ∧ v_imageColumns.toInt ≤ 8 ∧ lv9 v_imageRows v_imageColumns wv_shapeRows wv_shapeColumns wv_row wv_column (5 : Int32) := fun hk => (by
    obtain ⟨j_0, j_1, j_2, j_3, j_4⟩ := a_1_13 hk
    exact ⟨j_0, j_1, j_2, j_3, lv9_fr j_4 q_15 q_16 q_13 q_14 (by omega) (by omega) (by omega) (by omega) (i_fl j_0 j_1 j_2 j_3).2.2⟩)
  exact ⟨⟨a_1_0, a_1_1, a_1_2, a_1_3, q_0, q_1, q_2, q_3, q_4, q_5, q_6, q_7, l_0, l_5⟩, ⟨a_2_0, a_2_1, a_2_2, a_2_3, a_2_4, a_2_5, q_8, q_9, q_10, q_11, q_12⟩⟩
set_option maxHeartbeats 4000000 in
set_option maxRecDepth 20000 in
theorem st9_lies {x1 : Int32} {x2 : Int32} {v_rowsOf : Int32} {v_columnsOf : Int32} {v_textMany : Int32} {v_base : Int32} {v_at : Int32} {v_ends : Int32} {v_fault : Int32} {v_opened : Int32} {v_bentMany : Int32} {v_bentWrong : Int32} {v_moreWorn : Int32} {v_planned : Int32} {v_allWrong : Int32} {v_allWorn : Int32} {v_z : Int32} {v_limit : List Int32} {v_shapeRows : List Int32} {v_shapeColumns : List Int32} {v_row : List Int32} {v_column : List Int32} {v_below : List Int32} {v_face : List Int32} {v_worn : List Int32} {v_lastBend : List Int32} {v_tape : List Int32} {v_text : List Int32} {v_names : List Int32} {v_bends : List Int32} {v_high : List Int32} {v_to : List Int32} {v_pileSize : List Int32} {v_planLine : List Int32} {v_planWay : List Int32} {v_keptMany : Int32} {v_done : Int32} {v_changeWas : List Int32} {v_changeIs : List Int32} {v_isKept : Bool} {v_imageRows : Int32} {v_imageColumns : Int32} {v_tapeMany : Int32} (g_0 : gm_ch v_keptMany v_done v_limit v_changeWas v_changeIs) (g_1 : gm_sh v_rowsOf v_columnsOf v_isKept v_imageRows v_imageColumns v_shapeRows v_shapeColumns v_row v_column v_below v_face v_worn v_lastBend) (g_2 : gm_tx v_tapeMany v_textMany v_tape v_text v_names v_bends v_high v_to v_pileSize) (g_3 : gm_pl v_planned v_planLine v_planWay) : wp (fX9_lies 700 x1 x2 v_rowsOf v_columnsOf v_textMany v_base v_at v_ends v_fault v_opened v_bentMany v_bentWrong v_moreWorn v_planned v_allWrong v_allWorn v_z v_limit v_shapeRows v_shapeColumns v_row v_column v_below v_face v_worn v_lastBend v_tape v_text v_names v_bends v_high v_to v_pileSize v_planLine v_planWay) (cu25 (fun (r : Int32) (wv_base : Int32) (wv_at : Int32) (wv_ends : Int32) (wv_fault : Int32) (wv_opened : Int32) (wv_bentMany : Int32) (wv_bentWrong : Int32) (wv_moreWorn : Int32) (wv_allWrong : Int32) (wv_allWorn : Int32) (wv_z : Int32) (wv_shapeRows : List Int32) (wv_shapeColumns : List Int32) (wv_row : List Int32) (wv_column : List Int32) (wv_below : List Int32) (wv_face : List Int32) (wv_worn : List Int32) (wv_lastBend : List Int32) (wv_names : List Int32) (wv_bends : List Int32) (wv_high : List Int32) (wv_to : List Int32) (wv_pileSize : List Int32) => gm_sh v_rowsOf v_columnsOf v_isKept v_imageRows v_imageColumns wv_shapeRows wv_shapeColumns wv_row wv_column wv_below wv_face wv_worn wv_lastBend ∧ gm_tx v_tapeMany v_textMany v_tape v_text wv_names wv_bends wv_high wv_to wv_pileSize)) := by
  obtain ⟨a_0_0, a_0_1, a_0_2, a_0_3, a_0_4, a_0_5, a_0_6, a_0_7⟩ := id g_0
  obtain ⟨a_1_0, a_1_1, a_1_2, a_1_3, a_1_4, a_1_5, a_1_6, a_1_7, a_1_8, a_1_9, a_1_10, a_1_11, a_1_12, a_1_13⟩ := id g_1
  obtain ⟨a_2_0, a_2_1, a_2_2, a_2_3, a_2_4, a_2_5, a_2_6, a_2_7, a_2_8, a_2_9, a_2_10⟩ := id g_2
  obtain ⟨a_3_0, a_3_1, a_3_2, a_3_3⟩ := id g_3
  have n0 : (0 : Int32).toInt = 0 := by decide
  have n1 : (1 : Int32).toInt = 1 := by decide
  have n5 : (5 : Int32).toInt = 5 := by decide
  refine wp_cu25 (sf_X9_lies (u_row := v_row) (u_col := v_column) (u_sR := v_shapeRows) (u_sC := v_shapeColumns) (A := 32) (B9 := 160) (a9 := 1) (b9 := 5) (Nat.le_refl 700) a_1_0 a_1_1 a_1_2 a_1_3 a_2_2 a_2_3 a_3_0 a_3_1 a_0_4 a_1_4 a_1_5 a_1_6 a_1_7 a_1_8 a_1_9 a_1_10 a_1_11 a_2_4 a_2_5 a_2_6 a_2_7 a_2_8 a_2_9 a_2_10 a_3_2 a_3_3 (fr_refl _ _ _) (fr_refl _ _ _) (fr_refl _ _ _) (fr_refl _ _ _) (by omega) (by omega) (by omega) (by omega)) (fun r wv_base wv_at wv_ends wv_fault wv_opened wv_bentMany wv_bentWrong wv_moreWorn wv_allWrong wv_allWorn wv_z wv_shapeRows wv_shapeColumns wv_row wv_column wv_below wv_face wv_worn wv_lastBend wv_names wv_bends wv_high wv_to wv_pileSize ⟨q_0, q_1, q_2, q_3, q_4, q_5, q_6, q_7, q_8, q_9, q_10, q_11, q_12, q_13, q_14, q_15, q_16⟩ => ?_)
  have l_0 : lv9 v_rowsOf v_columnsOf wv_shapeRows wv_shapeColumns wv_row wv_column (0 : Int32) := lv9_fr a_1_12 q_15 q_16 q_13 q_14 (by omega) (by omega) (by omega) (by omega) (i_fl a_1_0 a_1_1 a_1_2 a_1_3).2.2
  have l_5 : ¬ (v_isKept = false) → 1 ≤ v_imageRows.toInt ∧ v_imageRows.toInt ≤ 4 ∧ 1 ≤ v_imageColumns.toInt ∧ v_imageColumns.toInt ≤ 8 ∧ lv9 v_imageRows v_imageColumns wv_shapeRows wv_shapeColumns wv_row wv_column (5 : Int32) := fun hk => (by
    obtain ⟨j_0, j_1, j_2, j_3, j_4⟩ := a_1_13 hk
    exact ⟨j_0, j_1, j_2, j_3, lv9_fr j_4 q_15 q_16 q_13 q_14 (by omega) (by omega) (by omega) (by omega) (i_fl j_0 j_1 j_2 j_3).2.2⟩)
  exact ⟨⟨a_1_0, a_1_1, a_1_2, a_1_3, q_0, q_1, q_2, q_3, q_4, q_5, q_6, q_7, l_0, l_5⟩, ⟨a_2_0, a_2_1, a_2_2, a_2_3, a_2_4, a_2_5, q_8, q_9, q_10, q_11, q_12⟩⟩
set_option maxHeartbeats 4000000 in
set_option maxRecDepth 20000 in
theorem st9_top {x1 : Int32} {x2 : Int32} {v_rowsOf : Int32} {v_columnsOf : Int32} {v_textMany : Int32} {v_base : Int32} {v_at : Int32} {v_ends : Int32} {v_fault : Int32} {v_opened : Int32} {v_bentMany : Int32} {v_bentWrong : Int32} {v_moreWorn : Int32} {v_planned : Int32} {v_allWrong : Int32} {v_allWorn : Int32} {v_z : Int32} {v_limit : List Int32} {v_shapeRows : List Int32} {v_shapeColumns : List Int32} {v_row : List Int32} {v_column : List Int32} {v_below : List Int32} {v_face : List Int32} {v_worn : List Int32} {v_lastBend : List Int32} {v_tape : List Int32} {v_text : List Int32} {v_names : List Int32} {v_bends : List Int32} {v_high : List Int32} {v_to : List Int32} {v_pileSize : List Int32} {v_planLine : List Int32} {v_planWay : List Int32} {v_keptMany : Int32} {v_done : Int32} {v_changeWas : List Int32} {v_changeIs : List Int32} {v_isKept : Bool} {v_imageRows : Int32} {v_imageColumns : Int32} {v_tapeMany : Int32} (g_0 : gm_ch v_keptMany v_done v_limit v_changeWas v_changeIs) (g_1 : gm_sh v_rowsOf v_columnsOf v_isKept v_imageRows v_imageColumns v_shapeRows v_shapeColumns v_row v_column v_below v_face v_worn v_lastBend) (g_2 : gm_tx v_tapeMany v_textMany v_tape v_text v_names v_bends v_high v_to v_pileSize) (g_3 : gm_pl v_planned v_planLine v_planWay) : wp (fX9_top 700 x1 x2 v_rowsOf v_columnsOf v_textMany v_base v_at v_ends v_fault v_opened v_bentMany v_bentWrong v_moreWorn v_planned v_allWrong v_allWorn v_z v_limit v_shapeRows v_shapeColumns v_row v_column v_below v_face v_worn v_lastBend v_tape v_text v_names v_bends v_high v_to v_pileSize v_planLine v_planWay) (cu25 (fun (r : Int32) (wv_base : Int32) (wv_at : Int32) (wv_ends : Int32) (wv_fault : Int32) (wv_opened : Int32) (wv_bentMany : Int32) (wv_bentWrong : Int32) (wv_moreWorn : Int32) (wv_allWrong : Int32) (wv_allWorn : Int32) (wv_z : Int32) (wv_shapeRows : List Int32) (wv_shapeColumns : List Int32) (wv_row : List Int32) (wv_column : List Int32) (wv_below : List Int32) (wv_face : List Int32) (wv_worn : List Int32) (wv_lastBend : List Int32) (wv_names : List Int32) (wv_bends : List Int32) (wv_high : List Int32) (wv_to : List Int32) (wv_pileSize : List Int32) => gm_sh v_rowsOf v_columnsOf v_isKept v_imageRows v_imageColumns wv_shapeRows wv_shapeColumns wv_row wv_column wv_below wv_face wv_worn wv_lastBend ∧ gm_tx v_tapeMany v_textMany v_tape v_text wv_names wv_bends wv_high wv_to wv_pileSize)) := by
  obtain ⟨a_0_0, a_0_1, a_0_2, a_0_3, a_0_4, a_0_5, a_0_6, a_0_7⟩ := id g_0
  obtain ⟨a_1_0, a_1_1, a_1_2, a_1_3, a_1_4, a_1_5, a_1_6, a_1_7, a_1_8, a_1_9, a_1_10, a_1_11, a_1_12, a_1_13⟩ := id g_1
  obtain ⟨a_2_0, a_2_1, a_2_2, a_2_3, a_2_4, a_2_5, a_2_6, a_2_7, a_2_8, a_2_9, a_2_10⟩ := id g_2
  obtain ⟨a_3_0, a_3_1, a_3_2, a_3_3⟩ := id g_3
  have n0 : (0 : Int32).toInt = 0 := by decide
  have n1 : (1 : Int32).toInt = 1 := by decide
  have n5 : (5 : Int32).toInt = 5 := by decide
  refine wp_cu25 (sf_X9_top (u_row := v_row) (u_col := v_column) (u_sR := v_shapeRows) (u_sC := v_shapeColumns) (A := 32) (B9 := 160) (a9 := 1) (b9 := 5) (Nat.le_refl 700) a_1_0 a_1_1 a_1_2 a_1_3 a_2_2 a_2_3 a_3_0 a_3_1 a_0_4 a_1_4 a_1_5 a_1_6 a_1_7 a_1_8 a_1_9 a_1_10 a_1_11 a_2_4 a_2_5 a_2_6 a_2_7 a_2_8 a_2_9 a_2_10 a_3_2 a_3_3 (fr_refl _ _ _) (fr_refl _ _ _) (fr_refl _ _ _) (fr_refl _ _ _) (by omega) (by omega) (by omega) (by omega)) (fun r wv_base wv_at wv_ends wv_fault wv_opened wv_bentMany wv_bentWrong wv_moreWorn wv_allWrong wv_allWorn wv_z wv_shapeRows wv_shapeColumns wv_row wv_column wv_below wv_face wv_worn wv_lastBend wv_names wv_bends wv_high wv_to wv_pileSize ⟨q_0, q_1, q_2, q_3, q_4, q_5, q_6, q_7, q_8, q_9, q_10, q_11, q_12, q_13, q_14, q_15, q_16⟩ => ?_)
  have l_0 : lv9 v_rowsOf v_columnsOf wv_shapeRows wv_shapeColumns wv_row wv_column (0 : Int32) := lv9_fr a_1_12 q_15 q_16 q_13 q_14 (by omega) (by omega) (by omega) (by omega) (i_fl a_1_0 a_1_1 a_1_2 a_1_3).2.2
  have l_5 : ¬ (v_isKept = false) → 1 ≤ v_imageRows.toInt ∧ v_imageRows.toInt ≤ 4 ∧ 1 ≤ v_imageColumns.toInt ∧ v_imageColumns.toInt ≤ 8 ∧ lv9 v_imageRows v_imageColumns wv_shapeRows wv_shapeColumns wv_row wv_column (5 : Int32) := fun hk => (by
    obtain ⟨j_0, j_1, j_2, j_3, j_4⟩ := a_1_13 hk
    exact ⟨j_0, j_1, j_2, j_3, lv9_fr j_4 q_15 q_16 q_13 q_14 (by omega) (by omega) (by omega) (by omega) (i_fl j_0 j_1 j_2 j_3).2.2⟩)
  exact ⟨⟨a_1_0, a_1_1, a_1_2, a_1_3, q_0, q_1, q_2, q_3, q_4, q_5, q_6, q_7, l_0, l_5⟩, ⟨a_2_0, a_2_1, a_2_2, a_2_3, a_2_4, a_2_5, q_8, q_9, q_10, q_11, q_12⟩⟩
set_option maxHeartbeats 4000000 in
set_option maxRecDepth 20000 in
theorem st9_beside {x1 : Int32} {x2 : Int32} {v_rowsOf : Int32} {v_columnsOf : Int32} {v_textMany : Int32} {v_base : Int32} {v_at : Int32} {v_ends : Int32} {v_fault : Int32} {v_opened : Int32} {v_bentMany : Int32} {v_bentWrong : Int32} {v_moreWorn : Int32} {v_planned : Int32} {v_allWrong : Int32} {v_allWorn : Int32} {v_z : Int32} {v_limit : List Int32} {v_shapeRows : List Int32} {v_shapeColumns : List Int32} {v_row : List Int32} {v_column : List Int32} {v_below : List Int32} {v_face : List Int32} {v_worn : List Int32} {v_lastBend : List Int32} {v_tape : List Int32} {v_text : List Int32} {v_names : List Int32} {v_bends : List Int32} {v_high : List Int32} {v_to : List Int32} {v_pileSize : List Int32} {v_planLine : List Int32} {v_planWay : List Int32} {v_keptMany : Int32} {v_done : Int32} {v_changeWas : List Int32} {v_changeIs : List Int32} {v_isKept : Bool} {v_imageRows : Int32} {v_imageColumns : Int32} {v_tapeMany : Int32} (g_0 : gm_ch v_keptMany v_done v_limit v_changeWas v_changeIs) (g_1 : gm_sh v_rowsOf v_columnsOf v_isKept v_imageRows v_imageColumns v_shapeRows v_shapeColumns v_row v_column v_below v_face v_worn v_lastBend) (g_2 : gm_tx v_tapeMany v_textMany v_tape v_text v_names v_bends v_high v_to v_pileSize) (g_3 : gm_pl v_planned v_planLine v_planWay) : wp (fX9_beside 700 x1 x2 v_rowsOf v_columnsOf v_textMany v_base v_at v_ends v_fault v_opened v_bentMany v_bentWrong v_moreWorn v_planned v_allWrong v_allWorn v_z v_limit v_shapeRows v_shapeColumns v_row v_column v_below v_face v_worn v_lastBend v_tape v_text v_names v_bends v_high v_to v_pileSize v_planLine v_planWay) (cu25 (fun (r : Int32) (wv_base : Int32) (wv_at : Int32) (wv_ends : Int32) (wv_fault : Int32) (wv_opened : Int32) (wv_bentMany : Int32) (wv_bentWrong : Int32) (wv_moreWorn : Int32) (wv_allWrong : Int32) (wv_allWorn : Int32) (wv_z : Int32) (wv_shapeRows : List Int32) (wv_shapeColumns : List Int32) (wv_row : List Int32) (wv_column : List Int32) (wv_below : List Int32) (wv_face : List Int32) (wv_worn : List Int32) (wv_lastBend : List Int32) (wv_names : List Int32) (wv_bends : List Int32) (wv_high : List Int32) (wv_to : List Int32) (wv_pileSize : List Int32) => gm_sh v_rowsOf v_columnsOf v_isKept v_imageRows v_imageColumns wv_shapeRows wv_shapeColumns wv_row wv_column wv_below wv_face wv_worn wv_lastBend ∧ gm_tx v_tapeMany v_textMany v_tape v_text wv_names wv_bends wv_high wv_to wv_pileSize)) := by
  obtain ⟨a_0_0, a_0_1, a_0_2, a_0_3, a_0_4, a_0_5, a_0_6, a_0_7⟩ := id g_0
  obtain ⟨a_1_0, a_1_1, a_1_2, a_1_3, a_1_4, a_1_5, a_1_6, a_1_7, a_1_8, a_1_9, a_1_10, a_1_11, a_1_12, a_1_13⟩ := id g_1
  obtain ⟨a_2_0, a_2_1, a_2_2, a_2_3, a_2_4, a_2_5, a_2_6, a_2_7, a_2_8, a_2_9, a_2_10⟩ := id g_2
  obtain ⟨a_3_0, a_3_1, a_3_2, a_3_3⟩ := id g_3
  have n0 : (0 : Int32).toInt = 0 := by decide
  have n1 : (1 : Int32).toInt = 1 := by decide
  have n5 : (5 : Int32).toInt = 5 := by decide
  refine wp_cu25 (sf_X9_beside (u_row := v_row) (u_col := v_column) (u_sR := v_shapeRows) (u_sC := v_shapeColumns) (A := 32) (B9 := 160) (a9 := 1) (b9 := 5) (Nat.le_refl 700) a_1_0 a_1_1 a_1_2 a_1_3 a_2_2 a_2_3 a_3_0 a_3_1 a_0_4 a_1_4 a_1_5 a_1_6 a_1_7 a_1_8 a_1_9 a_1_10 a_1_11 a_2_4 a_2_5 a_2_6 a_2_7 a_2_8 a_2_9 a_2_10 a_3_2 a_3_3 (fr_refl _ _ _) (fr_refl _ _ _) (fr_refl _ _ _) (fr_refl _ _ _) (by omega) (by omega) (by omega) (by omega)) (fun r wv_base wv_at wv_ends wv_fault wv_opened wv_bentMany wv_bentWrong wv_moreWorn wv_allWrong wv_allWorn wv_z wv_shapeRows wv_shapeColumns wv_row wv_column wv_below wv_face wv_worn wv_lastBend wv_names wv_bends wv_high wv_to wv_pileSize ⟨q_0, q_1, q_2, q_3, q_4, q_5, q_6, q_7, q_8, q_9, q_10, q_11, q_12, q_13, q_14, q_15, q_16⟩ => ?_)
  have l_0 : lv9 v_rowsOf v_columnsOf wv_shapeRows wv_shapeColumns wv_row wv_column (0 : Int32) := lv9_fr a_1_12 q_15 q_16 q_13 q_14 (by omega) (by omega) (by omega) (by omega) (i_fl a_1_0 a_1_1 a_1_2 a_1_3).2.2
  have l_5 : ¬ (v_isKept = false) → 1 ≤ v_imageRows.toInt ∧ v_imageRows.toInt ≤ 4 ∧ 1 ≤ v_imageColumns.toInt ∧ v_imageColumns.toInt ≤ 8 ∧ lv9 v_imageRows v_imageColumns wv_shapeRows wv_shapeColumns wv_row wv_column (5 : Int32) := fun hk => (by
    obtain ⟨j_0, j_1, j_2, j_3, j_4⟩ := a_1_13 hk
    exact ⟨j_0, j_1, j_2, j_3, lv9_fr j_4 q_15 q_16 q_13 q_14 (by omega) (by omega) (by omega) (by omega) (i_fl j_0 j_1 j_2 j_3).2.2⟩)
  exact ⟨⟨a_1_0, a_1_1, a_1_2, a_1_3, q_0, q_1, q_2, q_3, q_4, q_5, q_6, q_7, l_0, l_5⟩, ⟨a_2_0, a_2_1, a_2_2, a_2_3, a_2_4, a_2_5, q_8, q_9, q_10, q_11, q_12⟩⟩
set_option maxHeartbeats 4000000 in
set_option maxRecDepth 20000 in
theorem st9_wished {x1 : Int32} {x2 : Int32} {v_rowsOf : Int32} {v_columnsOf : Int32} {v_textMany : Int32} {v_base : Int32} {v_at : Int32} {v_ends : Int32} {v_fault : Int32} {v_opened : Int32} {v_bentMany : Int32} {v_bentWrong : Int32} {v_moreWorn : Int32} {v_wishedField : Int32} {v_isFound : Bool} {v_bestWrong : Int32} {v_bestWorn : Int32} {v_bestMany : Int32} {v_limit : List Int32} {v_shapeRows : List Int32} {v_shapeColumns : List Int32} {v_row : List Int32} {v_column : List Int32} {v_below : List Int32} {v_face : List Int32} {v_worn : List Int32} {v_lastBend : List Int32} {v_tape : List Int32} {v_text : List Int32} {v_names : List Int32} {v_bends : List Int32} {v_high : List Int32} {v_to : List Int32} {v_pileSize : List Int32} {v_way1 : List Int32} {v_bestWay : List Int32} {v_keptMany : Int32} {v_done : Int32} {v_changeWas : List Int32} {v_changeIs : List Int32} {v_isKept : Bool} {v_imageRows : Int32} {v_imageColumns : Int32} {v_tapeMany : Int32} (g_0 : gm_ch v_keptMany v_done v_limit v_changeWas v_changeIs) (g_1 : gm_sh v_rowsOf v_columnsOf v_isKept v_imageRows v_imageColumns v_shapeRows v_shapeColumns v_row v_column v_below v_face v_worn v_lastBend) (g_2 : gm_tx v_tapeMany v_textMany v_tape v_text v_names v_bends v_high v_to v_pileSize) (g_3 : gm_se v_bestMany v_way1 v_bestWay) : wp (fX9_wished 700 x1 x2 v_rowsOf v_columnsOf v_textMany v_base v_at v_ends v_fault v_opened v_bentMany v_bentWrong v_moreWorn v_wishedField v_isFound v_bestWrong v_bestWorn v_bestMany v_limit v_shapeRows v_shapeColumns v_row v_column v_below v_face v_worn v_lastBend v_tape v_text v_names v_bends v_high v_to v_pileSize v_way1 v_bestWay) (cu29 (fun (r : Int32) (wv_base : Int32) (wv_at : Int32) (wv_ends : Int32) (wv_fault : Int32) (wv_opened : Int32) (wv_bentMany : Int32) (wv_bentWrong : Int32) (wv_moreWorn : Int32) (wv_wishedField : Int32) (wv_isFound : Bool) (wv_bestWrong : Int32) (wv_bestWorn : Int32) (wv_bestMany : Int32) (wv_shapeRows : List Int32) (wv_shapeColumns : List Int32) (wv_row : List Int32) (wv_column : List Int32) (wv_below : List Int32) (wv_face : List Int32) (wv_worn : List Int32) (wv_lastBend : List Int32) (wv_names : List Int32) (wv_bends : List Int32) (wv_high : List Int32) (wv_to : List Int32) (wv_pileSize : List Int32) (wv_way1 : List Int32) (wv_bestWay : List Int32) => gm_sh v_rowsOf v_columnsOf v_isKept v_imageRows v_imageColumns wv_shapeRows wv_shapeColumns wv_row wv_column wv_below wv_face wv_worn wv_lastBend ∧ gm_tx v_tapeMany v_textMany v_tape v_text wv_names wv_bends wv_high wv_to wv_pileSize ∧ gm_se wv_bestMany wv_way1 wv_bestWay)) := by
  obtain ⟨a_0_0, a_0_1, a_0_2, a_0_3, a_0_4, a_0_5, a_0_6, a_0_7⟩ := id g_0
  obtain ⟨a_1_0, a_1_1, a_1_2, a_1_3, a_1_4, a_1_5, a_1_6, a_1_7, a_1_8, a_1_9, a_1_10, a_1_11, a_1_12, a_1_13⟩ := id g_1
  obtain ⟨a_2_0, a_2_1, a_2_2, a_2_3, a_2_4, a_2_5, a_2_6, a_2_7, a_2_8, a_2_9, a_2_10⟩ := id g_2
  obtain ⟨a_3_0, a_3_1, a_3_2, a_3_3⟩ := id g_3
  have n0 : (0 : Int32).toInt = 0 := by decide
  have n1 : (1 : Int32).toInt = 1 := by decide
  have n5 : (5 : Int32).toInt = 5 := by decide
  refine wp_cu29 (sf_X9_wished (u_row := v_row) (u_col := v_column) (u_sR := v_shapeRows) (u_sC := v_shapeColumns) (A := 32) (B9 := 160) (a9 := 1) (b9 := 5) (Nat.le_refl 700) a_1_0 a_1_1 a_1_2 a_1_3 a_2_2 a_2_3 a_3_0 a_3_1 a_0_4 a_1_4 a_1_5 a_1_6 a_1_7 a_1_8 a_1_9 a_1_10 a_1_11 a_2_4 a_2_5 a_2_6 a_2_7 a_2_8 a_2_9 a_2_10 a_3_2 a_3_3 (fr_refl _ _ _) (fr_refl _ _ _) (fr_refl _ _ _) (fr_refl _ _ _) (by omega) (by omega) (by omega) (by omega)) (fun r wv_base wv_at wv_ends wv_fault wv_opened wv_bentMany wv_bentWrong wv_moreWorn wv_wishedField wv_isFound wv_bestWrong wv_bestWorn wv_bestMany wv_shapeRows wv_shapeColumns wv_row wv_column wv_below wv_face wv_worn wv_lastBend wv_names wv_bends wv_high wv_to wv_pileSize wv_way1 wv_bestWay ⟨q_0, q_1, q_2, q_3, q_4, q_5, q_6, q_7, q_8, q_9, q_10, q_11, q_12, q_13, q_14, q_15, q_16, q_17, q_18, q_19, q_20⟩ => ?_)
  have l_0 : lv9 v_rowsOf v_columnsOf wv_shapeRows wv_shapeColumns wv_row wv_column (0 : Int32) := lv9_fr a_1_12 q_19 q_20 q_17 q_18 (by omega) (by omega) (by omega) (by omega) (i_fl a_1_0 a_1_1 a_1_2 a_1_3).2.2
  have l_5 : ¬ (v_isKept = false) → 1 ≤ v_imageRows.toInt ∧ v_imageRows.toInt ≤ 4 ∧ 1 ≤ v_imageColumns.toInt ∧ v_imageColumns.toInt ≤ 8 ∧ lv9 v_imageRows v_imageColumns wv_shapeRows wv_shapeColumns wv_row wv_column (5 : Int32) := fun hk => (by
    obtain ⟨j_0, j_1, j_2, j_3, j_4⟩ := a_1_13 hk
    exact ⟨j_0, j_1, j_2, j_3, lv9_fr j_4 q_19 q_20 q_17 q_18 (by omega) (by omega) (by omega) (by omega) (i_fl j_0 j_1 j_2 j_3).2.2⟩)
  exact ⟨⟨a_1_0, a_1_1, a_1_2, a_1_3, q_2, q_3, q_4, q_5, q_6, q_7, q_8, q_9, l_0, l_5⟩, ⟨a_2_0, a_2_1, a_2_2, a_2_3, a_2_4, a_2_5, q_10, q_11, q_12, q_13, q_14⟩, ⟨q_0, q_1, q_15, q_16⟩⟩
set_option maxHeartbeats 4000000 in
set_option maxRecDepth 20000 in
theorem st9_right {x1 : Int32} {v_rowsOf : Int32} {v_columnsOf : Int32} {v_textMany : Int32} {v_base : Int32} {v_at : Int32} {v_ends : Int32} {v_fault : Int32} {v_opened : Int32} {v_bentMany : Int32} {v_bentWrong : Int32} {v_moreWorn : Int32} {v_wishedField : Int32} {v_isFound : Bool} {v_bestWrong : Int32} {v_bestWorn : Int32} {v_bestMany : Int32} {v_limit : List Int32} {v_shapeRows : List Int32} {v_shapeColumns : List Int32} {v_row : List Int32} {v_column : List Int32} {v_below : List Int32} {v_face : List Int32} {v_worn : List Int32} {v_lastBend : List Int32} {v_tape : List Int32} {v_text : List Int32} {v_names : List Int32} {v_bends : List Int32} {v_high : List Int32} {v_to : List Int32} {v_pileSize : List Int32} {v_way1 : List Int32} {v_bestWay : List Int32} {v_keptMany : Int32} {v_done : Int32} {v_changeWas : List Int32} {v_changeIs : List Int32} {v_isKept : Bool} {v_imageRows : Int32} {v_imageColumns : Int32} {v_tapeMany : Int32} (g_0 : gm_ch v_keptMany v_done v_limit v_changeWas v_changeIs) (g_1 : gm_sh v_rowsOf v_columnsOf v_isKept v_imageRows v_imageColumns v_shapeRows v_shapeColumns v_row v_column v_below v_face v_worn v_lastBend) (g_2 : gm_tx v_tapeMany v_textMany v_tape v_text v_names v_bends v_high v_to v_pileSize) (g_3 : gm_se v_bestMany v_way1 v_bestWay) : wp (fX9_right 700 x1 v_rowsOf v_columnsOf v_textMany v_base v_at v_ends v_fault v_opened v_bentMany v_bentWrong v_moreWorn v_wishedField v_isFound v_bestWrong v_bestWorn v_bestMany v_limit v_shapeRows v_shapeColumns v_row v_column v_below v_face v_worn v_lastBend v_tape v_text v_names v_bends v_high v_to v_pileSize v_way1 v_bestWay) (cu29 (fun (r : Int32) (wv_base : Int32) (wv_at : Int32) (wv_ends : Int32) (wv_fault : Int32) (wv_opened : Int32) (wv_bentMany : Int32) (wv_bentWrong : Int32) (wv_moreWorn : Int32) (wv_wishedField : Int32) (wv_isFound : Bool) (wv_bestWrong : Int32) (wv_bestWorn : Int32) (wv_bestMany : Int32) (wv_shapeRows : List Int32) (wv_shapeColumns : List Int32) (wv_row : List Int32) (wv_column : List Int32) (wv_below : List Int32) (wv_face : List Int32) (wv_worn : List Int32) (wv_lastBend : List Int32) (wv_names : List Int32) (wv_bends : List Int32) (wv_high : List Int32) (wv_to : List Int32) (wv_pileSize : List Int32) (wv_way1 : List Int32) (wv_bestWay : List Int32) => gm_sh v_rowsOf v_columnsOf v_isKept v_imageRows v_imageColumns wv_shapeRows wv_shapeColumns wv_row wv_column wv_below wv_face wv_worn wv_lastBend ∧ gm_tx v_tapeMany v_textMany v_tape v_text wv_names wv_bends wv_high wv_to wv_pileSize ∧ gm_se wv_bestMany wv_way1 wv_bestWay)) := by
  obtain ⟨a_0_0, a_0_1, a_0_2, a_0_3, a_0_4, a_0_5, a_0_6, a_0_7⟩ := id g_0
  obtain ⟨a_1_0, a_1_1, a_1_2, a_1_3, a_1_4, a_1_5, a_1_6, a_1_7, a_1_8, a_1_9, a_1_10, a_1_11, a_1_12, a_1_13⟩ := id g_1
  obtain ⟨a_2_0, a_2_1, a_2_2, a_2_3, a_2_4, a_2_5, a_2_6, a_2_7, a_2_8, a_2_9, a_2_10⟩ := id g_2
  obtain ⟨a_3_0, a_3_1, a_3_2, a_3_3⟩ := id g_3
  have n0 : (0 : Int32).toInt = 0 := by decide
  have n1 : (1 : Int32).toInt = 1 := by decide
  have n5 : (5 : Int32).toInt = 5 := by decide
  refine wp_cu29 (sf_X9_right (u_row := v_row) (u_col := v_column) (u_sR := v_shapeRows) (u_sC := v_shapeColumns) (A := 32) (B9 := 160) (a9 := 1) (b9 := 5) (Nat.le_refl 700) a_1_0 a_1_1 a_1_2 a_1_3 a_2_2 a_2_3 a_3_0 a_3_1 a_0_4 a_1_4 a_1_5 a_1_6 a_1_7 a_1_8 a_1_9 a_1_10 a_1_11 a_2_4 a_2_5 a_2_6 a_2_7 a_2_8 a_2_9 a_2_10 a_3_2 a_3_3 (fr_refl _ _ _) (fr_refl _ _ _) (fr_refl _ _ _) (fr_refl _ _ _) (by omega) (by omega) (by omega) (by omega)) (fun r wv_base wv_at wv_ends wv_fault wv_opened wv_bentMany wv_bentWrong wv_moreWorn wv_wishedField wv_isFound wv_bestWrong wv_bestWorn wv_bestMany wv_shapeRows wv_shapeColumns wv_row wv_column wv_below wv_face wv_worn wv_lastBend wv_names wv_bends wv_high wv_to wv_pileSize wv_way1 wv_bestWay ⟨q_0, q_1, q_2, q_3, q_4, q_5, q_6, q_7, q_8, q_9, q_10, q_11, q_12, q_13, q_14, q_15, q_16, q_17, q_18, q_19, q_20⟩ => ?_)
  have l_0 : lv9 v_rowsOf v_columnsOf wv_shapeRows wv_shapeColumns wv_row wv_column (0 : Int32) := lv9_fr a_1_12 q_19 q_20 q_17 q_18 (by omega) (by omega) (by omega) (by omega) (i_fl a_1_0 a_1_1 a_1_2 a_1_3).2.2
  have l_5 : ¬ (v_isKept = false) → 1 ≤ v_imageRows.toInt ∧ v_imageRows.toInt ≤ 4 ∧ 1 ≤ v_imageColumns.toInt ∧ v_imageColumns.toInt ≤ 8 ∧ lv9 v_imageRows v_imageColumns wv_shapeRows wv_shapeColumns wv_row wv_column (5 : Int32) := fun hk => (by
    obtain ⟨j_0, j_1, j_2, j_3, j_4⟩ := a_1_13 hk
    exact ⟨j_0, j_1, j_2, j_3, lv9_fr j_4 q_19 q_20 q_17 q_18 (by omega) (by omega) (by omega) (by omega) (i_fl j_0 j_1 j_2 j_3).2.2⟩)
  exact ⟨⟨a_1_0, a_1_1, a_1_2, a_1_3, q_2, q_3, q_4, q_5, q_6, q_7, q_8, q_9, l_0, l_5⟩, ⟨a_2_0, a_2_1, a_2_2, a_2_3, a_2_4, a_2_5, q_10, q_11, q_12, q_13, q_14⟩, ⟨q_0, q_1, q_15, q_16⟩⟩
set_option maxHeartbeats 4000000 in
set_option maxRecDepth 20000 in
theorem st9_wind {x1 : Int32} {x2 : Int32} {x3 : Int32} {v_rowsOf : Int32} {v_columnsOf : Int32} {v_textMany : Int32} {v_base : Int32} {v_at : Int32} {v_ends : Int32} {v_fault : Int32} {v_opened : Int32} {v_bentMany : Int32} {v_bentWrong : Int32} {v_moreWorn : Int32} {v_planned : Int32} {v_allWrong : Int32} {v_allWorn : Int32} {v_z : Int32} {v_limit : List Int32} {v_shapeRows : List Int32} {v_shapeColumns : List Int32} {v_row : List Int32} {v_column : List Int32} {v_below : List Int32} {v_face : List Int32} {v_worn : List Int32} {v_lastBend : List Int32} {v_tape : List Int32} {v_text : List Int32} {v_names : List Int32} {v_bends : List Int32} {v_high : List Int32} {v_to : List Int32} {v_pileSize : List Int32} {v_planLine : List Int32} {v_planWay : List Int32} {v_keptMany : Int32} {v_done : Int32} {v_changeWas : List Int32} {v_changeIs : List Int32} {v_isKept : Bool} {v_imageRows : Int32} {v_imageColumns : Int32} {v_tapeMany : Int32} (g_0 : gm_ch v_keptMany v_done v_limit v_changeWas v_changeIs) (g_1 : gm_sh v_rowsOf v_columnsOf v_isKept v_imageRows v_imageColumns v_shapeRows v_shapeColumns v_row v_column v_below v_face v_worn v_lastBend) (g_2 : gm_tx v_tapeMany v_textMany v_tape v_text v_names v_bends v_high v_to v_pileSize) (g_3 : gm_pl v_planned v_planLine v_planWay) : wp (fX9_wind 700 x1 x2 x3 v_rowsOf v_columnsOf v_textMany v_base v_at v_ends v_fault v_opened v_bentMany v_bentWrong v_moreWorn v_planned v_allWrong v_allWorn v_z v_limit v_shapeRows v_shapeColumns v_row v_column v_below v_face v_worn v_lastBend v_tape v_text v_names v_bends v_high v_to v_pileSize v_planLine v_planWay) (cu25 (fun (r : Int32) (wv_base : Int32) (wv_at : Int32) (wv_ends : Int32) (wv_fault : Int32) (wv_opened : Int32) (wv_bentMany : Int32) (wv_bentWrong : Int32) (wv_moreWorn : Int32) (wv_allWrong : Int32) (wv_allWorn : Int32) (wv_z : Int32) (wv_shapeRows : List Int32) (wv_shapeColumns : List Int32) (wv_row : List Int32) (wv_column : List Int32) (wv_below : List Int32) (wv_face : List Int32) (wv_worn : List Int32) (wv_lastBend : List Int32) (wv_names : List Int32) (wv_bends : List Int32) (wv_high : List Int32) (wv_to : List Int32) (wv_pileSize : List Int32) => gm_sh v_rowsOf v_columnsOf v_isKept v_imageRows v_imageColumns wv_shapeRows wv_shapeColumns wv_row wv_column wv_below wv_face wv_worn wv_lastBend ∧ gm_tx v_tapeMany v_textMany v_tape v_text wv_names wv_bends wv_high wv_to wv_pileSize)) := by
  obtain ⟨a_0_0, a_0_1, a_0_2, a_0_3, a_0_4, a_0_5, a_0_6, a_0_7⟩ := id g_0
  obtain ⟨a_1_0, a_1_1, a_1_2, a_1_3, a_1_4, a_1_5, a_1_6, a_1_7, a_1_8, a_1_9, a_1_10, a_1_11, a_1_12, a_1_13⟩ := id g_1
  obtain ⟨a_2_0, a_2_1, a_2_2, a_2_3, a_2_4, a_2_5, a_2_6, a_2_7, a_2_8, a_2_9, a_2_10⟩ := id g_2
  obtain ⟨a_3_0, a_3_1, a_3_2, a_3_3⟩ := id g_3
  have n0 : (0 : Int32).toInt = 0 := by decide
  have n1 : (1 : Int32).toInt = 1 := by decide
  have n5 : (5 : Int32).toInt = 5 := by decide
  refine wp_cu25 (sf_X9_wind (u_row := v_row) (u_col := v_column) (u_sR := v_shapeRows) (u_sC := v_shapeColumns) (A := 32) (B9 := 160) (a9 := 1) (b9 := 5) (Nat.le_refl 700) a_1_0 a_1_1 a_1_2 a_1_3 a_2_2 a_2_3 a_3_0 a_3_1 a_0_4 a_1_4 a_1_5 a_1_6 a_1_7 a_1_8 a_1_9 a_1_10 a_1_11 a_2_4 a_2_5 a_2_6 a_2_7 a_2_8 a_2_9 a_2_10 a_3_2 a_3_3 (fr_refl _ _ _) (fr_refl _ _ _) (fr_refl _ _ _) (fr_refl _ _ _) (by omega) (by omega) (by omega) (by omega)) (fun r wv_base wv_at wv_ends wv_fault wv_opened wv_bentMany wv_bentWrong wv_moreWorn wv_allWrong wv_allWorn wv_z wv_shapeRows wv_shapeColumns wv_row wv_column wv_below wv_face wv_worn wv_lastBend wv_names wv_bends wv_high wv_to wv_pileSize ⟨q_0, q_1, q_2, q_3, q_4, q_5, q_6, q_7, q_8, q_9, q_10, q_11, q_12, q_13, q_14, q_15, q_16⟩ => ?_)
  have l_0 : lv9 v_rowsOf v_columnsOf wv_shapeRows wv_shapeColumns wv_row wv_column (0 : Int32) := lv9_fr a_1_12 q_15 q_16 q_13 q_14 (by omega) (by omega) (by omega) (by omega) (i_fl a_1_0 a_1_1 a_1_2 a_1_3).2.2
  have l_5 : ¬ (v_isKept = false) → 1 ≤ v_imageRows.toInt ∧ v_imageRows.toInt ≤ 4 ∧ 1 ≤ v_imageColumns.toInt ∧ v_imageColumns.toInt ≤ 8 ∧ lv9 v_imageRows v_imageColumns wv_shapeRows wv_shapeColumns wv_row wv_column (5 : Int32) := fun hk => (by
    obtain ⟨j_0, j_1, j_2, j_3, j_4⟩ := a_1_13 hk
    exact ⟨j_0, j_1, j_2, j_3, lv9_fr j_4 q_15 q_16 q_13 q_14 (by omega) (by omega) (by omega) (by omega) (i_fl j_0 j_1 j_2 j_3).2.2⟩)
  exact ⟨⟨a_1_0, a_1_1, a_1_2, a_1_3, q_0, q_1, q_2, q_3, q_4, q_5, q_6, q_7, l_0, l_5⟩, ⟨a_2_0, a_2_1, a_2_2, a_2_3, a_2_4, a_2_5, q_8, q_9, q_10, q_11, q_12⟩⟩
set_option maxHeartbeats 4000000 in
set_option maxRecDepth 20000 in
theorem st9_crosses {x1 : Int32} {x2 : Int32} {v_order1 : List Int32} {v_placeIn : List Int32} (g_0 : gm_or v_order1 v_placeIn) : wp (fX9_crosses 700 x1 x2 v_order1 v_placeIn) (cu3 (fun (r : Int32) (wv_order1 : List Int32) (wv_placeIn : List Int32) => gm_or wv_order1 wv_placeIn)) := by
  obtain ⟨a_0_0, a_0_1⟩ := id g_0
  refine wp_cu3 (sf_X9_crosses (Nat.le_refl 700) a_0_0 a_0_1) (fun r wv_order1 wv_placeIn ⟨q_0, q_1⟩ => ?_)
  exact ⟨q_0, q_1⟩
set_option maxHeartbeats 4000000 in
set_option maxRecDepth 20000 in
theorem st9_orders {x1 : Int32} {x2 : Int32} {v_soughtBy : Int32} {v_sought : Int32} {v_soughtAt : Int32} {v_foundMany : Int32} {v_foundOrder : Int32} {v_order1 : List Int32} {v_placeIn : List Int32} (g_0 : gm_or v_order1 v_placeIn) : wp (fX9_orders 700 x1 x2 v_soughtBy v_sought v_soughtAt v_foundMany v_foundOrder v_order1 v_placeIn) (cu8 (fun (r : Int32) (wv_soughtBy : Int32) (wv_sought : Int32) (wv_soughtAt : Int32) (wv_foundMany : Int32) (wv_foundOrder : Int32) (wv_order1 : List Int32) (wv_placeIn : List Int32) => gm_or wv_order1 wv_placeIn)) := by
  obtain ⟨a_0_0, a_0_1⟩ := id g_0
  refine wp_cu8 (sf_X9_orders (Nat.le_refl 700) a_0_0 a_0_1) (fun r wv_soughtBy wv_sought wv_soughtAt wv_foundMany wv_foundOrder wv_order1 wv_placeIn ⟨q_0, q_1⟩ => ?_)
  exact ⟨q_0, q_1⟩
set_option maxHeartbeats 4000000 in
set_option maxRecDepth 20000 in
theorem st9_bends {x1 : Int32} {x2 : Int32} {v_order1 : List Int32} {v_placeIn : List Int32} (g_0 : gm_or v_order1 v_placeIn) : wp (fX9_bends 700 x1 x2 v_order1 v_placeIn) (cu3 (fun (r : Int32) (wv_order1 : List Int32) (wv_placeIn : List Int32) => gm_or wv_order1 wv_placeIn)) := by
  obtain ⟨a_0_0, a_0_1⟩ := id g_0
  refine wp_cu3 (sf_X9_bends (Nat.le_refl 700) a_0_0 a_0_1) (fun r wv_order1 wv_placeIn ⟨q_0, q_1⟩ => ?_)
  exact ⟨q_0, q_1⟩
set_option maxHeartbeats 4000000 in
set_option maxRecDepth 20000 in
theorem st9_by {x1 : Int32} {x2 : Int32} {x3 : Int32} {v_soughtBy : Int32} {v_sought : Int32} {v_soughtAt : Int32} {v_foundMany : Int32} {v_foundOrder : Int32} {v_order1 : List Int32} {v_placeIn : List Int32} (g_0 : gm_or v_order1 v_placeIn) : wp (fX9_by 700 x1 x2 x3 v_soughtBy v_sought v_soughtAt v_foundMany v_foundOrder v_order1 v_placeIn) (cu8 (fun (r : Int32) (wv_soughtBy : Int32) (wv_sought : Int32) (wv_soughtAt : Int32) (wv_foundMany : Int32) (wv_foundOrder : Int32) (wv_order1 : List Int32) (wv_placeIn : List Int32) => gm_or wv_order1 wv_placeIn)) := by
  obtain ⟨a_0_0, a_0_1⟩ := id g_0
  refine wp_cu8 (sf_X9_by (Nat.le_refl 700) a_0_0 a_0_1) (fun r wv_soughtBy wv_sought wv_soughtAt wv_foundMany wv_foundOrder wv_order1 wv_placeIn ⟨q_0, q_1⟩ => ?_)
  exact ⟨q_0, q_1⟩
set_option maxHeartbeats 4000000 in
set_option maxRecDepth 20000 in
theorem st9_with {x1 : Int32} {x2 : Int32} {v_soughtBy : Int32} {v_sought : Int32} {v_soughtAt : Int32} {v_foundMany : Int32} {v_foundOrder : Int32} {v_order1 : List Int32} {v_placeIn : List Int32} (g_0 : gm_or v_order1 v_placeIn) : wp (fX9_with 700 x1 x2 v_soughtBy v_sought v_soughtAt v_foundMany v_foundOrder v_order1 v_placeIn) (cu8 (fun (r : Int32) (wv_soughtBy : Int32) (wv_sought : Int32) (wv_soughtAt : Int32) (wv_foundMany : Int32) (wv_foundOrder : Int32) (wv_order1 : List Int32) (wv_placeIn : List Int32) => gm_or wv_order1 wv_placeIn)) := by
  obtain ⟨a_0_0, a_0_1⟩ := id g_0
  refine wp_cu8 (sf_X9_with (Nat.le_refl 700) a_0_0 a_0_1) (fun r wv_soughtBy wv_sought wv_soughtAt wv_foundMany wv_foundOrder wv_order1 wv_placeIn ⟨q_0, q_1⟩ => ?_)
  exact ⟨q_0, q_1⟩
set_option maxHeartbeats 4000000 in
set_option maxRecDepth 20000 in
theorem st9_image {v_rowsOf : Int32} {v_columnsOf : Int32} {v_folded : Int32} {v_wronged : Int32} {v_isKept : Bool} {v_imageRows : Int32} {v_imageColumns : Int32} {v_imageFolded : Int32} {v_imageWronged : Int32} {v_shapeRows : List Int32} {v_shapeColumns : List Int32} {v_row : List Int32} {v_column : List Int32} {v_below : List Int32} {v_face : List Int32} {v_worn : List Int32} {v_lastBend : List Int32} (g_0 : gm_sh v_rowsOf v_columnsOf v_isKept v_imageRows v_imageColumns v_shapeRows v_shapeColumns v_row v_column v_below v_face v_worn v_lastBend) : wp (fX9_image 700 v_rowsOf v_columnsOf v_folded v_wronged v_isKept v_imageRows v_imageColumns v_imageFolded v_imageWronged v_shapeRows v_shapeColumns v_row v_column v_below v_face v_worn v_lastBend) (cu14 (fun (r : Int32) (wv_isKept : Bool) (wv_imageRows : Int32) (wv_imageColumns : Int32) (wv_imageFolded : Int32) (wv_imageWronged : Int32) (wv_shapeRows : List Int32) (wv_shapeColumns : List Int32) (wv_row : List Int32) (wv_column : List Int32) (wv_below : List Int32) (wv_face : List Int32) (wv_worn : List Int32) (wv_lastBend : List Int32) => gm_sh v_rowsOf v_columnsOf wv_isKept wv_imageRows wv_imageColumns wv_shapeRows wv_shapeColumns wv_row wv_column wv_below wv_face wv_worn wv_lastBend)) := by
  obtain ⟨a_0_0, a_0_1, a_0_2, a_0_3, a_0_4, a_0_5, a_0_6, a_0_7, a_0_8, a_0_9, a_0_10, a_0_11, a_0_12, a_0_13⟩ := id g_0
  have n0 : (0 : Int32).toInt = 0 := by decide
  have n1 : (1 : Int32).toInt = 1 := by decide
  have n5 : (5 : Int32).toInt = 5 := by decide
  refine wp_cu14 (sf_X9_image (u_row := v_row) (u_col := v_column) (u_sR := v_shapeRows) (u_sC := v_shapeColumns) (A := 160) (B9 := 192) (a9 := 5) (b9 := 6) (Nat.le_refl 700) a_0_0 a_0_1 a_0_2 a_0_3 a_0_4 a_0_5 a_0_6 a_0_7 a_0_8 a_0_9 a_0_10 a_0_11 (fr_refl _ _ _) (fr_refl _ _ _) (fr_refl _ _ _) (fr_refl _ _ _) (by omega) (by omega) (by omega) (by omega) a_0_12) (fun r wv_isKept wv_imageRows wv_imageColumns wv_imageFolded wv_imageWronged wv_shapeRows wv_shapeColumns wv_row wv_column wv_below wv_face wv_worn wv_lastBend ⟨q_0, q_1, q_2, q_3, q_4, q_5, q_6, q_7, q_8, q_9, q_10, q_11, q_12, q_13, q_14, q_15, q_16⟩ => ?_)
  have l_0 : lv9 v_rowsOf v_columnsOf wv_shapeRows wv_shapeColumns wv_row wv_column (0 : Int32) := lv9_fr a_0_12 q_10 q_11 q_8 q_9 (by omega) (by omega) (by omega) (by omega) (i_fl a_0_0 a_0_1 a_0_2 a_0_3).2.2
  exact ⟨a_0_0, a_0_1, a_0_2, a_0_3, q_0, q_1, q_2, q_3, q_4, q_5, q_6, q_7, l_0, (fun _ => ⟨q_13, q_14, q_15, q_16, q_12⟩)⟩
set_option maxHeartbeats 4000000 in
set_option maxRecDepth 20000 in
theorem st9_back {v_rowsOf : Int32} {v_columnsOf : Int32} {v_folded : Int32} {v_wronged : Int32} {v_isKept : Bool} {v_imageRows : Int32} {v_imageColumns : Int32} {v_imageFolded : Int32} {v_imageWronged : Int32} {v_shapeRows : List Int32} {v_shapeColumns : List Int32} {v_row : List Int32} {v_column : List Int32} {v_below : List Int32} {v_face : List Int32} {v_worn : List Int32} {v_lastBend : List Int32} (g_0 : gm_sh v_rowsOf v_columnsOf v_isKept v_imageRows v_imageColumns v_shapeRows v_shapeColumns v_row v_column v_below v_face v_worn v_lastBend) : wp (fX9_back 700 v_rowsOf v_columnsOf v_folded v_wronged v_isKept v_imageRows v_imageColumns v_imageFolded v_imageWronged v_shapeRows v_shapeColumns v_row v_column v_below v_face v_worn v_lastBend) (cu13 (fun (r : Int32) (wv_rowsOf : Int32) (wv_columnsOf : Int32) (wv_folded : Int32) (wv_wronged : Int32) (wv_shapeRows : List Int32) (wv_shapeColumns : List Int32) (wv_row : List Int32) (wv_column : List Int32) (wv_below : List Int32) (wv_face : List Int32) (wv_worn : List Int32) (wv_lastBend : List Int32) => gm_sh wv_rowsOf wv_columnsOf v_isKept v_imageRows v_imageColumns wv_shapeRows wv_shapeColumns wv_row wv_column wv_below wv_face wv_worn wv_lastBend)) := by
  obtain ⟨a_0_0, a_0_1, a_0_2, a_0_3, a_0_4, a_0_5, a_0_6, a_0_7, a_0_8, a_0_9, a_0_10, a_0_11, a_0_12, a_0_13⟩ := id g_0
  have n0 : (0 : Int32).toInt = 0 := by decide
  have n1 : (1 : Int32).toInt = 1 := by decide
  have n5 : (5 : Int32).toInt = 5 := by decide
  by_cases hK : v_isKept = false
  · subst hK
    exact wp_of (bk_f _ _ _ _ _ _ _ _ _ _ _ _ _ _ _ _ _) (wp_so13 g_0)
  · obtain ⟨k_0, k_1, k_2, k_3, k_4⟩ := a_0_13 hK
    refine wp_cu13 (sf_X9_back (u_row := v_row) (u_col := v_column) (u_sR := v_shapeRows) (u_sC := v_shapeColumns) (A := 0) (B9 := 32) (a9 := 0) (b9 := 1) (Nat.le_refl 700) a_0_0 a_0_1 a_0_2 a_0_3 a_0_4 a_0_5 a_0_6 a_0_7 a_0_8 a_0_9 a_0_10 a_0_11 (fr_refl _ _ _) (fr_refl _ _ _) (fr_refl _ _ _) (fr_refl _ _ _) (by omega) (by omega) (by omega) (by omega) hK k_0 k_1 k_2 k_3 k_4) (fun r wv_rowsOf wv_columnsOf wv_folded wv_wronged wv_shapeRows wv_shapeColumns wv_row wv_column wv_below wv_face wv_worn wv_lastBend ⟨q_0, q_1, q_2, q_3, q_4, q_5, q_6, q_7, q_8, q_9, q_10, q_11, q_12, q_13, q_14, q_15, q_16⟩ => ?_)
    have l_5 : ¬ (v_isKept = false) → 1 ≤ v_imageRows.toInt ∧ v_imageRows.toInt ≤ 4 ∧ 1 ≤ v_imageColumns.toInt ∧ v_imageColumns.toInt ≤ 8 ∧ lv9 v_imageRows v_imageColumns wv_shapeRows wv_shapeColumns wv_row wv_column (5 : Int32) := fun hk => (by
      obtain ⟨j_0, j_1, j_2, j_3, j_4⟩ := a_0_13 hk
      exact ⟨j_0, j_1, j_2, j_3, lv9_fr j_4 q_14 q_15 q_12 q_13 (by omega) (by omega) (by omega) (by omega) (i_fl j_0 j_1 j_2 j_3).2.2⟩)
    exact ⟨q_0, q_1, q_2, q_3, q_4, q_5, q_6, q_7, q_8, q_9, q_10, q_11, q_16, l_5⟩
set_option maxHeartbeats 4000000 in
set_option maxRecDepth 20000 in
theorem st9_undo {v_done : Int32} {v_limit : List Int32} {v_changeWas : List Int32} {v_keptMany : Int32} {v_changeIs : List Int32} (g_0 : gm_ch v_keptMany v_done v_limit v_changeWas v_changeIs) : wp (fX9_undo 700 v_done v_limit v_changeWas) (cu3 (fun (r : Int32) (wv_done : Int32) (wv_limit : List Int32) => gm_ch v_keptMany wv_done wv_limit v_changeWas v_changeIs)) := by
  obtain ⟨a_0_0, a_0_1, a_0_2, a_0_3, a_0_4, a_0_5, a_0_6, a_0_7⟩ := id g_0
  refine wp_cu3 (sf_X9_undo (Nat.le_refl 700) a_0_2 a_0_3 a_0_4 a_0_5) (fun r wv_done wv_limit ⟨q_0, q_1, q_2, q_3⟩ => ?_)
  exact ⟨a_0_0, a_0_1, q_0, q_1, q_2, a_0_5, a_0_6, (by omega)⟩
set_option maxHeartbeats 4000000 in
set_option maxRecDepth 20000 in
theorem st9_redo {v_keptMany : Int32} {v_done : Int32} {v_limit : List Int32} {v_changeIs : List Int32} {v_changeWas : List Int32} (g_0 : gm_ch v_keptMany v_done v_limit v_changeWas v_changeIs) : wp (fX9_redo 700 v_keptMany v_done v_limit v_changeIs) (cu3 (fun (r : Int32) (wv_done : Int32) (wv_limit : List Int32) => gm_ch v_keptMany wv_done wv_limit v_changeWas v_changeIs)) := by
  obtain ⟨a_0_0, a_0_1, a_0_2, a_0_3, a_0_4, a_0_5, a_0_6, a_0_7⟩ := id g_0
  refine wp_cu3 (sf_X9_redo (Nat.le_refl 700) a_0_0 a_0_1 a_0_2 a_0_3 a_0_4 a_0_6 a_0_7) (fun r wv_done wv_limit ⟨q_0, q_1, q_2, q_3⟩ => ?_)
  exact ⟨a_0_0, a_0_1, q_0, q_1, q_2, a_0_5, a_0_6, q_3⟩
set_option maxHeartbeats 4000000 in
set_option maxRecDepth 20000 in
theorem st9_body {x1 : Int32} {v_bodies : Int32} {v_bodyKind : List Int32} {v_trace : List Int32} (g_0 : gm_bo v_bodies v_bodyKind v_trace) : wp (fX9_body 700 x1 v_bodies v_bodyKind) (cu3 (fun (r : Int32) (wv_bodies : Int32) (wv_bodyKind : List Int32) => gm_bo wv_bodies wv_bodyKind v_trace)) := by
  obtain ⟨a_0_0, a_0_1, a_0_2, a_0_3, a_0_4⟩ := id g_0
  refine wp_cu3 (sfb_X9_body a_0_0 a_0_1 a_0_2 a_0_4) (fun r wv_bodies wv_bodyKind ⟨q_0, q_1, q_2, q_3⟩ => ?_)
  exact ⟨q_0, q_1, q_2, a_0_3, q_3⟩
set_option maxHeartbeats 4000000 in
set_option maxRecDepth 20000 in
theorem st9_trace {x1 : Int32} {v_ran : Int32} {v_trace : List Int32} {v_bodies : Int32} {v_bodyKind : List Int32} (g_0 : gm_bo v_bodies v_bodyKind v_trace) : wp (fX9_trace 700 x1 v_ran v_trace) (fun (r : Int32) => True) := by
  obtain ⟨a_0_0, a_0_1, a_0_2, a_0_3, a_0_4⟩ := id g_0
  refine wp_cu1 (sf_X9_trace (Nat.le_refl 700) a_0_3) (fun r _ => ?_)
  exact trivial
set_option maxHeartbeats 4000000 in
set_option maxRecDepth 20000 in
theorem st9_keep {x1 : Int32} {x2 : Int32} {v_bodies : Int32} {v_shelf : List Int32} {v_many : List Int32} {v_bodyKind : List Int32} {v_trace : List Int32} {v_items : List Int64} {v_carried : List Int64} (g_0 : gm_bo v_bodies v_bodyKind v_trace) (g_1 : gm_sf v_shelf v_many v_items v_carried) : wp (fX9_keep 700 x1 x2 v_bodies v_shelf v_many) (cu3 (fun (r : Int32) (wv_shelf : List Int32) (wv_many : List Int32) => gm_sf wv_shelf wv_many v_items v_carried)) := by
  obtain ⟨a_0_0, a_0_1, a_0_2, a_0_3, a_0_4⟩ := id g_0
  obtain ⟨a_1_0, a_1_1, a_1_2, a_1_3, a_1_4⟩ := id g_1
  refine wp_cu3 (sf_X9_keep (Nat.le_refl 700) a_0_0 a_0_1 a_1_0 a_1_1 a_1_4) (fun r wv_shelf wv_many ⟨q_0, q_1, q_2⟩ => ?_)
  exact ⟨q_0, q_1, a_1_2, a_1_3, q_2⟩
set_option maxHeartbeats 4000000 in
set_option maxRecDepth 20000 in
theorem st9_row {x1 : Int32} {x2 : Int32} {x3 : Int32} {v_shelf : List Int32} {v_many : List Int32} {v_items : List Int64} {v_carried : List Int64} (g_0 : gm_sf v_shelf v_many v_items v_carried) : wp (fX9_row 700 x1 x2 x3 v_shelf v_many v_items) (cu4 (fun (r : Int32) (wv_shelf : List Int32) (wv_many : List Int32) (wv_items : List Int64) => gm_sf wv_shelf wv_many wv_items v_carried)) := by
  obtain ⟨a_0_0, a_0_1, a_0_2, a_0_3, a_0_4⟩ := id g_0
  refine wp_cu4 (sf_X9_row (Nat.le_refl 700) a_0_0 a_0_1 a_0_2 a_0_4) (fun r wv_shelf wv_many wv_items ⟨q_0, q_1, q_2, q_3⟩ => ?_)
  exact ⟨q_0, q_1, q_2, a_0_3, q_3⟩
set_option maxHeartbeats 4000000 in
set_option maxRecDepth 20000 in
theorem st9_put {x1 : Int32} {x2 : Int32} {x3 : Int64} {v_shelf : List Int32} {v_many : List Int32} {v_items : List Int64} {v_carried : List Int64} (g_0 : gm_sf v_shelf v_many v_items v_carried) : wp (fX9_put 700 x1 x2 x3 v_shelf v_many v_items) (cu2 (fun (r : Int32) (wv_items : List Int64) => gm_sf v_shelf v_many wv_items v_carried)) := by
  obtain ⟨a_0_0, a_0_1, a_0_2, a_0_3, a_0_4⟩ := id g_0
  refine wp_cu2 (sf_X9_put (Nat.le_refl 700) a_0_0 a_0_1 a_0_2 a_0_4) (fun r wv_items q_0 => ?_)
  exact ⟨a_0_0, a_0_1, q_0, a_0_3, a_0_4⟩
set_option maxHeartbeats 4000000 in
set_option maxRecDepth 20000 in
theorem st9_element {x1 : Int32} {x2 : Int32} {v_shelf : List Int32} {v_many : List Int32} {v_items : List Int64} {v_carried : List Int64} (g_0 : gm_sf v_shelf v_many v_items v_carried) : wp (fX9_element 700 x1 x2 v_shelf v_many v_items) (fun (r : Int64) => True) := by
  obtain ⟨a_0_0, a_0_1, a_0_2, a_0_3, a_0_4⟩ := id g_0
  refine wp_cu1 (sf_X9_element (Nat.le_refl 700) a_0_0 a_0_1 a_0_2 a_0_4) (fun r _ => ?_)
  exact trivial
set_option maxHeartbeats 4000000 in
set_option maxRecDepth 20000 in
theorem st9_shift {x1 : Int32} {x2 : Int32} {x3 : Int32} {x4 : Int32} {x5 : Int32} {v_shelf : List Int32} {v_many : List Int32} {v_items : List Int64} {v_carried : List Int64} (g_0 : gm_sf v_shelf v_many v_items v_carried) : wp (fX9_shift 700 x1 x2 x3 x4 x5 v_shelf v_many v_items v_carried) (cu3 (fun (r : Int32) (wv_items : List Int64) (wv_carried : List Int64) => gm_sf v_shelf v_many wv_items wv_carried)) := by
  obtain ⟨a_0_0, a_0_1, a_0_2, a_0_3, a_0_4⟩ := id g_0
  refine wp_cu3 (sf_X9_shift (Nat.le_refl 700) a_0_0 a_0_1 a_0_2 a_0_3 a_0_4) (fun r wv_items wv_carried ⟨q_0, q_1⟩ => ?_)
  exact ⟨a_0_0, a_0_1, q_0, q_1, a_0_4⟩
set_option maxHeartbeats 4000000 in
set_option maxRecDepth 20000 in
theorem st9_taken {x1 : Int32} {x2 : Int32} {v_bodyKind : List Int32} {v_shelf : List Int32} {v_bodies : Int32} {v_trace : List Int32} {v_many : List Int32} {v_items : List Int64} {v_carried : List Int64} (g_0 : gm_bo v_bodies v_bodyKind v_trace) (g_1 : gm_sf v_shelf v_many v_items v_carried) : wp (fX9_taken 700 x1 x2 v_bodyKind v_shelf) (fun (r : Int32) => True) := by
  obtain ⟨a_0_0, a_0_1, a_0_2, a_0_3, a_0_4⟩ := id g_0
  obtain ⟨a_1_0, a_1_1, a_1_2, a_1_3, a_1_4⟩ := id g_1
  refine wp_cu1 (sf_X9_taken (Nat.le_refl 700) a_0_2 a_1_0) (fun r _ => ?_)
  exact trivial
set_option maxHeartbeats 4000000 in
set_option maxRecDepth 20000 in
theorem st9_count {x1 : Int32} {v_done : Int32} {v_rowsOf : Int32} {v_columnsOf : Int32} {v_tapeMany : Int32} {v_planned : Int32} {v_bodies : Int32} {v_ran : Int32} {v_keptMany : Int32} {v_limit : List Int32} {v_changeWas : List Int32} {v_changeIs : List Int32} {v_isKept : Bool} {v_imageRows : Int32} {v_imageColumns : Int32} {v_shapeRows : List Int32} {v_shapeColumns : List Int32} {v_row : List Int32} {v_column : List Int32} {v_below : List Int32} {v_face : List Int32} {v_worn : List Int32} {v_lastBend : List Int32} {v_textMany : Int32} {v_tape : List Int32} {v_text : List Int32} {v_names : List Int32} {v_bends : List Int32} {v_high : List Int32} {v_to : List Int32} {v_pileSize : List Int32} {v_planLine : List Int32} {v_planWay : List Int32} {v_bodyKind : List Int32} {v_trace : List Int32} (g_0 : gm_ch v_keptMany v_done v_limit v_changeWas v_changeIs) (g_1 : gm_sh v_rowsOf v_columnsOf v_isKept v_imageRows v_imageColumns v_shapeRows v_shapeColumns v_row v_column v_below v_face v_worn v_lastBend) (g_2 : gm_tx v_tapeMany v_textMany v_tape v_text v_names v_bends v_high v_to v_pileSize) (g_3 : gm_pl v_planned v_planLine v_planWay) (g_4 : gm_bo v_bodies v_bodyKind v_trace) : wp (fX9_count 700 x1 v_done v_rowsOf v_columnsOf v_tapeMany v_planned v_bodies v_ran) (fun (r : Int32) => True) := by
  obtain ⟨a_0_0, a_0_1, a_0_2, a_0_3, a_0_4, a_0_5, a_0_6, a_0_7⟩ := id g_0
  obtain ⟨a_1_0, a_1_1, a_1_2, a_1_3, a_1_4, a_1_5, a_1_6, a_1_7, a_1_8, a_1_9, a_1_10, a_1_11, a_1_12, a_1_13⟩ := id g_1
  obtain ⟨a_2_0, a_2_1, a_2_2, a_2_3, a_2_4, a_2_5, a_2_6, a_2_7, a_2_8, a_2_9, a_2_10⟩ := id g_2
  obtain ⟨a_3_0, a_3_1, a_3_2, a_3_3⟩ := id g_3
  obtain ⟨a_4_0, a_4_1, a_4_2, a_4_3, a_4_4⟩ := id g_4
  refine wp_cu1 (sf_X9_count (Nat.le_refl 700) a_0_2 a_0_3 a_1_0 a_1_1 a_1_2 a_1_3 a_2_0 a_2_1 a_3_0 a_3_1 a_4_0 a_4_1) (fun r _ => ?_)
  exact trivial
end
section
/-! The fresh objects -/
theorem fnd_0 : fnd (mm_zs 8) := fun i j h1 h2 e => by
  have f : ∀ c : Int32, j.toInt = c.toInt → j = c := fun c e => Int32.toInt_inj.mp e
  have g : ∀ c : Int32, i.toInt = c.toInt → i = c := fun c e => Int32.toInt_inj.mp e
  have n2 : (2 : Int32).toInt = 2 := by decide
  have n3 : (3 : Int32).toInt = 3 := by decide
  have n4 : (4 : Int32).toInt = 4 := by decide
  have n5 : (5 : Int32).toInt = 5 := by decide
  have n6 : (6 : Int32).toInt = 6 := by decide
  have n7 : (7 : Int32).toInt = 7 := by decide
  have n8 : (8 : Int32).toInt = 8 := by decide
  rcases (show i.toInt = 2 ∨ i.toInt = 3 ∨ i.toInt = 4 ∨ i.toInt = 5 ∨ i.toInt = 6 ∨ i.toInt = 7 by omega) with k | k | k | k | k | k
  · rw [f 3 (by omega), g 2 (by omega)]; decide +kernel
  · rw [f 4 (by omega), g 3 (by omega)]; decide +kernel
  · rw [f 5 (by omega), g 4 (by omega)]; decide +kernel
  · rw [f 6 (by omega), g 5 (by omega)]; decide +kernel
  · rw [f 7 (by omega), g 6 (by omega)]; decide +kernel
  · rw [f 8 (by omega), g 7 (by omega)]; decide +kernel
theorem nw_sh : gi_sh 2 4 2 4 z5_rowOf z5_colOf (mm_zs 32) (mm_zs 32) (mm_zs 64) (mm_zs 64) (mm_zs 64) (mm_zs 32) := ⟨(by decide), (by decide), (by decide), (by decide), (by decide), (by decide), (by decide), (by decide), (by decide +kernel), (by decide +kernel), (by decide +kernel), (by decide +kernel), (by decide +kernel), (by decide +kernel), (by decide +kernel), (by decide +kernel), (zn_len (by decide +kernel) _), (zn_len (by decide +kernel) _)⟩
theorem nw_ch : gi_ch 0 0 (mm_zs 40) (mm_zs 40) := ⟨(by decide), (by decide), (by decide), (by decide), (by decide +kernel), (by decide +kernel)⟩
theorem nw_la : gi_la 0 0 0 (mm_zs 120) (mm_zs 121) (mm_zs 121) (mm_zs 121) := ⟨(by decide), (by decide), (by decide), (by decide), (by decide), (by decide), (by decide +kernel), (by decide +kernel), (by decide +kernel), (by decide +kernel)⟩
theorem nw_pl : gi_pl 0 (mm_zs 12) (mm_zs 12) := ⟨(by decide), (by decide), (by decide +kernel), (by decide +kernel)⟩
theorem nw_sf : gi_sf 0 (mm_zl 60) := ⟨(by decide), (by decide), (by decide +kernel)⟩
theorem nw_se : gi_se 0 (mm_zs 3) (mm_zs 3) := ⟨(by decide), (by decide), (by decide +kernel), (by decide +kernel)⟩
theorem nw_st : gi_st (mm_zs 7) (mm_zs 680) (mm_zs 8) := ⟨(by decide +kernel), (by decide +kernel), (by decide +kernel), fnd_0⟩
theorem nw_fo : gi_fo 0 (mm_zs 50) (mm_zs 24) := ⟨(by decide), (by decide), (by decide +kernel), (by decide +kernel), (zn_len (by decide +kernel) _)⟩
theorem nw_gm_ch : gm_ch 0 0 z9_limit (mm_zs 40) (mm_zs 40) := ⟨(by decide), (by decide), (by decide), (by decide), (by decide +kernel), (by decide +kernel), (by decide +kernel), (by decide)⟩
theorem nw_gm_sh : gm_sh 2 4 false 0 0 z9_shapeRows z9_shapeColumns z9_row z9_column (mm_zs 192) (mm_zs 192) (mm_zs 384) (mm_zs 384) := ⟨(by decide), (by decide), (by decide), (by decide), (by decide +kernel), (by decide +kernel), (by decide +kernel), (by decide +kernel), (by decide +kernel), (by decide +kernel), (by decide +kernel), (by decide +kernel), ⟨by decide +kernel, by decide +kernel, by decide +kernel, by decide +kernel, zn_len (by decide +kernel) _, zn_len (by decide +kernel) _⟩, (fun h => absurd rfl h)⟩
theorem nw_gm_tx : gm_tx 0 (-1) (mm_zs 120) (mm_zs 120) (mm_zs 6) (mm_zs 64) (mm_zs 32) (mm_zs 32) (mm_zs 64) := ⟨(by decide), (by decide), (by decide), (by decide), (by decide +kernel), (by decide +kernel), (by decide +kernel), (by decide +kernel), (by decide +kernel), (by decide +kernel), (by decide +kernel)⟩
theorem nw_gm_pl : gm_pl 0 (mm_zs 12) (mm_zs 12) := ⟨(by decide), (by decide), (by decide +kernel), (by decide +kernel)⟩
theorem nw_gm_se : gm_se 0 (mm_zs 3) (mm_zs 3) := ⟨(by decide), (by decide), (by decide +kernel), (by decide +kernel)⟩
theorem nw_gm_or : gm_or (mm_zs 7) (mm_zs 7) := ⟨(by decide +kernel), (by decide +kernel)⟩
theorem nw_gm_bo : gm_bo 0 (mm_zs 50) (mm_zs 24) := ⟨(by decide), (by decide), (by decide +kernel), (by decide +kernel), (zn_len (by decide +kernel) _)⟩
theorem nw_gm_sf : gm_sf z9_shelf (mm_zs 6) (mm_zl 360) (mm_zl 60) := ⟨(by decide +kernel), (by decide +kernel), (by decide +kernel), (by decide +kernel), (zn_len (by decide +kernel) _)⟩
end
section
/-! limit, undo, redo: class and reference alike -/
theorem wp_get {α : Type} {o : Option α} {Q : α → Prop} {a : α} (h : wp o Q) (e : o = some a) : Q a := by
  obtain ⟨r, e1, q⟩ := h
  rw [e1] at e
  injection e with e
  rw [← e]
  exact q
theorem ck_t {α : Type} {c : Bool} {x : Option α} (h : c = true) : mm_ck c x = x := by
  unfold mm_ck
  rw [if_pos h]
theorem nm_eq {α β : Type} (x : α) (k : α → Option β) : mm_nm x k = k x := rfl
theorem bs_1 {α β : Type} (a : α) (k : α → Option β) : mm_bd1 (some a) k = k a := rfl
theorem bs_2 {α0 α1 β : Type} (a0 : α0) (a1 : α1) (k : α0 → α1 → Option β) : mm_bd2 (some (a0, a1)) k = k a0 a1 := rfl
theorem bs_3 {α0 α1 α2 β : Type} (a0 : α0) (a1 : α1) (a2 : α2) (k : α0 → α1 → α2 → Option β) : mm_bd3 (some (a0, a1, a2)) k = k a0 a1 a2 := rfl
def shf (l : List Int32) (k : Nat) : List Int32 := l.take (k - 1) ++ (l.drop k ++ l.drop 39)
theorem shf_step (l : List Int32) (j : Nat) (h : j + 1 < 40) (hl : l.length = 40) : shf (l.set j (l.getD (j + 1) 0)) (j + 2) = shf l (j + 1) := by
  unfold shf
  have h1 : (l.set j (l.getD (j + 1) 0)).take (j + 2 - 1) = l.take j ++ [l.getD (j + 1) 0] := by
    rw [show j + 2 - 1 = j + 1 by omega, List.take_add_one, List.take_set_of_le (Nat.le_refl j), List.getElem?_set_self (by omega)]
    rfl
  have h2 : l.drop (j + 1) = l.getD (j + 1) 0 :: l.drop (j + 2) := by
    rw [List.drop_eq_getElem_cons (by omega), List.getD_eq_getElem?_getD, List.getElem?_eq_getElem (by omega)]
    rfl
  rw [h1, h2, List.drop_set_of_lt (by omega), List.drop_set_of_lt (by omega), show j + 1 - 1 = j by omega, List.append_assoc]
  rfl
theorem shf_end (l : List Int32) (hl : l.length = 40) : shf l 40 = l := by
  unfold shf
  rw [List.drop_of_length_le (by omega), List.nil_append, show 40 - 1 = 39 by omega, List.take_append_drop]
theorem shf_cp (l : List Int32) (hl : l.length = 40) : mm_cp l l (1 : Int32) (0 : Int32) (39 : Int32) = shf l 1 := by
  unfold mm_cp shf
  rw [show (1 : Int32).toNatClampNeg = 1 by decide, show (0 : Int32).toNatClampNeg = 0 by decide, show (39 : Int32).toNatClampNeg = 39 by decide, List.take_of_length_le (l := l.drop 1) (by rw [List.length_drop]; omega)]
theorem shf_len (l : List Int32) (hl : l.length = 40) : (shf l 1).length = 40 := by
  unfold shf
  rw [List.length_append, List.length_append, List.length_take, List.length_drop, List.length_drop]
  omega
theorem li_39 (x1 x2 k d : Int32) (lim : List Int32) : ∀ (i n j : Nat) (x3 : Int32) (was is : List Int32), i + j = 39 → i < n → x3.toInt = j + 1 → was.length = 40 → is.length = 40 → fX9_limit_39 700 n x1 x2 x3 k d lim was is = fX9_limit_89 700 x1 x2 k (d - (1 : Int32)) lim (shf was (j + 1)) (shf is (j + 1)) := by
  have n40 : (40 : Int32).toInt = 40 := by decide
  have n1 : (1 : Int32).toInt = 1 := by decide
  intro i
  induction i with
  | zero =>
    intro n j x3 was is e hn hx h1 h2
    obtain ⟨n, rfl⟩ : ∃ m, n = m + 1 := ⟨n - 1, by omega⟩
    obtain rfl : j = 39 := by omega
    rw [shf_end _ h1, shf_end _ h2]
    show (if (40 : Int32) ≤ x3 then _ else _) = _
    rw [if_pos (by rw [Int32.le_iff_toInt_le]; omega)]
    rfl
  | succ i ih =>
    intro n j x3 was is e hn hx h1 h2
    obtain ⟨n, rfl⟩ : ∃ m, n = m + 1 := ⟨n - 1, by omega⟩
    have ea : (x3 - (1 : Int32)).toInt = j := by rw [i_subE rfl (by omega) (by omega)]; omega
    have eb : (x3 + (1 : Int32)).toInt = (j + 1 : Nat) + 1 := by rw [i_addE rfl (by omega) (by omega)]; omega
    have c3 : x3.toNatClampNeg = j + 1 := by show x3.toInt.toNat = _; omega
    have c2 : (x3 - (1 : Int32)).toNatClampNeg = j := by show (x3 - (1 : Int32)).toInt.toNat = _; omega
    have L := ih n (j + 1) (x3 + (1 : Int32)) (mm_is was (x3 - (1 : Int32)) (mm_ig was x3)) (mm_is is (x3 - (1 : Int32)) (mm_ig is x3)) (by omega) (by omega) eb (by rw [is_len]; exact h1) (by rw [is_len]; exact h2)
    have s1 : shf (mm_is was (x3 - (1 : Int32)) (mm_ig was x3)) (j + 1 + 1) = shf was (j + 1) := by
      unfold mm_is mm_ig
      rw [c2, c3]
      exact shf_step was j (by omega) h1
    have s2 : shf (mm_is is (x3 - (1 : Int32)) (mm_ig is x3)) (j + 1 + 1) = shf is (j + 1) := by
      unfold mm_is mm_ig
      rw [c2, c3]
      exact shf_step is j (by omega) h2
    rw [s1, s2] at L
    rw [← L]
    show (if (40 : Int32) ≤ x3 then _ else _) = _
    rw [if_neg (by rw [Int32.le_iff_toInt_le]; omega)]
    rw [ck_t (i_inb (by omega) (by omega)), nm_eq, ck_t (i_inb (by omega) (by omega)), nm_eq, ck_t (i_inb (by omega) (by omega)), nm_eq, ck_t (i_inb (by omega) (by omega)), nm_eq, nm_eq]
def rl_ch (v_value v_done v_size : Int32) (v_before v_after : List Int32) (m_keptMany m_done : Int32) (m_limit m_changeWas m_changeIs : List Int32) : Prop := m_keptMany = v_size ∧ m_done = v_done ∧ m_limit = [v_value] ∧ m_changeWas = v_before ∧ m_changeIs = v_after
theorem rl_same {v d s : Int32} {b a : List Int32} : rl_ch v d s b a s d [v] b a := ⟨rfl, rfl, rfl, rfl, rfl⟩
theorem li_89 (x v k d d' s : Int32) (b a : List Int32) (h0 : 0 ≤ d.toInt) (h1 : d.toInt < 40) (hb : b.length = 40) (ha : a.length = 40) : fX0_become_22 700 x v d s b a = some (x, d + (1 : Int32), d + (1 : Int32), mm_is b d v, mm_is a d x) ∧ fX9_limit_89 700 x v k d [v] b a = some (v, d + (1 : Int32), d + (1 : Int32), [x], mm_is b d v, mm_is a d x) := by
  unfold fX0_become_22 fX9_limit_89
  constructor
  · rw [ck_t (i_inb (by omega) (by omega)), nm_eq, ck_t (i_inb (by omega) (by omega)), nm_eq, nm_eq]
  · rw [ck_t (i_inb (by omega) (by omega)), nm_eq, ck_t (i_inb (by omega) (by omega)), nm_eq, nm_eq, ck_t (show mm_inb (0 : Int32) [v].length = true by rfl), nm_eq]
    rfl
theorem rc_limit {x v d s : Int32} {b a : List Int32} (g : gi_ch d s b a) : ∃ (r v' d' s' : Int32) (b' a' : List Int32), fX8_limit 700 x v d s b a = some (r, v', d', s', b', a') ∧ fX9_limit 700 x s d [v] b a = some (r, s', d', [v'], b', a') := by
  obtain ⟨a0, a1, a2, a3, a4, a5⟩ := g
  have n1 : (1 : Int32).toInt = 1 := by decide
  have n40 : (40 : Int32).toInt = 40 := by decide
  have n99 : (99 : Int32).toInt = 99 := by decide
  have m1 : (1 : Int64).toInt = 1 := by decide
  have m99 : (99 : Int64).toInt = 99 := by decide
  have mx := i_64 x
  unfold fX8_limit fX9_limit
  obtain ⟨w, ew, qw⟩ := sf_X9_within (Nat.le_refl 700) (x0 := x.toInt64) (x2 := 1) (x4 := 99)
  rw [ew]
  rcases qw with ⟨rfl, q0, q1⟩ | ⟨rfl, q0⟩
  · rw [if_neg (by rw [Int32.lt_iff_toInt_lt]; omega), if_pos (by rw [Int32.le_iff_toInt_le]; omega)]
    unfold fX0_become
    rw [bs_1, if_neg (show ¬ (true = false) by decide), ck_t (show mm_inb (0 : Int32) [v].length = true by rfl), nm_eq, show mm_ig [v] (0 : Int32) = v from rfl]
    by_cases e : x = v
    · rw [if_pos e, if_pos e.symm]
      exact ⟨_, _, _, _, _, _, rfl, rfl⟩
    · rw [if_neg e, if_neg (show ¬ v = x from fun h => e h.symm)]
      by_cases e4 : d = (40 : Int32)
      · rw [if_pos e4, if_pos e4]
        have hd : (d - (1 : Int32)).toInt = 39 := by rw [i_subE rfl (by rw [e4]; omega) (by rw [e4]; omega), e4]; omega
        obtain ⟨k1, k2⟩ := li_89 x v s (d - (1 : Int32)) d s (shf b 1) (shf a 1) (by omega) (by omega) (shf_len b a4) (shf_len a a5)
        rw [show fX0_forgetOldest 700 d b a = some (d - (1 : Int32), shf b 1, shf a 1) by
          unfold fX0_forgetOldest
          rw [a4, ck_t (by decide), nm_eq, a5, ck_t (by decide), nm_eq, nm_eq, shf_cp b a4, shf_cp a a5]]
        rw [li_39 x v s d [v] 39 700 0 1 b a (by omega) (by omega) (by omega) a4 a5]
        rw [bs_3, k1, k2]
        exact ⟨_, _, _, _, _, _, rfl, rfl⟩
      · rw [if_neg e4, if_neg e4]
        have hd : d.toInt < 40 := by
          have : d.toInt ≠ 40 := fun h => e4 (Int32.toInt_inj.mp (by omega))
          omega
        obtain ⟨k1, k2⟩ := li_89 x v s d d s b a a0 hd a4 a5
        rw [k1, k2]
        exact ⟨_, _, _, _, _, _, rfl, rfl⟩
  · refine ⟨(-1 : Int32), v, d, s, b, a, ?_, rfl⟩
    by_cases c : x < (1 : Int32)
    · rw [if_pos c]
    · rw [if_neg c, if_neg (by rw [Int32.lt_iff_toInt_lt] at c; rw [Int32.le_iff_toInt_le]; omega)]
theorem rc_undo {v d s : Int32} {b a : List Int32} (g : gi_ch d s b a) : ∃ (r v' d' : Int32), fX8_undo 700 v d b = some (r, v', d') ∧ fX9_undo 700 d [v] b = some (r, d', [v']) := by
  obtain ⟨a0, a1, a2, a3, a4, a5⟩ := g
  have n1 : (1 : Int32).toInt = 1 := by decide
  have n0 : (0 : Int32).toInt = 0 := by decide
  unfold fX8_undo fX9_undo fX0_stepBack
  by_cases e : d = 0
  · rw [if_pos e, if_pos e]
    exact ⟨_, _, _, rfl, rfl⟩
  · rw [if_neg e, if_neg e]
    have hd : 0 < d.toInt := by
      have : d.toInt ≠ 0 := fun h => e (Int32.toInt_inj.mp (by omega))
      omega
    have ed : (d - (1 : Int32)).toInt = d.toInt - 1 := by rw [i_subE rfl (by omega) (by omega)]; omega
    rw [if_neg (by rw [Int32.le_iff_toInt_le]; omega)]
    rw [nm_eq, nm_eq, ck_t (i_inb (by omega) (by omega)), bs_2, nm_eq, ck_t (i_inb (by omega) (by omega)), nm_eq, ck_t (show mm_inb (0 : Int32) [v].length = true by rfl), nm_eq]
    exact ⟨_, _, _, rfl, rfl⟩
theorem rc_redo {v d s : Int32} {b a : List Int32} (g : gi_ch d s b a) (h : d.toInt ≤ s.toInt) : ∃ (r v' d' : Int32), fX8_redo 700 v d s a = some (r, v', d') ∧ fX9_redo 700 s d [v] a = some (r, d', [v']) := by
  obtain ⟨a0, a1, a2, a3, a4, a5⟩ := g
  have n1 : (1 : Int32).toInt = 1 := by decide
  unfold fX8_redo fX9_redo fX0_stepOn
  by_cases e : d = s
  · rw [if_pos e, if_pos e]
    exact ⟨_, _, _, rfl, rfl⟩
  · rw [if_neg e, if_neg e]
    have hd : d.toInt < s.toInt := by
      have : d.toInt ≠ s.toInt := fun h => e (Int32.toInt_inj.mp h)
      omega
    rw [if_neg (by rw [Int32.le_iff_toInt_le]; omega)]
    rw [ck_t (i_inb (by omega) (by omega)), nm_eq, nm_eq, bs_2, ck_t (i_inb (by omega) (by omega)), nm_eq, ck_t (show mm_inb (0 : Int32) [v].length = true by rfl), nm_eq, nm_eq]
    exact ⟨_, _, _, rfl, rfl⟩
end
section
/-! limit, undo, redo: one step -/
theorem rs_limit {x1 v_changes_value v_changes_done v_changes_size : Int32} {v_changes_before v_changes_after : List Int32} {m_keptMany m_done : Int32} {m_limit m_changeWas m_changeIs : List Int32} (g8 : gi_ch v_changes_done v_changes_size v_changes_before v_changes_after) (g9 : gm_ch m_keptMany m_done m_limit m_changeWas m_changeIs) (hr : rl_ch v_changes_value v_changes_done v_changes_size v_changes_before v_changes_after m_keptMany m_done m_limit m_changeWas m_changeIs) : ∃ (r p_value p_done p_size : Int32) (p_before p_after : List Int32) (q_keptMany q_done : Int32) (q_limit q_changeWas q_changeIs : List Int32), fX8_limit 700 x1 v_changes_value v_changes_done v_changes_size v_changes_before v_changes_after = some (r, p_value, p_done, p_size, p_before, p_after) ∧ fX9_limit 700 x1 m_keptMany m_done m_limit m_changeWas m_changeIs = some (r, q_keptMany, q_done, q_limit, q_changeWas, q_changeIs) ∧ gi_ch p_done p_size p_before p_after ∧ gm_ch q_keptMany q_done q_limit q_changeWas q_changeIs ∧ rl_ch p_value p_done p_size p_before p_after q_keptMany q_done q_limit q_changeWas q_changeIs := by
  obtain ⟨rfl, rfl, rfl, rfl, rfl⟩ := hr
  obtain ⟨r, v', d', s', b', a', e8, e9⟩ := rc_limit (x := x1) (v := v_changes_value) g8
  have q8 := wp_get (st8_limit (v_changes_value := v_changes_value) g8) e8
  have q9 := wp_get (st9_limit g9) e9
  exact ⟨_, _, _, _, _, _, _, _, _, _, _, e8, e9, q8, q9, rl_same⟩
theorem rs_undo {v_changes_value v_changes_done v_changes_size : Int32} {v_changes_before v_changes_after : List Int32} {m_keptMany m_done : Int32} {m_limit m_changeWas m_changeIs : List Int32} (g8 : gi_ch v_changes_done v_changes_size v_changes_before v_changes_after) (g9 : gm_ch m_keptMany m_done m_limit m_changeWas m_changeIs) (hr : rl_ch v_changes_value v_changes_done v_changes_size v_changes_before v_changes_after m_keptMany m_done m_limit m_changeWas m_changeIs) : ∃ (r p_value p_done q_done : Int32) (q_limit : List Int32), fX8_undo 700 v_changes_value v_changes_done v_changes_before = some (r, p_value, p_done) ∧ fX9_undo 700 m_done m_limit m_changeWas = some (r, q_done, q_limit) ∧ gi_ch p_done v_changes_size v_changes_before v_changes_after ∧ gm_ch m_keptMany q_done q_limit m_changeWas m_changeIs ∧ rl_ch p_value p_done v_changes_size v_changes_before v_changes_after m_keptMany q_done q_limit m_changeWas m_changeIs := by
  obtain ⟨rfl, rfl, rfl, rfl, rfl⟩ := hr
  obtain ⟨r, v', d', e8, e9⟩ := rc_undo (v := v_changes_value) g8
  have q8 := wp_get (st8_undo (v_changes_value := v_changes_value) g8) e8
  have q9 := wp_get (st9_undo g9) e9
  exact ⟨_, _, _, _, _, e8, e9, q8, q9, rl_same⟩
theorem rs_redo {v_changes_value v_changes_done v_changes_size : Int32} {v_changes_before v_changes_after : List Int32} {m_keptMany m_done : Int32} {m_limit m_changeWas m_changeIs : List Int32} (g8 : gi_ch v_changes_done v_changes_size v_changes_before v_changes_after) (g9 : gm_ch m_keptMany m_done m_limit m_changeWas m_changeIs) (hr : rl_ch v_changes_value v_changes_done v_changes_size v_changes_before v_changes_after m_keptMany m_done m_limit m_changeWas m_changeIs) : ∃ (r p_value p_done q_done : Int32) (q_limit : List Int32), fX8_redo 700 v_changes_value v_changes_done v_changes_size v_changes_after = some (r, p_value, p_done) ∧ fX9_redo 700 m_keptMany m_done m_limit m_changeIs = some (r, q_done, q_limit) ∧ gi_ch p_done v_changes_size v_changes_before v_changes_after ∧ gm_ch m_keptMany q_done q_limit m_changeWas m_changeIs ∧ rl_ch p_value p_done v_changes_size v_changes_before v_changes_after m_keptMany q_done q_limit m_changeWas m_changeIs := by
  obtain ⟨rfl, rfl, rfl, rfl, rfl⟩ := hr
  obtain ⟨c0, c1, c2, c3, c4, c5, c6, c7⟩ := id g9
  obtain ⟨r, v', d', e8, e9⟩ := rc_redo (v := v_changes_value) g8 (by assumption)
  have q8 := wp_get (st8_redo (v_changes_value := v_changes_value) g8) e8
  have q9 := wp_get (st9_redo g9) e9
  exact ⟨_, _, _, _, _, e8, e9, q8, q9, rl_same⟩
theorem nw_ch9 : rl_ch 20 0 0 (mm_zs 40) (mm_zs 40) 0 0 z9_limit (mm_zs 40) (mm_zs 40) := ⟨rfl, rfl, by decide +kernel, rfl, rfl⟩
end
section
/-! feed, body, act, trace: class and reference alike -/
theorem wp_and {α : Type} {o : Option α} {P Q : α → Prop} (h : wp o P) (k : wp o Q) : wp o (fun a => P a ∧ Q a) := by
  obtain ⟨r, e, q⟩ := h
  exact ⟨r, e, q, wp_get k e⟩
theorem rc_feed {x s : Int32} {t : List Int32} (h0 : 0 ≤ s.toInt) (h1 : s.toInt ≤ 120) (ht : t.length = 120) : ∃ (r s' : Int32) (t' : List Int32), fX8_feed 700 x s t = some (r, s', t') ∧ fX9_feed 700 x s t = some (r, s', t') := by
  have n255 : (255 : Int32).toInt = 255 := by decide
  have n120 : (120 : Int32).toInt = 120 := by decide
  have n0 : (0 : Int32).toInt = 0 := by decide
  have m0 : (0 : Int64).toInt = 0 := by decide
  have m255 : (255 : Int64).toInt = 255 := by decide
  have mx := i_64 x
  unfold fX8_feed fX9_feed
  obtain ⟨w, ew, qw⟩ := sf_X9_within (Nat.le_refl 700) (x0 := x.toInt64) (x2 := 0) (x4 := 255)
  rw [ew, bs_1]
  rcases qw with ⟨rfl, q0, q1⟩ | ⟨rfl, q0⟩
  · rw [if_neg (show ¬ x < 0 by rw [Int32.lt_iff_toInt_lt]; omega), if_pos (show x ≤ (255 : Int32) by rw [Int32.le_iff_toInt_le]; omega), if_neg (show ¬ (true = false) by decide)]
    unfold fX2_write
    by_cases e : s = (120 : Int32)
    · rw [if_pos e, if_neg (show ¬ s < (120 : Int32) by rw [Int32.lt_iff_toInt_lt, e]; omega), bs_3, if_pos rfl]
      exact ⟨_, _, _, rfl, rfl⟩
    · have hs : s.toInt < 120 := by
        have : s.toInt ≠ 120 := fun h => e (Int32.toInt_inj.mp (by omega))
        omega
      rw [if_neg e, if_pos (show s < (120 : Int32) by rw [Int32.lt_iff_toInt_lt]; omega), ck_t (i_inb (by omega) (by omega)), nm_eq, nm_eq, bs_3, if_neg (show ¬ (true = false) by decide), ck_t (i_inb (by omega) (by omega)), nm_eq, nm_eq]
      exact ⟨_, _, _, rfl, rfl⟩
  · rw [if_pos rfl]
    by_cases c : x < 0
    · rw [if_pos c]
      exact ⟨_, _, _, rfl, rfl⟩
    · rw [if_neg c, if_neg (show ¬ x ≤ (255 : Int32) by rw [Int32.lt_iff_toInt_lt] at c; rw [Int32.le_iff_toInt_le]; omega)]
      exact ⟨_, _, _, rfl, rfl⟩
theorem rc_body {x s : Int32} {t : List Int32} (h0 : 0 ≤ s.toInt) (h1 : s.toInt ≤ 50) (ht : t.length = 50) : ∃ (r s' : Int32) (t' : List Int32), fX8_body 700 x s t = some (r, s', t') ∧ fX9_body 700 x s t = some (r, s', t') ∧ s.toInt ≤ s'.toInt := by
  have n8 : (8 : Int32).toInt = 8 := by decide
  have n1 : (1 : Int32).toInt = 1 := by decide
  have n50 : (50 : Int32).toInt = 50 := by decide
  have n0 : (0 : Int32).toInt = 0 := by decide
  have m0 : (0 : Int64).toInt = 0 := by decide
  have m7 : (7 : Int64).toInt = 7 := by decide
  have mx := i_64 x
  unfold fX8_body fX9_body
  obtain ⟨w, ew, qw⟩ := sf_X9_within (Nat.le_refl 700) (x0 := x.toInt64) (x2 := 0) (x4 := 7)
  rw [ew, bs_1]
  rcases qw with ⟨rfl, q0, q1⟩ | ⟨rfl, q0⟩
  · rw [if_neg (show ¬ x < 0 by rw [Int32.lt_iff_toInt_lt]; omega), if_pos (show x < (8 : Int32) by rw [Int32.lt_iff_toInt_lt]; omega), if_neg (show ¬ (true = false) by decide)]
    unfold fX1_make
    by_cases e : s = (50 : Int32)
    · rw [if_pos e, if_neg (show ¬ s < (50 : Int32) by rw [Int32.lt_iff_toInt_lt, e]; omega), bs_3, if_pos rfl]
      exact ⟨_, _, _, rfl, rfl, Int.le_refl _⟩
    · have hs : s.toInt < 50 := by
        have : s.toInt ≠ 50 := fun h => e (Int32.toInt_inj.mp (by omega))
        omega
      rw [if_neg e, if_pos (show s < (50 : Int32) by rw [Int32.lt_iff_toInt_lt]; omega), ck_t (i_inb (by omega) (by omega)), nm_eq, nm_eq, bs_3, if_neg (show ¬ (true = false) by decide), ck_t (i_inb (by omega) (by omega)), nm_eq, nm_eq]
      exact ⟨_, _, _, rfl, rfl, by rw [i_addE rfl (by rw [n1]; omega) (by rw [n1]; omega), n1]; omega⟩
  · rw [if_pos rfl]
    by_cases c : x < 0
    · rw [if_pos c]
      exact ⟨_, _, _, rfl, rfl, Int.le_refl _⟩
    · rw [if_neg c, if_neg (show ¬ x < (8 : Int32) by rw [Int32.lt_iff_toInt_lt] at c ⊢; omega)]
      exact ⟨_, _, _, rfl, rfl, Int.le_refl _⟩
theorem rc_trace {x n : Int32} {t : List Int32} (ht : t.length = 24) : ∃ r : Int32, fX8_trace 700 x n t = some r ∧ fX9_trace 700 x n t = some r := by
  have n24 : (24 : Int32).toInt = 24 := by decide
  have n0 : (0 : Int32).toInt = 0 := by decide
  unfold fX8_trace fX9_trace fX1_traced
  by_cases c : x < 0
  · rw [if_pos c, if_pos c, bs_1]
    exact ⟨_, rfl, rfl⟩
  · rw [if_neg c, if_neg c]
    by_cases d : (24 : Int32) ≤ x
    · rw [if_pos d, if_pos d, bs_1]
      by_cases e : n ≤ x
      · rw [if_pos e]
        exact ⟨_, rfl, rfl⟩
      · rw [if_neg e]
        exact ⟨_, rfl, rfl⟩
    · rw [if_neg d, if_neg d]
      by_cases e : n ≤ x
      · rw [if_pos e, bs_1]
        exact ⟨_, rfl, rfl⟩
      · have k : mm_inb x t.length = true := i_inb (by rw [Int32.lt_iff_toInt_lt] at c; omega) (by rw [Int32.le_iff_toInt_le] at d; omega)
        rw [if_neg e, ck_t k, bs_1]
        exact ⟨_, rfl, rfl⟩
theorem rc_act {x1 x2 x3 s ran number own num : Int32} {kinds trace : List Int32} (g : gi_fo s kinds trace) : ∃ (r c n k b : Int32) (t : List Int32), fX8_act 700 x1 x2 x3 s ran number kinds trace = some (r, c, n, t) ∧ fX9_act 700 x1 x2 x3 s ran own num kinds trace = some (r, c, k, b, t) := by
  obtain ⟨a_0, a_1, a_2, a_3, a_4⟩ := g
  have n4 : (4 : Int32).toInt = 4 := by decide
  have n0 : (0 : Int32).toInt = 0 := by decide
  have n1 : (1 : Int32).toInt = 1 := by decide
  have n2 : (2 : Int32).toInt = 2 := by decide
  have n3 : (3 : Int32).toInt = 3 := by decide
  obtain ⟨w8, e8, q8⟩ := sf_X1_has (Nat.le_refl 700) (x1 := x1) a_0 a_1
  obtain ⟨w9, e9, q9⟩ := sb_X9_isBody (x1 := x1) a_0 a_1
  have hw : w8 = w9 := by
    have f8 : fX1_has 700 x1 s = some (decide (0 ≤ x1.toInt ∧ x1.toInt < s.toInt)) := by
      unfold fX1_has
      by_cases c : x1 < 0
      · rw [if_pos c, decide_eq_false (by rw [Int32.lt_iff_toInt_lt] at c; omega)]
      · rw [if_neg c]
        by_cases d : s ≤ x1
        · rw [if_pos d, decide_eq_false (by rw [Int32.le_iff_toInt_le] at d; omega)]
        · rw [if_neg d, decide_eq_true (by rw [Int32.lt_iff_toInt_lt] at c; rw [Int32.le_iff_toInt_le] at d; omega)]
    have f9 : fX9_isBody 700 x1 s = some (decide (0 ≤ x1.toInt ∧ x1.toInt < s.toInt)) := by
      unfold fX9_isBody
      have m_1 := i_64 x1
      have m_2 : (0 : Int64).toInt = 0 := by decide
      have m_3 := i_64 (s - (1 : Int32))
      have e := i_subE (rfl : s - (1 : Int32) = _) (by omega) (by omega)
      obtain ⟨w, ew, qw⟩ := sf_X9_within (Nat.le_refl 700) (x0 := x1.toInt64) (x2 := 0) (x4 := (s - (1 : Int32)).toInt64)
      rw [ew, bs_1]
      rw [m_1, m_2, m_3, e, n1] at qw
      rcases qw with ⟨rfl, q0, q1⟩ | ⟨rfl, q0⟩
      · rw [decide_eq_true (by omega)]
      · rw [decide_eq_false (by omega)]
    rw [f8] at e8
    rw [f9] at e9
    injection e8 with e8
    injection e9 with e9
    rw [← e8, ← e9]
  subst hw
  unfold fX8_act fX1_perform fX9_act
  rw [e8, e9, bs_1, bs_1]
  rcases q8 with ⟨rfl, q0, q1⟩ | ⟨rfl, -⟩
  · rw [if_neg (show ¬ (true = false) by decide), if_neg (show ¬ (true = false) by decide)]
    have hk : mm_inb x1 kinds.length = true := i_inb (by omega) (by omega)
    rw [ck_t hk, ck_t hk, ck_t hk, nm_eq]
    have z := zn_get a_4 q0 q0 q1 (by omega)
    by_cases c1 : x2 < 0
    · rw [Int32.lt_iff_toInt_lt] at c1
      rw [if_pos (show x2 < 0 by rw [Int32.lt_iff_toInt_lt]; exact c1), if_neg (fun h => by rw [h] at c1; omega), if_neg (fun h => by rw [h] at c1; omega), if_neg (fun h => by rw [h] at c1; omega), if_neg (fun h => by rw [h] at c1; omega)]
      exact ⟨_, _, _, _, _, _, rfl, rfl⟩
    · rw [if_neg c1]
      by_cases c2 : x2 < (4 : Int32)
      · rw [if_pos c2]
        have d1 : 0 ≤ x2.toInt := by rw [Int32.lt_iff_toInt_lt] at c1; omega
        have d2 : x2.toInt < 4 := by rw [Int32.lt_iff_toInt_lt] at c2; omega
        rcases k4 d1 d2 with rfl | rfl | rfl | rfl
        · obtain ⟨r, c, t, f1, f2, -⟩ := ac_0 z.1 z.2 x3 x1 trace a_3
          rw [f1, if_pos rfl, f2]
          exact ⟨_, _, _, _, _, _, rfl, rfl⟩
        · obtain ⟨r, c, t, f1, f2, -⟩ := ac_1 z.1 z.2 x3 x1 trace a_3
          rw [f1, if_neg (show ¬ (1 : Int32) = 0 by decide), if_pos rfl, f2]
          exact ⟨_, _, _, _, _, _, rfl, rfl⟩
        · obtain ⟨r, c, t, f1, f2, -⟩ := ac_2 z.1 z.2 x3 x1 trace a_3
          rw [f1, if_neg (show ¬ (2 : Int32) = 0 by decide), if_neg (show ¬ (2 : Int32) = 1 by decide), if_pos rfl, f2]
          exact ⟨_, _, _, _, _, _, rfl, rfl⟩
        · obtain ⟨r, c, t, f1, f2, -⟩ := ac_3 z.1 z.2 x3 x1 trace a_3
          rw [f1, if_neg (show ¬ (3 : Int32) = 0 by decide), if_neg (show ¬ (3 : Int32) = 1 by decide), if_neg (show ¬ (3 : Int32) = 2 by decide), if_pos rfl, f2]
          exact ⟨_, _, _, _, _, _, rfl, rfl⟩
      · rw [Int32.lt_iff_toInt_lt] at c2
        rw [if_neg (show ¬ x2 < (4 : Int32) by rw [Int32.lt_iff_toInt_lt]; exact c2), if_neg (fun h => by rw [h] at c2; omega), if_neg (fun h => by rw [h] at c2; omega), if_neg (fun h => by rw [h] at c2; omega), if_neg (fun h => by rw [h] at c2; omega)]
        exact ⟨_, _, _, _, _, _, rfl, rfl⟩
  · rw [if_pos rfl, if_pos rfl]
    exact ⟨_, _, _, _, _, _, rfl, rfl⟩
def rl_tp (v_wearing_size : Int32) (v_wearing_tape : List Int32) (m_tapeMany : Int32) (m_tape : List Int32) : Prop := m_tapeMany = v_wearing_size ∧ m_tape = v_wearing_tape
def rl_bo (v_foldings_size : Int32) (v_foldings_kinds : List Int32) (m_bodies : Int32) (m_bodyKind : List Int32) : Prop := m_bodies = v_foldings_size ∧ m_bodyKind = v_foldings_kinds
def rl_tr (v_foldings_ran : Int32) (v_foldings_trace : List Int32) (m_ran : Int32) (m_trace : List Int32) : Prop := m_ran = v_foldings_ran ∧ m_trace = v_foldings_trace
theorem rs_feed {x1 : Int32} {v_wearing_size : Int32} {v_wearing_tape : List Int32} {v_wearing_stepCount : Int32} {v_wearing_draftCount : Int32} {v_wearing_steps : List Int32} {v_wearing_draft : List Int32} {v_wearing_stack : List Int32} {m_tapeMany : Int32} {m_tape : List Int32} {m_textMany : Int32} {m_text : List Int32} {m_names : List Int32} {m_bends : List Int32} {m_high : List Int32} {m_to : List Int32} {m_pileSize : List Int32} (g8_0 : gi_la v_wearing_size v_wearing_stepCount v_wearing_draftCount v_wearing_tape v_wearing_steps v_wearing_draft v_wearing_stack) (g9_0 : gm_tx m_tapeMany m_textMany m_tape m_text m_names m_bends m_high m_to m_pileSize) (hr_0 : rl_tp v_wearing_size v_wearing_tape m_tapeMany m_tape) : ∃ (r : Int32) (p_wearing_size : Int32) (p_wearing_tape : List Int32) (q_tapeMany : Int32) (q_tape : List Int32), fX8_feed 700 x1 v_wearing_size v_wearing_tape = some (r, p_wearing_size, p_wearing_tape) ∧ fX9_feed 700 x1 m_tapeMany m_tape = some (r, q_tapeMany, q_tape) ∧ gi_la p_wearing_size v_wearing_stepCount v_wearing_draftCount p_wearing_tape v_wearing_steps v_wearing_draft v_wearing_stack ∧ gm_tx q_tapeMany m_textMany q_tape m_text m_names m_bends m_high m_to m_pileSize ∧ rl_tp p_wearing_size p_wearing_tape q_tapeMany q_tape := by
  obtain ⟨rfl, rfl⟩ := hr_0
  obtain ⟨a0, a1, -, -, -, -, a6, -⟩ := id g8_0
  obtain ⟨r, s', t', e8, e9⟩ := rc_feed (x := x1) a0 a1 a6
  have k8 := wp_get (st8_feed g8_0) e8
  have k9 := wp_get (st9_feed g9_0) e9
  exact ⟨_, _, _, _, _, e8, e9, k8, k9, rfl, rfl⟩
theorem rs_body {x1 : Int32} {v_foldings_size : Int32} {v_foldings_kinds : List Int32} {v_foldings_trace : List Int32} {m_bodies : Int32} {m_bodyKind : List Int32} {m_trace : List Int32} (g8_0 : gi_fo v_foldings_size v_foldings_kinds v_foldings_trace) (g9_0 : gm_bo m_bodies m_bodyKind m_trace) (hr_0 : rl_bo v_foldings_size v_foldings_kinds m_bodies m_bodyKind) : ∃ (r : Int32) (p_foldings_size : Int32) (p_foldings_kinds : List Int32) (q_bodies : Int32) (q_bodyKind : List Int32), fX8_body 700 x1 v_foldings_size v_foldings_kinds = some (r, p_foldings_size, p_foldings_kinds) ∧ fX9_body 700 x1 m_bodies m_bodyKind = some (r, q_bodies, q_bodyKind) ∧ gi_fo p_foldings_size p_foldings_kinds v_foldings_trace ∧ gm_bo q_bodies q_bodyKind m_trace ∧ rl_bo p_foldings_size p_foldings_kinds q_bodies q_bodyKind := by
  obtain ⟨rfl, rfl⟩ := hr_0
  obtain ⟨a0, a1, a2, -, -⟩ := id g8_0
  obtain ⟨r, s', t', e8, e9, -⟩ := rc_body (x := x1) a0 a1 a2
  have k8 := wp_get (st8_body g8_0) e8
  have k9 := wp_get (st9_body g9_0) e9
  exact ⟨_, _, _, _, _, e8, e9, k8, k9, rfl, rfl⟩
theorem rs_act {x1 : Int32} {x2 : Int32} {x3 : Int32} {v_foldings_size : Int32} {v_foldings_ran : Int32} {v_foldings_number : Int32} {v_foldings_kinds : List Int32} {v_foldings_trace : List Int32} {m_bodies : Int32} {m_ran : Int32} {m_ownKind : Int32} {m_ownNumber : Int32} {m_bodyKind : List Int32} {m_trace : List Int32} (g8_0 : gi_fo v_foldings_size v_foldings_kinds v_foldings_trace) (g9_0 : gm_bo m_bodies m_bodyKind m_trace) (hr_0 : rl_bo v_foldings_size v_foldings_kinds m_bodies m_bodyKind) (hr_1 : rl_tr v_foldings_ran v_foldings_trace m_ran m_trace) : ∃ (r : Int32) (p_foldings_ran : Int32) (p_foldings_number : Int32) (p_foldings_trace : List Int32) (q_ran : Int32) (q_ownKind : Int32) (q_ownNumber : Int32) (q_trace : List Int32), fX8_act 700 x1 x2 x3 v_foldings_size v_foldings_ran v_foldings_number v_foldings_kinds v_foldings_trace = some (r, p_foldings_ran, p_foldings_number, p_foldings_trace) ∧ fX9_act 700 x1 x2 x3 m_bodies m_ran m_ownKind m_ownNumber m_bodyKind m_trace = some (r, q_ran, q_ownKind, q_ownNumber, q_trace) ∧ gi_fo v_foldings_size v_foldings_kinds p_foldings_trace ∧ gm_bo m_bodies m_bodyKind q_trace ∧ rl_bo v_foldings_size v_foldings_kinds m_bodies m_bodyKind ∧ rl_tr p_foldings_ran p_foldings_trace q_ran q_trace := by
  obtain ⟨rfl, rfl⟩ := hr_0
  obtain ⟨rfl, rfl⟩ := hr_1
  obtain ⟨r, c, n, k, b, t, e8, e9⟩ := rc_act (x1 := x1) (x2 := x2) (x3 := x3) (ran := m_ran) (number := v_foldings_number) (own := m_ownKind) (num := m_ownNumber) g8_0
  have k8 := wp_get (st8_act g8_0) e8
  have k9 := wp_get (st9_act g9_0) e9
  exact ⟨_, _, _, _, _, _, _, _, e8, e9, k8, k9, ⟨rfl, rfl⟩, rfl, rfl⟩
theorem rs_trace {x1 : Int32} {v_foldings_ran : Int32} {v_foldings_trace : List Int32} {v_foldings_size : Int32} {v_foldings_kinds : List Int32} {m_ran : Int32} {m_trace : List Int32} {m_bodies : Int32} {m_bodyKind : List Int32} (g8_0 : gi_fo v_foldings_size v_foldings_kinds v_foldings_trace) (g9_0 : gm_bo m_bodies m_bodyKind m_trace) (hr_0 : rl_tr v_foldings_ran v_foldings_trace m_ran m_trace) : ∃ (r : Int32), fX8_trace 700 x1 v_foldings_ran v_foldings_trace = some r ∧ fX9_trace 700 x1 m_ran m_trace = some r ∧ rl_tr v_foldings_ran v_foldings_trace m_ran m_trace := by
  obtain ⟨rfl, rfl⟩ := hr_0
  obtain ⟨-, -, -, a3, -⟩ := id g8_0
  obtain ⟨r, e8, e9⟩ := rc_trace (x := x1) (n := m_ran) a3
  exact ⟨r, e8, e9, rfl, rfl⟩
end
section
/-! Geometry: the class's turn, field by field -/
theorem ge_is (l : List Int32) (i v : Int32) (k : Nat) (hk : k < l.length) : (mm_is l i v).getD k 0 = if i.toInt.toNat = k then v else l.getD k 0 := by
  show (l.set i.toInt.toNat v).getD k 0 = _
  rw [List.getD_eq_getElem?_getD, List.getElem?_set, List.getD_eq_getElem?_getD]
  by_cases e : i.toInt.toNat = k
  · rw [if_pos e, if_pos e, if_pos (by rw [e]; exact hk)]
    rfl
  · rw [if_neg e, if_neg e]
theorem ge_ig (l : List Int32) (i : Int32) : mm_ig l i = l.getD i.toInt.toNat 0 := rfl
theorem ck_x {α : Type} {c : Bool} {x : Option α} {z : α} (h : mm_ck c x = some z) : x = some z := (mm_cks h).2
theorem sm_i {α : Type} {a b : α} (h : some a = some b) : a = b := by
  injection h
/-- l1 is l but for v at place i -/
def ps_w (l l1 : List Int32) (i : Nat) (v : Int32) : Prop := l1.length = l.length ∧ ∀ k : Nat, k < l.length → l1.getD k 0 = if i = k then v else l.getD k 0
theorem ps_is (l : List Int32) (i v : Int32) : ps_w l (mm_is l i v) i.toInt.toNat v := ⟨is_len l i v, fun k hk => ge_is l i v k hk⟩
theorem ps_id (l : List Int32) (i : Nat) : ps_w l l i (l.getD i 0) := ⟨rfl, fun k _ => by
  by_cases e : i = k
  · rw [if_pos e, e]
  · rw [if_neg e]⟩
theorem ps_at {l l1 : List Int32} {i : Nat} {v : Int32} (h : ps_w l l1 i v) (k : i < l.length) : l1.getD i 0 = v := by rw [h.2 i k, if_pos rfl]
theorem ps_ne {l l1 : List Int32} {i k : Nat} {v : Int32} (h : ps_w l l1 i v) (k1 : k < l.length) (n : i ≠ k) : l1.getD k 0 = l.getD k 0 := by rw [h.2 k k1, if_neg n]
def al_w (w r c : Int32) : Int32 := if (4 : Int32) ≤ w then r else c
def ac_w (w r c : Int32) : Int32 := if (4 : Int32) ≤ w then c else r
def csw (w : Int32) : Bool := decide ((w &&& (2 : Int32)) = 0)
def ovw (w : Int32) : Bool := decide ((w &&& (1 : Int32)) = 0)
/-- does the field at place a come? -/
def cm_w (x1 a : Int32) (b : Bool) : Bool := decide ((if x1 ≤ a then (0 : Int32) else (1 : Int32)) = mm_b b)
def np_w (x1 st a : Int32) (co : Bool) : Int32 := (if co = true then (((2 : Int32) * x1) - (1 : Int32)) - a else a) - st
def nb_w (co ov : Bool) (own met b : Int32) : Int32 := if co = true then (if ov = true then ((own - (1 : Int32)) - b) + met else (own - (1 : Int32)) - b) else (if ov = true then b else b + met)
def nf_w (co : Bool) (f : Int32) : Int32 := if co = true then (1 : Int32) - f else f
def ta_w (T : List Int32) (high wide w m x : Int32) : Int32 := if m < 0 then 0 else if m < (if (4 : Int32) ≤ w then high else wide) then (if (4 : Int32) ≤ w then mm_ig T ((m * (8 : Int32)) + x) else mm_ig T ((x * (8 : Int32)) + m)) else 0
theorem al_e {i w a : Int32} {R C : List Int32} (h : fX5_along 700 i w R C = some a) : a = al_w w (R.getD i.toInt.toNat 0) (C.getD i.toInt.toNat 0) := by
  unfold fX5_along at h
  unfold al_w
  by_cases c : (4 : Int32) ≤ w
  · rw [if_pos c] at h ⊢
    exact (sm_i (ck_x h)).symm
  · rw [if_neg c] at h ⊢
    exact (sm_i (ck_x h)).symm
theorem ac_e {i w a : Int32} {R C : List Int32} (h : fX5_across 700 i w R C = some a) : a = ac_w w (R.getD i.toInt.toNat 0) (C.getD i.toInt.toNat 0) := by
  unfold fX5_across at h
  unfold ac_w
  by_cases c : (4 : Int32) ≤ w
  · rw [if_pos c] at h ⊢
    exact (sm_i (ck_x h)).symm
  · rw [if_neg c] at h ⊢
    exact (sm_i (ck_x h)).symm
theorem sp_e {w high wide r : Int32} (h : fX5_span 700 w high wide = some r) : r = if (4 : Int32) ≤ w then high else wide := by
  unfold fX5_span at h
  by_cases c : (4 : Int32) ≤ w
  · rw [if_pos c] at h ⊢
    exact (sm_i h).symm
  · rw [if_neg c] at h ⊢
    exact (sm_i h).symm
theorem cs_e {w : Int32} {r : Bool} (h : fX5_comesFromStart 700 w = some r) : r = csw w := by
  unfold fX5_comesFromStart at h
  unfold csw
  by_cases c : (w &&& (2 : Int32)) = 0
  · rw [if_pos c] at h
    rw [decide_eq_true c]
    exact (sm_i h).symm
  · rw [if_neg c] at h
    rw [decide_eq_false c]
    exact (sm_i h).symm
theorem ov_e {w : Int32} {r : Bool} (h : fX5_comesOver 700 w = some r) : r = ovw w := by
  unfold fX5_comesOver at h
  unfold ovw
  by_cases c : (w &&& (1 : Int32)) = 0
  · rw [if_pos c] at h
    rw [decide_eq_true c]
    exact (sm_i h).symm
  · rw [if_neg c] at h
    rw [decide_eq_false c]
    exact (sm_i h).symm
theorem ta_e {m x w high wide r : Int32} {T : List Int32} (h : fX5_tallAt 700 m x w high wide T = some r) : r = ta_w T high wide w m x := by
  unfold fX5_tallAt at h
  unfold ta_w
  by_cases c : m < 0
  · rw [if_pos c] at h ⊢
    exact (sm_i h).symm
  · rw [if_neg c] at h ⊢
    obtain ⟨s, es, h⟩ := mm_bd1s h
    have hs := sp_e es
    rw [← hs]
    by_cases d : m < s
    · rw [if_pos d] at h ⊢
      by_cases f : (4 : Int32) ≤ w
      · rw [if_pos f] at h ⊢
        exact (sm_i (ck_x h)).symm
      · rw [if_neg f] at h ⊢
        exact (sm_i (ck_x h)).symm
    · rw [if_neg d] at h ⊢
      exact (sm_i h).symm
theorem sa_e {i w v : Int32} {R C R1 C1 : List Int32} (h : fX5_setAlong 700 i w v R C = some (R1, C1)) : ps_w R R1 i.toInt.toNat (if (4 : Int32) ≤ w then v else R.getD i.toInt.toNat 0) ∧ ps_w C C1 i.toInt.toNat (if (4 : Int32) ≤ w then C.getD i.toInt.toNat 0 else v) := by
  unfold fX5_setAlong at h
  by_cases c : (4 : Int32) ≤ w
  · rw [if_pos c] at h ⊢
    rw [if_pos c]
    have h := ck_x h
    rw [nm_eq] at h
    have h := sm_i h
    injection h with h1 h2
    subst h1
    subst h2
    exact ⟨ps_is _ _ _, ps_id _ _⟩
  · rw [if_neg c] at h ⊢
    rw [if_neg c]
    have h := ck_x h
    rw [nm_eq] at h
    have h := sm_i h
    injection h with h1 h2
    subst h1
    subst h2
    exact ⟨ps_id _ _, ps_is _ _ _⟩
theorem tu_188 {β : Type} {k : Int32 → Int32 → Int32 → Int32 → Int32 → Int32 → Int32 → Int32 → List Int32 → List Int32 → List Int32 → List Int32 → List Int32 → Option (Int32 × Int32 × List Int32 × List Int32 × List Int32 × List Int32 × List Int32)} {x1 x2 x4 x5 x6 rows cols high wide : Int32} {R C B F T : List Int32} {z : Int32 × Int32 × List Int32 × List Int32 × List Int32 × List Int32 × List Int32} (e : fX5_turn_188 700 k x1 x2 x4 x5 x6 rows cols high wide R C B F T = some z) : ∃ R1 C1 : List Int32, k x1 x2 x4 (x5 + (1 : Int32)) rows cols high wide R1 C1 B F T = some z ∧ ps_w R R1 x5.toInt.toNat (if (4 : Int32) ≤ x2 then x6 - x4 else R.getD x5.toInt.toNat 0) ∧ ps_w C C1 x5.toInt.toNat (if (4 : Int32) ≤ x2 then C.getD x5.toInt.toNat 0 else x6 - x4) := by
  unfold fX5_turn_188 at e
  obtain ⟨R1, C1, es, e⟩ := mm_bd2s e
  rw [nm_eq] at e
  exact ⟨R1, C1, e, sa_e es⟩
theorem tu_144 {k : Int32 → Int32 → Int32 → Int32 → Int32 → Int32 → Int32 → Int32 → List Int32 → List Int32 → List Int32 → List Int32 → List Int32 → Option (Int32 × Int32 × List Int32 × List Int32 × List Int32 × List Int32 × List Int32)} {x1 x2 x4 x5 x7 s0 s1 rows cols high wide : Int32} {R C B F T : List Int32} {z : Int32 × Int32 × List Int32 × List Int32 × List Int32 × List Int32 × List Int32} (e : fX5_turn_144 700 k x1 x2 x4 x5 x7 s0 s1 x5 rows cols high wide R C B F T = some z) : ∃ R1 C1 B1 F1 : List Int32, k x1 x2 x4 (x5 + (1 : Int32)) rows cols high wide R1 C1 B1 F1 T = some z ∧ ps_w R R1 x5.toInt.toNat (if (4 : Int32) ≤ x2 then x7 - x4 else R.getD x5.toInt.toNat 0) ∧ ps_w C C1 x5.toInt.toNat (if (4 : Int32) ≤ x2 then C.getD x5.toInt.toNat 0 else x7 - x4) ∧ ps_w B B1 x5.toInt.toNat (s1 + s0) ∧ ps_w F F1 x5.toInt.toNat ((1 : Int32) - F.getD x5.toInt.toNat 0) := by
  unfold fX5_turn_144 at e
  rw [nm_eq] at e
  have e := ck_x e
  rw [nm_eq] at e
  have e := ck_x e
  rw [nm_eq] at e
  have e := ck_x e
  rw [nm_eq] at e
  obtain ⟨R1, C1, e, h1, h2⟩ := tu_188 (β := Unit) e
  exact ⟨R1, C1, _, _, e, h1, h2, ps_is _ _ _, ps_is _ _ _⟩
/-- a field before and behind the fold -/
def mv_w (T : List Int32) (high wide w x1 st r c b f r' c' b' f' : Int32) : Prop := b' = nb_w (cm_w x1 (al_w w r c) (csw w)) (ovw w) (ta_w T high wide w (al_w w r c) (ac_w w r c)) (ta_w T high wide w ((((2 : Int32) * x1) - (1 : Int32)) - al_w w r c) (ac_w w r c)) b ∧ f' = nf_w (cm_w x1 (al_w w r c) (csw w)) f ∧ r' = (if (4 : Int32) ≤ w then np_w x1 st (al_w w r c) (cm_w x1 (al_w w r c) (csw w)) else r) ∧ c' = (if (4 : Int32) ≤ w then c else np_w x1 st (al_w w r c) (cm_w x1 (al_w w r c) (csw w)))
theorem tu_90 {k : Int32 → Int32 → Int32 → Int32 → Int32 → Int32 → Int32 → Int32 → List Int32 → List Int32 → List Int32 → List Int32 → List Int32 → Option (Int32 × Int32 × List Int32 × List Int32 × List Int32 × List Int32 × List Int32)} {x1 x2 x4 x5 a t rows cols high wide : Int32} {R C B F T : List Int32} {z : Int32 × Int32 × List Int32 × List Int32 × List Int32 × List Int32 × List Int32} (ha : a = al_w x2 (R.getD x5.toInt.toNat 0) (C.getD x5.toInt.toNat 0)) (ht : t = ta_w T high wide x2 ((((2 : Int32) * x1) - (1 : Int32)) - a) (ac_w x2 (R.getD x5.toInt.toNat 0) (C.getD x5.toInt.toNat 0))) (e : fX5_turn_90 700 k x1 x2 x4 x5 a ((((2 : Int32) * x1) - (1 : Int32)) - a) t (if x1 ≤ a then (0 : Int32) else (1 : Int32)) rows cols high wide R C B F T = some z) : ∃ R1 C1 B1 F1 : List Int32, k x1 x2 x4 (x5 + (1 : Int32)) rows cols high wide R1 C1 B1 F1 T = some z ∧ ∃ r' c' b' f' : Int32, mv_w T high wide x2 x1 x4 (R.getD x5.toInt.toNat 0) (C.getD x5.toInt.toNat 0) (B.getD x5.toInt.toNat 0) (F.getD x5.toInt.toNat 0) r' c' b' f' ∧ ps_w R R1 x5.toInt.toNat r' ∧ ps_w C C1 x5.toInt.toNat c' ∧ ps_w B B1 x5.toInt.toNat b' ∧ ps_w F F1 x5.toInt.toNat f' := by
  unfold fX5_turn_90 at e
  obtain ⟨q, eq, e⟩ := mm_bd1s e
  have hq := cs_e eq
  subst hq
  unfold mv_w
  rw [← ha, ← ht]
  by_cases c : (if x1 ≤ a then (0 : Int32) else (1 : Int32)) = mm_b (csw x2)
  · rw [if_pos c] at e
    have hc : cm_w x1 a (csw x2) = true := decide_eq_true c
    rw [hc]
    obtain ⟨x, ex, e⟩ := mm_bd1s e
    have hx := ac_e ex
    obtain ⟨o, eo, e⟩ := mm_bd1s e
    have ho := ta_e eo
    rw [hx] at ho
    rw [← ho]
    have e := ck_x e
    obtain ⟨v, ev, e⟩ := mm_bd1s e
    have hv := ov_e ev
    subst hv
    by_cases d : ovw x2 = false
    · rw [if_pos d] at e
      rw [d]
      obtain ⟨R1, C1, B1, F1, e, h1, h2, h3, h4⟩ := tu_144 e
      refine ⟨R1, C1, B1, F1, e, _, _, _, _, ⟨rfl, rfl, rfl, rfl⟩, h1, h2, ?_, h4⟩
      have z0 : ((o - (1 : Int32)) - (mm_ig B x5)) + (0 : Int32) = (o - (1 : Int32)) - (mm_ig B x5) := Int32.add_zero _
      rw [z0] at h3
      exact h3
    · rw [if_neg d] at e
      have d : ovw x2 = true := by
        cases h : ovw x2
        · exact absurd h d
        · rfl
      rw [d]
      obtain ⟨R1, C1, B1, F1, e, h1, h2, h3, h4⟩ := tu_144 e
      exact ⟨R1, C1, B1, F1, e, _, _, _, _, ⟨rfl, rfl, rfl, rfl⟩, h1, h2, h3, h4⟩
  · rw [if_neg c] at e
    have hc : cm_w x1 a (csw x2) = false := decide_eq_false c
    rw [hc]
    obtain ⟨v, ev, e⟩ := mm_bd1s e
    have hv := ov_e ev
    subst hv
    by_cases d : ovw x2 = false
    · rw [if_pos d] at e
      rw [d]
      have e := ck_x e
      rw [nm_eq] at e
      have e := ck_x e
      rw [nm_eq] at e
      obtain ⟨R1, C1, e, h1, h2⟩ := tu_188 (β := Unit) e
      exact ⟨R1, C1, _, _, e, _, _, _, _, ⟨rfl, rfl, rfl, rfl⟩, h1, h2, ps_is _ _ _, ps_id _ _⟩
    · rw [if_neg d] at e
      have d : ovw x2 = true := by
        cases h : ovw x2
        · exact absurd h d
        · rfl
      rw [d]
      obtain ⟨R1, C1, e, h1, h2⟩ := tu_188 (β := Unit) e
      exact ⟨R1, C1, _, _, e, _, _, _, _, ⟨rfl, rfl, rfl, rfl⟩, h1, h2, ps_id _ _, ps_id _ _⟩
theorem tu_35 {x1 x2 x4 rows cols high wide : Int32} {T : List Int32} {m : Nat} (hm : (rows * cols).toInt = m) (m32 : m ≤ 32) : ∀ (n : Nat) (x5 : Int32) (R C B F : List Int32) (h' w' : Int32) (R' C' B' F' T' : List Int32), fX5_turn_35 700 n x1 x2 x4 x5 rows cols high wide R C B F T = some (h', w', R', C', B', F', T') → 0 ≤ x5.toInt → x5.toInt ≤ m → R.length = 32 → C.length = 32 → B.length = 32 → F.length = 32 → (h' = (if (4 : Int32) ≤ x2 then mm_max x1 (high - x1) else high) ∧ w' = (if (4 : Int32) ≤ x2 then wide else mm_max x1 (wide - x1))) ∧ (∀ k : Nat, k < x5.toInt.toNat → R'.getD k 0 = R.getD k 0 ∧ C'.getD k 0 = C.getD k 0 ∧ B'.getD k 0 = B.getD k 0 ∧ F'.getD k 0 = F.getD k 0) ∧ (∀ k : Nat, x5.toInt.toNat ≤ k → k < m → mv_w T high wide x2 x1 x4 (R.getD k 0) (C.getD k 0) (B.getD k 0) (F.getD k 0) (R'.getD k 0) (C'.getD k 0) (B'.getD k 0) (F'.getD k 0)) := by
  have n1 : (1 : Int32).toInt = 1 := by decide
  intro n
  induction n with
  | zero =>
    intro x5 R C B F h' w' R' C' B' F' T' e
    exact absurd e (by intro h; cases h)
  | succ n ih =>
    intro x5 R C B F h' w' R' C' B' F' T' e p0 p1 l1 l2 l3 l4
    rw [uf_X5_turn_35] at e
    obtain ⟨fl, ef, e⟩ := mm_bd1s e
    have hf : rows * cols = fl := sm_i ef
    subst hf
    by_cases c : rows * cols ≤ x5
    · rw [if_pos c] at e
      have d := i_le c
      obtain ⟨s, es, e⟩ := mm_bd1s e
      obtain ⟨u, v, en, e⟩ := mm_bd2s e
      have e := sm_i e
      injection e with e1 e
      injection e with e2 e
      injection e with e3 e
      injection e with e4 e
      injection e with e5 e
      injection e with e6 e
      subst e1 e2 e3 e4 e5 e6
      refine ⟨?_, fun k hk => ⟨rfl, rfl, rfl, rfl⟩, fun k k0 k1 => absurd k1 (by omega)⟩
      unfold fX5_spanBehind at es
      obtain ⟨q, eq, es⟩ := mm_bd1s es
      have hq := sp_e eq
      have hs := sm_i es
      unfold fX5_narrow at en
      by_cases f : (4 : Int32) ≤ x2
      · rw [if_pos f] at en hq
        have en := sm_i en
        injection en with e7 e8
        rw [if_pos f, if_pos f, ← e7, ← e8, ← hs, hq]
        exact ⟨rfl, rfl⟩
      · rw [if_neg f] at en hq
        have en := sm_i en
        injection en with e7 e8
        rw [if_neg f, if_neg f, ← e7, ← e8, ← hs, hq]
        exact ⟨rfl, rfl⟩
    · rw [if_neg c] at e
      have d := i_nle c
      obtain ⟨a, ea, e⟩ := mm_bd1s e
      have ha := al_e ea
      rw [nm_eq] at e
      obtain ⟨x, ex, e⟩ := mm_bd1s e
      have hx := ac_e ex
      obtain ⟨t, et, e⟩ := mm_bd1s e
      have ht := ta_e et
      rw [hx] at ht
      have e2 : fX5_turn_90 700 (fX5_turn_35 700 n) x1 x2 x4 x5 a ((((2 : Int32) * x1) - (1 : Int32)) - a) t (if x1 ≤ a then (0 : Int32) else (1 : Int32)) rows cols high wide R C B F T = some (h', w', R', C', B', F', T') := by
        by_cases g : x1 ≤ a
        · rw [if_pos g] at e ⊢
          exact e
        · rw [if_neg g] at e ⊢
          exact e
      obtain ⟨R1, C1, B1, F1, e3, r', c', b', f', hv, s1, s2, s3, s4⟩ := tu_90 ha ht e2
      generalize hy : x5 + (1 : Int32) = y at e3
      have ey := i_addE hy (by omega) (by omega)
      obtain ⟨j1, j2, j3⟩ := ih y R1 C1 B1 F1 h' w' R' C' B' F' T' e3 (by omega) (by omega) (by rw [s1.1]; exact l1) (by rw [s2.1]; exact l2) (by rw [s3.1]; exact l3) (by rw [s4.1]; exact l4)
      refine ⟨j1, fun k hk => ?_, fun k k0 k1 => ?_⟩
      · obtain ⟨q1, q2, q3, q4⟩ := j2 k (by omega)
        rw [q1, q2, q3, q4, ps_ne s1 (by omega) (by omega), ps_ne s2 (by omega) (by omega), ps_ne s3 (by omega) (by omega), ps_ne s4 (by omega) (by omega)]
        exact ⟨rfl, rfl, rfl, rfl⟩
      · by_cases g : x5.toInt.toNat = k
        · obtain ⟨q1, q2, q3, q4⟩ := j2 k (by omega)
          rw [← g] at q1 q2 q3 q4 ⊢
          rw [q1, q2, q3, q4, ps_at s1 (by omega), ps_at s2 (by omega), ps_at s3 (by omega), ps_at s4 (by omega)]
          exact hv
        · have q := j3 k (by omega) k1
          rw [ps_ne s1 (by omega) g, ps_ne s2 (by omega) g, ps_ne s3 (by omega) g, ps_ne s4 (by omega) g] at q
          exact q
end
section
/-! The law: steps and stacks -/
def jn_w (c a b : Int32) : Int32 := if c = 124 then (if a = 0 then (if b = 0 then 0 else 1) else 1) else if c = 38 then (if a = 0 then 0 else (if b = 0 then 0 else 1)) else if c = 60 then (if b ≤ a then 0 else 1) else if c = 61 then (if a = b then 1 else 0) else if c = 62 then (if a ≤ b then 0 else 1) else if c = 43 then a + b else if c = 45 then a - b else if c = 42 then a * b else if c = 47 then (if b = 0 then 0 else a / b) else if c = 37 then (if b = 0 then 0 else mm_rem a b) else 0
/-- names by their letters -/
def nw_w (nm : List Int32) (c : Int32) : Int32 := if c = 98 then nm.getD 5 0 else if c = 102 then nm.getD 4 0 else if c = 107 then nm.getD 3 0 else if c = 110 then nm.getD 0 0 else if c = 114 then nm.getD 2 0 else nm.getD 1 0
def na_w (c : Int32) : Prop := c = 98 ∨ c = 102 ∨ c = 107 ∨ c = 110 ∨ c = 114 ∨ c = 119
def bi_w (c : Int32) : Prop := c = 124 ∨ c = 38 ∨ c = 60 ∨ c = 61 ∨ c = 62 ∨ c = 43 ∨ c = 45 ∨ c = 42 ∨ c = 47 ∨ c = 37
/-- a step: what it does to a stack, the topmost first -/
def sx_w (nm : List Int32) (c : Int32) (S : List Int32) : List Int32 := if c = 98 ∨ c = 102 ∨ c = 107 ∨ c = 110 ∨ c = 114 ∨ c = 119 then nw_w nm c :: S else if c = 33 then (if S.headD 0 = 0 then (1 : Int32) else (0 : Int32)) :: S.tail else if c = 126 then (-(S.headD 0)) :: S.tail else if (1000 : Int32) ≤ c then (c - (1000 : Int32)) :: S else jn_w c (S.tail.headD 0) (S.headD 0) :: S.tail.tail
def xs_w (nm : List Int32) : List Int32 → List Int32 → List Int32
  | [], S => S
  | c :: cs, S => xs_w nm cs (sx_w nm c S)
theorem xs_a (nm : List Int32) : ∀ (a b S : List Int32), xs_w nm (a ++ b) S = xs_w nm b (xs_w nm a S) := by
  intro a
  induction a with
  | nil =>
    intro b S
    rfl
  | cons c a ih =>
    intro b S
    exact ih b (sx_w nm c S)
theorem sx_b {nm : List Int32} {c a b : Int32} {S : List Int32} (h : bi_w c) : sx_w nm c (b :: a :: S) = jn_w c a b :: S := by
  unfold sx_w
  rcases h with h | h | h | h | h | h | h | h | h | h <;> subst h <;> rfl
theorem sx_n {nm : List Int32} {c : Int32} {S : List Int32} (h : na_w c) : sx_w nm c S = nw_w nm c :: S := by
  unfold sx_w
  exact if_pos h
/-- the steps cs stand in D1 from dc on, all ahead of them as in D -/
def cs_w (dc : Nat) (D D1 cs : List Int32) : Prop := D1.length = 121 ∧ (∀ k : Nat, k < dc → D1.getD k 0 = D.getD k 0) ∧ ∀ i : Nat, i < cs.length → D1.getD (dc + i) 0 = cs.getD i 0
theorem cs_0 {dc : Nat} {D : List Int32} (h : D.length = 121) : cs_w dc D D [] := ⟨h, fun _ _ => rfl, fun i hi => absurd hi (by rw [List.length_nil]; omega)⟩
theorem cs_t {dc : Nat} {D D1 D2 a b : List Int32} (h1 : cs_w dc D D1 a) (h2 : cs_w (dc + a.length) D1 D2 b) : cs_w dc D D2 (a ++ b) := by
  refine ⟨h2.1, fun k hk => ?_, fun i hi => ?_⟩
  · rw [h2.2.1 k (by omega), h1.2.1 k hk]
  · rw [List.length_append] at hi
    by_cases g : i < a.length
    · rw [h2.2.1 (dc + i) (by omega), h1.2.2 i g, List.getD_eq_getElem?_getD, List.getD_eq_getElem?_getD, List.getElem?_append_left g]
    · have e : dc + i = dc + a.length + (i - a.length) := by omega
      rw [e, h2.2.2 (i - a.length) (by omega), List.getD_eq_getElem?_getD, List.getD_eq_getElem?_getD, List.getElem?_append_right (by omega)]
theorem no_e {c dc dc' : Int32} {D D' : List Int32} (h0 : 0 ≤ dc.toInt) (h1 : dc.toInt < 121) (hl : D.length = 121) (e : fX2_note 700 c dc D = some (dc', D')) : dc'.toInt = dc.toInt + 1 ∧ cs_w dc.toInt.toNat D D' [c] := by
  have n121 : (121 : Int32).toInt = 121 := by decide
  have n1 : (1 : Int32).toInt = 1 := by decide
  unfold fX2_note at e
  rw [if_neg (fun k => absurd (i_le k) (by omega))] at e
  have e := ck_x e
  rw [nm_eq, nm_eq] at e
  have e := sm_i e
  injection e with e1 e2
  subst e1
  subst e2
  refine ⟨i_addE rfl (by omega) (by omega), by rw [is_len]; exact hl, fun k hk => ?_, fun i hi => ?_⟩
  · rw [ge_is _ _ _ _ (by omega), if_neg (by omega)]
  · have : i = 0 := by
      rw [List.length_singleton] at hi
      omega
    subst this
    rw [Nat.add_zero, ge_is _ _ _ _ (by omega), if_pos rfl]
    rfl
/-- steps that are neither ; nor ? -/
def pu_w (cs : List Int32) : Prop := ∀ c ∈ cs, ¬ c = 59 ∧ ¬ c = 63
theorem pu_a {a b : List Int32} (h1 : pu_w a) (h2 : pu_w b) : pu_w (a ++ b) := fun c hc => by
  rcases List.mem_append.mp hc with h | h
  · exact h1 c h
  · exact h2 c h
theorem pu_1 {c : Int32} (h : ¬ c = 59 ∧ ¬ c = 63) : pu_w [c] := fun x hx => by
  rw [List.mem_singleton.mp hx]
  exact h
theorem pu_0 : pu_w [] := fun x hx => by cases hx
theorem bi_u {c : Int32} (h : bi_w c) : ¬ c = 59 ∧ ¬ c = 63 := by
  rcases h with h | h | h | h | h | h | h | h | h | h <;> subst h <;> decide
theorem na_u {c : Int32} (h : na_w c) : ¬ c = 59 ∧ ¬ c = 63 := by
  rcases h with h | h | h | h | h | h <;> subst h <;> decide
/-- some steps that read a part of the text: alike in class and reference -/
def pq_w (nm : List Int32) (I : List Int32 → List Int32) (n d dc p : Int32) (D : List Int32) (dc' p' f' : Int32) (D' : List Int32) (v a9 f9 o9 : Int32) : Prop := f9 = f' ∧ (0 ≤ f'.toInt ∨ (f' = -1 ∧ a9 = p' ∧ o9 = d ∧ p.toInt ≤ p'.toInt ∧ p'.toInt ≤ n.toInt ∧ ∃ cs : List Int32, cs_w dc.toInt.toNat D D' cs ∧ dc'.toInt = dc.toInt + cs.length ∧ (cs.length : Int) ≤ p'.toInt - p.toInt ∧ pu_w cs ∧ ∀ S : List Int32, xs_w nm cs (I S) = v :: S))
/-- where reading begins -/
def pb_w (n dc p : Int32) (D : List Int32) : Prop := 0 ≤ dc.toInt ∧ dc.toInt ≤ p.toInt ∧ p.toInt ≤ n.toInt ∧ n.toInt ≤ 120 ∧ D.length = 121
theorem pq_b {nm : List Int32} {I : List Int32 → List Int32} {n d dc p dc' p' f' v a9 f9 o9 : Int32} {D D' : List Int32} (b : pb_w n dc p D) (h : pq_w nm I n d dc p D dc' p' f' D' v a9 f9 o9) (hf : ¬ 0 ≤ f'.toInt) : pb_w n dc' p' D' := by
  obtain ⟨b1, b2, b3, b4, b5⟩ := b
  obtain ⟨-, h | ⟨-, -, -, h4, h5, cs, h6, h7, h8, -⟩⟩ := h
  · exact absurd h hf
  · exact ⟨by omega, by omega, h5, b4, h6.1⟩
/-- one part behind another -/
theorem pq_t {nm : List Int32} {I : List Int32 → List Int32} {n d dc p dc1 p1 f1 v1 a1 g1 o1 dc2 p2 f2 v2 a2 g2 o2 : Int32} {D D1 D2 : List Int32} (hd : 0 ≤ dc.toInt) (h1 : pq_w nm I n d dc p D dc1 p1 f1 D1 v1 a1 g1 o1) (hf : ¬ 0 ≤ f1.toInt) (h2 : pq_w nm (fun S => v1 :: S) n d dc1 p1 D1 dc2 p2 f2 D2 v2 a2 g2 o2) : pq_w nm I n d dc p D dc2 p2 f2 D2 v2 a2 g2 o2 := by
  obtain ⟨-, h1 | ⟨-, -, -, x4, x5, cs, x6, x7, x8, xp, x9⟩⟩ := h1
  · exact absurd h1 hf
  · obtain ⟨y1, h2 | ⟨y2, y3, y4, y5, y6, cs2, y7, y8, y9, yp, y10⟩⟩ := h2
    · exact ⟨y1, Or.inl h2⟩
    · refine ⟨y1, Or.inr ⟨y2, y3, y4, by omega, y6, cs ++ cs2, ?_, ?_, ?_, pu_a xp yp, fun S => ?_⟩⟩
      · refine cs_t x6 ?_
        have e : dc.toInt.toNat + cs.length = dc1.toInt.toNat := by omega
        rw [e]
        exact y7
      · rw [List.length_append]
        omega
      · rw [List.length_append]
        omega
      · rw [xs_a, x9]
        exact y10 S
/-- an operator, what follows it, its step -/
theorem pq_o {nm : List Int32} {n d dc p p1 dc1 p2 f1 v w a1 g1 o1 dc2 c : Int32} {D D1 D2 : List Int32} (hb : pb_w n dc p D) (hp : p1.toInt = p.toInt + 1) (h1 : pq_w nm id n d dc p1 D dc1 p2 f1 D1 w a1 g1 o1) (hf : ¬ 0 ≤ f1.toInt) (hc : bi_w c) (hn : fX2_note 700 c dc1 D1 = some (dc2, D2)) : pq_w nm (fun S => v :: S) n d dc p D dc2 p2 f1 D2 (jn_w c v w) a1 g1 o1 := by
  obtain ⟨b1, b2, b3, b4, b5⟩ := hb
  obtain ⟨x1, h1 | ⟨x2, x3, x3', x4, x5, cs, x6, x7, x8, xp, x9⟩⟩ := h1
  · exact absurd h1 hf
  · obtain ⟨y1, y2⟩ := no_e (by omega) (by omega) x6.1 hn
    refine ⟨x1, Or.inr ⟨x2, x3, x3', by omega, x5, cs ++ [c], ?_, ?_, ?_, pu_a xp (pu_1 (bi_u hc)), fun S => ?_⟩⟩
    · refine cs_t x6 ?_
      have e : dc.toInt.toNat + cs.length = dc1.toInt.toNat := by omega
      rw [e]
      exact y2
    · rw [List.length_append, List.length_singleton]
      omega
    · rw [List.length_append, List.length_singleton]
      omega
    · rw [xs_a]
      show xs_w nm [c] (xs_w nm cs (id (v :: S))) = _
      rw [x9]
      exact sx_b hc
theorem pq_s {nm : List Int32} {n d dc p v : Int32} {D : List Int32} (b : pb_w n dc p D) : pq_w nm (fun S => v :: S) n d dc p D dc p (-1) D v p (-1) d := ⟨rfl, Or.inr ⟨rfl, rfl, rfl, Int.le_refl _, b.2.2.1, [], cs_0 b.2.2.2.2, by rw [List.length_nil]; omega, by rw [List.length_nil]; omega, pu_0, fun _ => rfl⟩⟩
/-- the byte at a place, as the class reads it and as the reference does -/
def nb_8 (b : Nat → Int32) (n p : Int32) : Int32 := if n ≤ p then -1 else b p.toInt.toNat
def nb_9 (b : Nat → Int32) (n p : Int32) : Int32 := if n ≤ p then 0 else b p.toInt.toNat
theorem nx_e {n p r : Int32} {tape : List Int32} (e : fX2_next 700 n p tape = some r) : r = nb_8 (fun k => tape.getD k 0) n p := by
  unfold fX2_next at e
  unfold nb_8
  by_cases c : n ≤ p
  · rw [if_pos c] at e ⊢
    exact (sm_i e).symm
  · rw [if_neg c] at e ⊢
    exact (sm_i (ck_x e)).symm
theorem nb_c {b : Nat → Int32} {n p c : Int32} (h0 : ¬ c = 0) (h1 : ¬ c = -1) : (nb_9 b n p = c) ↔ (nb_8 b n p = c) := by
  unfold nb_8 nb_9
  by_cases g : n ≤ p
  · rw [if_pos g, if_pos g]
    exact ⟨fun h => absurd h.symm h0, fun h => absurd h.symm h1⟩
  · rw [if_neg g, if_neg g]
theorem nb_l {b : Nat → Int32} {n p c : Int32} (h1 : ¬ c = -1) (h : nb_8 b n p = c) : p.toInt < n.toInt := by
  unfold nb_8 at h
  by_cases g : n ≤ p
  · rw [if_pos g] at h
    exact absurd h.symm h1
  · exact i_nle g
theorem me_e {c n p f : Int32} {r : Bool} {tape : List Int32} (e : fX2_meets 700 c n p f tape = some r) : r = if 0 ≤ f.toInt then false else decide (nb_8 (fun k => tape.getD k 0) n p = c) := by
  have n0 : (0 : Int32).toInt = 0 := by decide
  unfold fX2_meets at e
  by_cases g : (0 : Int32) ≤ f
  · have d := i_le g
    rw [if_pos g] at e
    rw [if_pos (by omega)]
    exact (sm_i e).symm
  · have d := i_nle g
    rw [if_neg g] at e
    rw [if_neg (by omega)]
    obtain ⟨s, es, e⟩ := mm_bd1s e
    have hs := nx_e es
    rw [← hs]
    by_cases k : s = c
    · rw [if_pos k] at e
      rw [decide_eq_true k]
      exact (sm_i e).symm
    · rw [if_neg k] at e
      rw [decide_eq_false k]
      exact (sm_i e).symm
/-- the reference's bytes are b -/
def hb_w (b : Nat → Int32) (base n : Int32) (tape text : List Int32) : Prop := ∀ p r : Int32, 0 ≤ p.toInt → fX9_byteAt 700 base p n tape text = some r → r = nb_9 b n p
theorem tk_e {b : Nat → Int32} {base c n p f a : Int32} {r : Bool} {tape text : List Int32} (H : hb_w b base n tape text) (p0 : 0 ≤ p.toInt) (e : fX9_takes 700 c base p n f tape text = some (r, a)) : r = (if 0 ≤ f.toInt then false else decide (nb_9 b n p = c)) ∧ a = if r = true then p + (1 : Int32) else p := by
  have n0 : (0 : Int32).toInt = 0 := by decide
  unfold fX9_takes at e
  by_cases g : (0 : Int32) ≤ f
  · have d := i_le g
    rw [if_pos g] at e
    rw [if_pos (by omega)]
    apply mm_sub2 e
    exact ⟨rfl, rfl⟩
  · have d := i_nle g
    rw [if_neg g] at e
    rw [if_neg (by omega)]
    obtain ⟨s, es, e⟩ := mm_bd1s e
    have hs := H p s p0 es
    rw [← hs]
    by_cases k : s = c
    · rw [if_pos k, nm_eq] at e
      rw [decide_eq_true k]
      apply mm_sub2 e
      exact ⟨rfl, rfl⟩
    · rw [if_neg k] at e
      rw [decide_eq_false k]
      apply mm_sub2 e
      exact ⟨rfl, rfl⟩
end
section
/-! The law: products, sums -/
def rg_w (tape8 : List Int32) (base n : Int32) (tape text names : List Int32) (go8 : Int32 → Int32 → Int32 → Int32 → Int32 → List Int32 → List Int32 → Option (Int32 × Int32 × Int32 × List Int32)) (go9 : Int32 → Int32 → Int32 → Int32 → Int32 → List Int32 → List Int32 → List Int32 → Option (Int32 × Int32 × Int32 × Int32)) : Prop := ∀ (d dc p : Int32) (D : List Int32) (dc' p' f' : Int32) (D' : List Int32) (v a9 f9 o9 : Int32), 0 ≤ d.toInt → d.toInt ≤ 6 → pb_w n dc p D → go8 d n dc p (-1) tape8 D = some (dc', p', f', D') → go9 base p n (-1) d tape text names = some (v, a9, f9, o9) → pq_w names id n d dc p D dc' p' f' D' v a9 f9 o9
theorem m1_f : ¬ 0 ≤ (-1 : Int32).toInt := by decide
theorem pb_n {n dc p p1 : Int32} {D : List Int32} (b : pb_w n dc p D) (hp : p1.toInt = p.toInt + 1) (hl : p.toInt < n.toInt) : pb_w n dc p1 D := ⟨b.1, by have := b.2.1; omega, by omega, b.2.2.2.1, b.2.2.2.2⟩
theorem pd_f {go : Int32 → Int32 → Int32 → Int32 → Int32 → List Int32 → List Int32 → Option (Int32 × Int32 × Int32 × List Int32)} {d n : Int32} {tape8 : List Int32} {m : Nat} {i dc p f dc' p' f' : Int32} {D D' : List Int32} (hf : 0 ≤ f.toInt) (e : fX2_readProduct_7 700 go m d i n dc p f tape8 D = some (dc', p', f', D')) : f' = f := by
  cases m with
  | zero => exact absurd e (by intro h; cases h)
  | succ m =>
    rw [uf_X2_readProduct_7] at e
    by_cases c : (120 : Int32) ≤ i
    · rw [if_pos c] at e
      apply mm_sub4 e
      rfl
    · rw [if_neg c] at e
      obtain ⟨r1, m1, e⟩ := mm_bd1s e
      have h1 := me_e m1
      rw [if_pos hf] at h1
      rw [if_pos h1] at e
      obtain ⟨r2, m2, e⟩ := mm_bd1s e
      have h2 := me_e m2
      rw [if_pos hf] at h2
      rw [if_pos h2] at e
      obtain ⟨r3, m3, e⟩ := mm_bd1s e
      have h3 := me_e m3
      rw [if_pos hf] at h3
      rw [if_pos h3] at e
      apply mm_sub4 e
      rfl
theorem pd_g {go : Int32 → Int32 → Int32 → Int32 → Int32 → List Int32 → List Int32 → List Int32 → Option (Int32 × Int32 × Int32 × Int32)} {base at_ n f d v x2 v' a9 f9 o9 : Int32} {tape text names : List Int32} {m : Nat} (hf : 0 ≤ f.toInt) (e : fX9_product_85 700 go (fX9_product_10 700 go m) v base at_ n f d tape text names = some (v', a9, f9, o9)) : f9 = f := by
  have n0 : (0 : Int32).toInt = 0 := by decide
  rw [uf_X9_product_85] at e
  obtain ⟨r, -, e⟩ := mm_bd1s e
  cases m with
  | zero => exact absurd e (by intro h; cases h)
  | succ m =>
    rw [uf_X9_product_10, if_pos (Int32.le_iff_toInt_le.mpr (by omega))] at e
    apply mm_sub4 e
    rfl
theorem pd_7 {go8 : Int32 → Int32 → Int32 → Int32 → Int32 → List Int32 → List Int32 → Option (Int32 × Int32 × Int32 × List Int32)} {go9 : Int32 → Int32 → Int32 → Int32 → Int32 → List Int32 → List Int32 → List Int32 → Option (Int32 × Int32 × Int32 × Int32)} {tape8 : List Int32} {base n d : Int32} {tape text names : List Int32} (HB : hb_w (fun k => tape8.getD k 0) base n tape text) (RG : rg_w tape8 base n tape text names go8 go9) (d0 : 0 ≤ d.toInt) (d6 : d.toInt ≤ 6) : ∀ (m m' : Nat) (i dc p : Int32) (D : List Int32) (v x2 dc' p' f' : Int32) (D' : List Int32) (v' a9 f9 o9 : Int32), pb_w n dc p D → 0 ≤ i.toInt → i.toInt ≤ p.toInt → x2 = nb_9 (fun k => tape8.getD k 0) n p → fX2_readProduct_7 700 go8 m d i n dc p (-1) tape8 D = some (dc', p', f', D') → fX9_product_10 700 go9 m' v x2 base p n (-1) d tape text names = some (v', a9, f9, o9) → pq_w names (fun S => v :: S) n d dc p D dc' p' f' D' v' a9 f9 o9 := by
  have n1 : (1 : Int32).toInt = 1 := by decide
  have n120 : (120 : Int32).toInt = 120 := by decide
  intro m
  induction m with
  | zero =>
    intro m' i dc p D v x2 dc' p' f' D' v' a9 f9 o9 hb i0 i1 hx e8
    exact absurd e8 (by intro h; cases h)
  | succ m ih =>
    intro m' i dc p D v x2 dc' p' f' D' v' a9 f9 o9 hb i0 i1 hx e8 e9
    cases m' with
    | zero => exact absurd e9 (by intro h; cases h)
    | succ m' =>
      obtain ⟨b1, b2, b3, b4, b5⟩ := id hb
      rw [uf_X2_readProduct_7] at e8
      rw [uf_X9_product_10, if_neg (by decide)] at e9
      have K : ∀ c : Int32, (c = 42 ∨ c = 47 ∨ c = 37) → nb_8 (fun k => tape8.getD k 0) n p = c → fX2_readProduct_40 700 go8 (fX2_readProduct_7 700 go8 m) d i n dc p (-1) tape8 D = some (dc', p', f', D') → fX9_product_35 700 go9 (fX9_product_10 700 go9 m') v c base p n (-1) d tape text names = some (v', a9, f9, o9) → pq_w names (fun S => v :: S) n d dc p D dc' p' f' D' v' a9 f9 o9 := by
        intro c hc hby e8 e9
        have hc1 : ¬ c = -1 := by rcases hc with h | h | h <;> rw [h] <;> decide
        have hcb : bi_w c := by
          unfold bi_w
          rcases hc with h | h | h
          · exact Or.inr (Or.inr (Or.inr (Or.inr (Or.inr (Or.inr (Or.inr (Or.inl h)))))))
          · exact Or.inr (Or.inr (Or.inr (Or.inr (Or.inr (Or.inr (Or.inr (Or.inr (Or.inl h))))))))
          · exact Or.inr (Or.inr (Or.inr (Or.inr (Or.inr (Or.inr (Or.inr (Or.inr (Or.inr h))))))))
        have hlt := nb_l hc1 hby
        rw [uf_X2_readProduct_40] at e8
        obtain ⟨r16, n16, e8⟩ := mm_bd1s e8
        have h16 := nx_e n16
        rw [hby] at h16
        subst h16
        rw [nm_eq] at e8
        rw [uf_X9_product_35, nm_eq] at e9
        generalize hy : p + (1 : Int32) = p1 at e8 e9
        have ey := i_addE hy (by omega) (by omega)
        obtain ⟨dc1, p2, f1, D1, eg8, e8⟩ := mm_bd4s e8
        obtain ⟨dc2, D2, en, e8⟩ := mm_bd2s e8
        rw [nm_eq] at e8
        obtain ⟨w, a1, g1, o1, eg9, e10⟩ := mm_bd4s e9
        clear e9
        have e9 := e10
        clear e10
        have q := RG d dc p1 D dc1 p2 f1 D1 w a1 g1 o1 d0 d6 (pb_n hb (by omega) hlt) eg8 eg9
        have e9' : fX9_product_85 700 go9 (fX9_product_10 700 go9 m') (jn_w r16 v w) base a1 n g1 o1 tape text names = some (v', a9, f9, o9) := by
          rcases hc with h | h | h
          · rw [if_pos h] at e9
            subst h
            exact e9
          · rw [if_neg (by rw [h]; decide)] at e9
            subst h
            by_cases hw : w = 0
            · rw [if_pos hw] at e9
              have : jn_w 47 v w = 0 := by
                unfold jn_w
                rw [if_neg (by decide), if_neg (by decide), if_neg (by decide), if_neg (by decide), if_neg (by decide), if_neg (by decide), if_neg (by decide), if_neg (by decide), if_pos rfl, if_pos hw]
              rw [this]
              exact e9
            · rw [if_neg hw, if_pos rfl] at e9
              have : jn_w 47 v w = v / w := by
                unfold jn_w
                rw [if_neg (by decide), if_neg (by decide), if_neg (by decide), if_neg (by decide), if_neg (by decide), if_neg (by decide), if_neg (by decide), if_neg (by decide), if_pos rfl, if_neg hw]
              rw [this]
              exact ck_x e9
          · rw [if_neg (by rw [h]; decide)] at e9
            subst h
            by_cases hw : w = 0
            · rw [if_pos hw] at e9
              have : jn_w 37 v w = 0 := by
                unfold jn_w
                rw [if_neg (by decide), if_neg (by decide), if_neg (by decide), if_neg (by decide), if_neg (by decide), if_neg (by decide), if_neg (by decide), if_neg (by decide), if_neg (by decide), if_pos rfl, if_pos hw]
              rw [this]
              exact e9
            · rw [if_neg hw, if_neg (by decide)] at e9
              have : jn_w 37 v w = mm_rem v w := by
                unfold jn_w
                rw [if_neg (by decide), if_neg (by decide), if_neg (by decide), if_neg (by decide), if_neg (by decide), if_neg (by decide), if_neg (by decide), if_neg (by decide), if_neg (by decide), if_pos rfl, if_neg hw]
              rw [this]
              exact ck_x e9
        by_cases hf : 0 ≤ f1.toInt
        · have q8 := pd_f hf e8
          have q9 := pd_g (x2 := 0) (by rw [q.1]; exact hf) e9'
          exact ⟨by rw [q8, q9]; exact q.1, Or.inl (by rw [q8]; exact hf)⟩
        · have st := pq_o (v := v) hb (by omega) q hf hcb en
          have qb := pq_b hb st hf
          obtain ⟨z1, z2 | ⟨z2, z3, z4, z5, z6, -⟩⟩ := q
          · exact absurd z2 hf
          · rw [z1, z2] at e9'
            rw [z2] at e8 st
            rw [z3, z4] at e9'
            rw [uf_X9_product_85] at e9'
            obtain ⟨r23, n23, e9'⟩ := mm_bd1s e9'
            have h23 := HB p2 r23 (by omega) n23
            generalize hj : i + (1 : Int32) = j at e8
            have ej := i_addE hj (by omega) (by omega)
            have IH := ih m' j dc2 p2 D2 (jn_w r16 v w) r23 dc' p' f' D' v' a9 f9 o9 qb (by omega) (by omega) h23 e8 e9'
            exact pq_t b1 st m1_f IH
      by_cases c0 : (120 : Int32) ≤ i
      · have d0' := i_le c0
        rw [if_pos c0] at e8
        have hx0 : x2 = 0 := by
          rw [hx]
          unfold nb_9
          rw [if_pos (Int32.le_iff_toInt_le.mpr (by omega))]
        rw [hx0, if_neg (by decide), if_neg (by decide), if_neg (by decide)] at e9
        apply mm_sub4 e8
        apply mm_sub4 e9
        exact pq_s hb
      · rw [if_neg c0] at e8
        obtain ⟨r1, m1, e8⟩ := mm_bd1s e8
        have h1 := me_e m1
        rw [if_neg m1_f] at h1
        by_cases k1 : nb_8 (fun k => tape8.getD k 0) n p = 42
        · rw [decide_eq_true k1] at h1
          rw [if_neg (by rw [h1]; decide)] at e8
          have hx1 : x2 = 42 := by rw [hx]; exact (nb_c (by decide) (by decide)).mpr k1
          rw [if_pos hx1, hx1] at e9
          exact K 42 (Or.inl rfl) k1 e8 e9
        · rw [decide_eq_false k1] at h1
          have hx1 : ¬ x2 = 42 := fun h => k1 ((nb_c (by decide) (by decide)).mp (by rw [← hx]; exact h))
          rw [if_pos h1] at e8
          rw [if_neg hx1] at e9
          obtain ⟨r2, m2, e8⟩ := mm_bd1s e8
          have h2 := me_e m2
          rw [if_neg m1_f] at h2
          by_cases k2 : nb_8 (fun k => tape8.getD k 0) n p = 47
          · rw [decide_eq_true k2] at h2
            rw [if_neg (by rw [h2]; decide)] at e8
            have hx2 : x2 = 47 := by rw [hx]; exact (nb_c (by decide) (by decide)).mpr k2
            rw [if_pos hx2, hx2] at e9
            exact K 47 (Or.inr (Or.inl rfl)) k2 e8 e9
          · rw [decide_eq_false k2] at h2
            have hx2 : ¬ x2 = 47 := fun h => k2 ((nb_c (by decide) (by decide)).mp (by rw [← hx]; exact h))
            rw [if_pos h2] at e8
            rw [if_neg hx2] at e9
            obtain ⟨r3, m3, e8⟩ := mm_bd1s e8
            have h3 := me_e m3
            rw [if_neg m1_f] at h3
            by_cases k3 : nb_8 (fun k => tape8.getD k 0) n p = 37
            · rw [decide_eq_true k3] at h3
              rw [if_neg (by rw [h3]; decide)] at e8
              have hx3 : x2 = 37 := by rw [hx]; exact (nb_c (by decide) (by decide)).mpr k3
              rw [if_pos hx3, hx3] at e9
              exact K 37 (Or.inr (Or.inr rfl)) k3 e8 e9
            · rw [decide_eq_false k3] at h3
              have hx3 : ¬ x2 = 37 := fun h => k3 ((nb_c (by decide) (by decide)).mp (by rw [← hx]; exact h))
              rw [if_pos h3] at e8
              rw [if_neg hx3] at e9
              apply mm_sub4 e8
              apply mm_sub4 e9
              exact pq_s hb
theorem pd_r {go8 : Int32 → Int32 → Int32 → Int32 → Int32 → List Int32 → List Int32 → Option (Int32 × Int32 × Int32 × List Int32)} {go9 : Int32 → Int32 → Int32 → Int32 → Int32 → List Int32 → List Int32 → List Int32 → Option (Int32 × Int32 × Int32 × Int32)} {tape8 : List Int32} {base n : Int32} {tape text names : List Int32} (HB : hb_w (fun k => tape8.getD k 0) base n tape text) (RG : rg_w tape8 base n tape text names go8 go9) : rg_w tape8 base n tape text names (fX2_readProduct 700 go8) (fX9_product 700 go9) := by
  intro d dc p D dc' p' f' D' v a9 f9 o9 d0 d6 hb e8 e9
  have n0 : (0 : Int32).toInt = 0 := by decide
  obtain ⟨b1, b2, b3, b4, b5⟩ := id hb
  unfold fX2_readProduct at e8
  unfold fX9_product at e9
  obtain ⟨dc1, p1, f1, D1, eg8, e8⟩ := mm_bd4s e8
  obtain ⟨w, a1, g1, o1, eg9, e9⟩ := mm_bd4s e9
  have q := RG d dc p D dc1 p1 f1 D1 w a1 g1 o1 d0 d6 hb eg8 eg9
  obtain ⟨r6, n6, e9⟩ := mm_bd1s e9
  by_cases hf : 0 ≤ f1.toInt
  · have q8 := pd_f hf e8
    have q9 : f9 = g1 := by
      rw [show (700 : Nat) = 699 + 1 from rfl, uf_X9_product_10, if_pos (Int32.le_iff_toInt_le.mpr (by rw [q.1]; omega))] at e9
      apply mm_sub4 e9
      rfl
    exact ⟨by rw [q8, q9]; exact q.1, Or.inl (by rw [q8]; exact hf)⟩
  · have qb := pq_b hb q hf
    have q' := q
    obtain ⟨z1, z2 | ⟨z2, z3, z4, z5, z6, -⟩⟩ := q'
    · exact absurd z2 hf
    · rw [z1, z2, z3, z4] at e9
      rw [z3] at n6
      rw [z2] at e8 q
      have h6 := HB p1 r6 (by omega) n6
      exact pq_t b1 q m1_f (pd_7 HB RG d0 d6 700 700 (0 : Int32) dc1 p1 D1 w r6 dc' p' f' D' v a9 f9 o9 qb (by omega) (by omega) h6 e8 e9)
end
section
/-! The law: sums, comparisons, both, either -/
theorem su_f {go : Int32 → Int32 → Int32 → Int32 → Int32 → List Int32 → List Int32 → Option (Int32 × Int32 × Int32 × List Int32)} {d n : Int32} {tape8 : List Int32} {m : Nat} {i dc p f dc' p' f' : Int32} {D D' : List Int32} (hf : 0 ≤ f.toInt) (e : fX2_readSum_7 700 go m d i n dc p f tape8 D = some (dc', p', f', D')) : f' = f := by
  cases m with
  | zero => exact absurd e (by intro h; cases h)
  | succ m =>
    rw [uf_X2_readSum_7] at e
    by_cases c : (120 : Int32) ≤ i
    · rw [if_pos c] at e
      apply mm_sub4 e
      rfl
    · rw [if_neg c] at e
      obtain ⟨r1, m1, e⟩ := mm_bd1s e
      have h1 := me_e m1
      rw [if_pos hf] at h1
      rw [if_pos h1] at e
      obtain ⟨r2, m2, e⟩ := mm_bd1s e
      have h2 := me_e m2
      rw [if_pos hf] at h2
      rw [if_pos h2] at e
      apply mm_sub4 e
      rfl
theorem su_g {go : Int32 → Int32 → Int32 → Int32 → Int32 → List Int32 → List Int32 → List Int32 → Option (Int32 × Int32 × Int32 × Int32)} {base at_ n f d v v' a9 f9 o9 : Int32} {tape text names : List Int32} {m : Nat} (hf : 0 ≤ f.toInt) (e : fX9_sums_5 700 go m v base at_ n f d tape text names = some (v', a9, f9, o9)) : f9 = f := by
  have n0 : (0 : Int32).toInt = 0 := by decide
  cases m with
  | zero => exact absurd e (by intro h; cases h)
  | succ m =>
    rw [uf_X9_sums_5, if_pos (Int32.le_iff_toInt_le.mpr (by omega))] at e
    apply mm_sub4 e
    rfl
theorem su_7 {go8 : Int32 → Int32 → Int32 → Int32 → Int32 → List Int32 → List Int32 → Option (Int32 × Int32 × Int32 × List Int32)} {go9 : Int32 → Int32 → Int32 → Int32 → Int32 → List Int32 → List Int32 → List Int32 → Option (Int32 × Int32 × Int32 × Int32)} {tape8 : List Int32} {base n d : Int32} {tape text names : List Int32} (HB : hb_w (fun k => tape8.getD k 0) base n tape text) (RG : rg_w tape8 base n tape text names (fX2_readProduct 700 go8) (fX9_product 700 go9)) (d0 : 0 ≤ d.toInt) (d6 : d.toInt ≤ 6) : ∀ (m m' : Nat) (i dc p : Int32) (D : List Int32) (v dc' p' f' : Int32) (D' : List Int32) (v' a9 f9 o9 : Int32), pb_w n dc p D → 0 ≤ i.toInt → i.toInt ≤ p.toInt → fX2_readSum_7 700 go8 m d i n dc p (-1) tape8 D = some (dc', p', f', D') → fX9_sums_5 700 go9 m' v base p n (-1) d tape text names = some (v', a9, f9, o9) → pq_w names (fun S => v :: S) n d dc p D dc' p' f' D' v' a9 f9 o9 := by
  have n1 : (1 : Int32).toInt = 1 := by decide
  have n120 : (120 : Int32).toInt = 120 := by decide
  intro m
  induction m with
  | zero =>
    intro m' i dc p D v dc' p' f' D' v' a9 f9 o9 hb i0 i1 e8
    exact absurd e8 (by intro h; cases h)
  | succ m ih =>
    intro m' i dc p D v dc' p' f' D' v' a9 f9 o9 hb i0 i1 e8 e9
    cases m' with
    | zero => exact absurd e9 (by intro h; cases h)
    | succ m' =>
      obtain ⟨b1, b2, b3, b4, b5⟩ := id hb
      rw [uf_X2_readSum_7] at e8
      rw [uf_X9_sums_5, if_neg (by decide)] at e9
      obtain ⟨x7, n7, e9⟩ := mm_bd1s e9
      have hx := HB p x7 (by omega) n7
      have K : ∀ c : Int32, (c = 43 ∨ c = 45) → nb_8 (fun k => tape8.getD k 0) n p = c → fX2_readSum_31 700 go8 (fX2_readSum_7 700 go8 m) d i n dc p (-1) tape8 D = some (dc', p', f', D') → fX9_sums_30 700 go9 (fX9_sums_5 700 go9 m') v base p n (-1) d tape text names = some (v', a9, f9, o9) → pq_w names (fun S => v :: S) n d dc p D dc' p' f' D' v' a9 f9 o9 := by
        intro c hc hby e8 e9
        have hc1 : ¬ c = -1 := by rcases hc with h | h <;> rw [h] <;> decide
        have hc0 : ¬ c = 0 := by rcases hc with h | h <;> rw [h] <;> decide
        have hcb : bi_w c := by
          unfold bi_w
          rcases hc with h | h
          · exact Or.inr (Or.inr (Or.inr (Or.inr (Or.inr (Or.inl h)))))
          · exact Or.inr (Or.inr (Or.inr (Or.inr (Or.inr (Or.inr (Or.inl h))))))
        have hlt := nb_l hc1 hby
        have hb9 := (nb_c hc0 hc1).mpr hby
        rw [uf_X2_readSum_31] at e8
        obtain ⟨r16, n16, e8⟩ := mm_bd1s e8
        have h16 := nx_e n16
        rw [hby] at h16
        subst h16
        rw [nm_eq] at e8
        rw [uf_X9_sums_30] at e9
        obtain ⟨x13, n13, e9⟩ := mm_bd1s e9
        have h13 := HB p x13 (by omega) n13
        rw [hb9] at h13
        have e9a : fX9_sums_44 700 go9 (fX9_sums_5 700 go9 m') v (if r16 = 43 then (1 : Int32) else (0 : Int32)) base p n (-1) d tape text names = some (v', a9, f9, o9) := by
          rw [h13] at e9
          by_cases h : r16 = 43
          · rw [if_pos h] at e9 ⊢
            exact e9
          · rw [if_neg h] at e9 ⊢
            exact e9
        rw [uf_X9_sums_44, nm_eq] at e9a
        generalize hy : p + (1 : Int32) = p1 at e8 e9a
        have ey := i_addE hy (by omega) (by omega)
        obtain ⟨dc1, p2, f1, D1, eg8, e8⟩ := mm_bd4s e8
        obtain ⟨dc2, D2, en, e8⟩ := mm_bd2s e8
        rw [nm_eq] at e8
        obtain ⟨w, a1, g1, o1, eg9, e9b⟩ := mm_bd4s e9a
        have q := RG d dc p1 D dc1 p2 f1 D1 w a1 g1 o1 d0 d6 (pb_n hb (by omega) hlt) eg8 eg9
        have e9' : fX9_sums_5 700 go9 m' (jn_w r16 v w) base a1 n g1 o1 tape text names = some (v', a9, f9, o9) := by
          rcases hc with h | h
          · rw [if_pos h, if_neg (by decide), uf_X9_sums_73] at e9b
            rw [h]
            exact e9b
          · rw [if_neg (show ¬ r16 = 43 by rw [h]; decide), if_pos rfl, uf_X9_sums_73] at e9b
            rw [h]
            exact e9b
        by_cases hf : 0 ≤ f1.toInt
        · have q8 := su_f hf e8
          have q9 := su_g (by rw [q.1]; exact hf) e9'
          exact ⟨by rw [q8, q9]; exact q.1, Or.inl (by rw [q8]; exact hf)⟩
        · have st := pq_o (v := v) hb (by omega) q hf hcb en
          have qb := pq_b hb st hf
          obtain ⟨z1, z2 | ⟨z2, z3, z4, z5, z6, -⟩⟩ := q
          · exact absurd z2 hf
          · rw [z1, z2] at e9'
            rw [z2] at e8 st
            rw [z3, z4] at e9'
            generalize hj : i + (1 : Int32) = j at e8
            have ej := i_addE hj (by omega) (by omega)
            have IH := ih m' j dc2 p2 D2 (jn_w r16 v w) dc' p' f' D' v' a9 f9 o9 qb (by omega) (by omega) e8 e9'
            exact pq_t b1 st m1_f IH
      have T : ¬ x7 = 43 → (if x7 = 43 then fX9_sums_30 700 go9 (fX9_sums_5 700 go9 m') v base p n (-1) d tape text names else mm_bd1 (fX9_byteAt 700 base p n tape text) (fun (r_10 : Int32) => if r_10 = 45 then fX9_sums_30 700 go9 (fX9_sums_5 700 go9 m') v base p n (-1) d tape text names else some (v, p, (-1 : Int32), d))) = some (v', a9, f9, o9) → (if x7 = 45 then fX9_sums_30 700 go9 (fX9_sums_5 700 go9 m') v base p n (-1) d tape text names else some (v, p, (-1 : Int32), d)) = some (v', a9, f9, o9) := by
        intro h e
        rw [if_neg h] at e
        obtain ⟨x10, n10, e⟩ := mm_bd1s e
        have h10 := HB p x10 (by omega) n10
        rw [← hx] at h10
        rw [h10] at e
        exact e
      by_cases c0 : (120 : Int32) ≤ i
      · have d0' := i_le c0
        rw [if_pos c0] at e8
        have hx0 : x7 = 0 := by
          rw [hx]
          unfold nb_9
          rw [if_pos (Int32.le_iff_toInt_le.mpr (by omega))]
        have e9 := T (by rw [hx0]; decide) e9
        rw [if_neg (by rw [hx0]; decide)] at e9
        apply mm_sub4 e8
        apply mm_sub4 e9
        exact pq_s hb
      · rw [if_neg c0] at e8
        obtain ⟨r1, m1, e8⟩ := mm_bd1s e8
        have h1 := me_e m1
        rw [if_neg m1_f] at h1
        by_cases k1 : nb_8 (fun k => tape8.getD k 0) n p = 43
        · rw [decide_eq_true k1] at h1
          rw [if_neg (by rw [h1]; decide)] at e8
          have hx1 : x7 = 43 := by rw [hx]; exact (nb_c (by decide) (by decide)).mpr k1
          rw [if_pos hx1] at e9
          exact K 43 (Or.inl rfl) k1 e8 e9
        · rw [decide_eq_false k1] at h1
          have hx1 : ¬ x7 = 43 := fun h => k1 ((nb_c (by decide) (by decide)).mp (by rw [← hx]; exact h))
          rw [if_pos h1] at e8
          have e9 := T hx1 e9
          obtain ⟨r2, m2, e8⟩ := mm_bd1s e8
          have h2 := me_e m2
          rw [if_neg m1_f] at h2
          by_cases k2 : nb_8 (fun k => tape8.getD k 0) n p = 45
          · rw [decide_eq_true k2] at h2
            rw [if_neg (by rw [h2]; decide)] at e8
            have hx2 : x7 = 45 := by rw [hx]; exact (nb_c (by decide) (by decide)).mpr k2
            rw [if_pos hx2] at e9
            exact K 45 (Or.inr rfl) k2 e8 e9
          · rw [decide_eq_false k2] at h2
            have hx2 : ¬ x7 = 45 := fun h => k2 ((nb_c (by decide) (by decide)).mp (by rw [← hx]; exact h))
            rw [if_pos h2] at e8
            rw [if_neg hx2] at e9
            apply mm_sub4 e8
            apply mm_sub4 e9
            exact pq_s hb
theorem su_r {go8 : Int32 → Int32 → Int32 → Int32 → Int32 → List Int32 → List Int32 → Option (Int32 × Int32 × Int32 × List Int32)} {go9 : Int32 → Int32 → Int32 → Int32 → Int32 → List Int32 → List Int32 → List Int32 → Option (Int32 × Int32 × Int32 × Int32)} {tape8 : List Int32} {base n : Int32} {tape text names : List Int32} (HB : hb_w (fun k => tape8.getD k 0) base n tape text) (RG : rg_w tape8 base n tape text names (fX2_readProduct 700 go8) (fX9_product 700 go9)) : rg_w tape8 base n tape text names (fX2_readSum 700 go8) (fX9_sums 700 go9) := by
  intro d dc p D dc' p' f' D' v a9 f9 o9 d0 d6 hb e8 e9
  have n0 : (0 : Int32).toInt = 0 := by decide
  obtain ⟨b1, b2, b3, b4, b5⟩ := id hb
  unfold fX2_readSum at e8
  unfold fX9_sums at e9
  obtain ⟨dc1, p1, f1, D1, eg8, e8⟩ := mm_bd4s e8
  obtain ⟨w, a1, g1, o1, eg9, e9⟩ := mm_bd4s e9
  have q := RG d dc p D dc1 p1 f1 D1 w a1 g1 o1 d0 d6 hb eg8 eg9
  by_cases hf : 0 ≤ f1.toInt
  · have q8 := su_f hf e8
    have q9 := su_g (by rw [q.1]; exact hf) e9
    exact ⟨by rw [q8, q9]; exact q.1, Or.inl (by rw [q8]; exact hf)⟩
  · have qb := pq_b hb q hf
    have q' := q
    obtain ⟨z1, z2 | ⟨z2, z3, z4, z5, z6, -⟩⟩ := q'
    · exact absurd z2 hf
    · rw [z1, z2, z3, z4] at e9
      rw [z2] at e8 q
      exact pq_t b1 q m1_f (su_7 HB RG d0 d6 700 700 (0 : Int32) dc1 p1 D1 w dc' p' f' D' v a9 f9 o9 qb (by omega) (by omega) e8 e9)
theorem cm_r {go8 : Int32 → Int32 → Int32 → Int32 → Int32 → List Int32 → List Int32 → Option (Int32 × Int32 × Int32 × List Int32)} {go9 : Int32 → Int32 → Int32 → Int32 → Int32 → List Int32 → List Int32 → List Int32 → Option (Int32 × Int32 × Int32 × Int32)} {tape8 : List Int32} {base n : Int32} {tape text names : List Int32} (HB : hb_w (fun k => tape8.getD k 0) base n tape text) (RG : rg_w tape8 base n tape text names (fX2_readSum 700 go8) (fX9_sums 700 go9)) : rg_w tape8 base n tape text names (fX2_readCompared 700 go8) (fX9_compared 700 go9) := by
  intro d dc p D dc' p' f' D' v a9 f9 o9 d0 d6 hb e8 e9
  have n0 : (0 : Int32).toInt = 0 := by decide
  have n1 : (1 : Int32).toInt = 1 := by decide
  obtain ⟨b1, b2, b3, b4, b5⟩ := id hb
  unfold fX2_readCompared at e8
  unfold fX9_compared at e9
  obtain ⟨dc1, p1, f1, D1, eg8, e8⟩ := mm_bd4s e8
  obtain ⟨w, a1, g1, o1, eg9, e9⟩ := mm_bd4s e9
  have q := RG d dc p D dc1 p1 f1 D1 w a1 g1 o1 d0 d6 hb eg8 eg9
  obtain ⟨x6, n6, e9⟩ := mm_bd1s e9
  by_cases hf : 0 ≤ f1.toInt
  · rw [if_pos (Int32.le_iff_toInt_le.mpr (by rw [q.1]; omega))] at e9
    obtain ⟨r1, m1, e8⟩ := mm_bd1s e8
    have h1 := me_e m1
    rw [if_pos hf] at h1
    rw [if_pos h1] at e8
    obtain ⟨r2, m2, e8⟩ := mm_bd1s e8
    have h2 := me_e m2
    rw [if_pos hf] at h2
    rw [if_pos h2] at e8
    obtain ⟨r3, m3, e8⟩ := mm_bd1s e8
    have h3 := me_e m3
    rw [if_pos hf] at h3
    rw [if_pos h3] at e8
    apply mm_sub4 e8
    apply mm_sub4 e9
    exact ⟨q.1, Or.inl hf⟩
  · have qb := pq_b hb q hf
    have q' := q
    obtain ⟨z1, z2 | ⟨z2, z3, z4, z5, z6, -⟩⟩ := q'
    · exact absurd z2 hf
    · rw [z1, z2, z3, z4, if_neg (by decide)] at e9
      rw [z3] at n6
      rw [z2] at e8 q
      have hx := HB p1 x6 (by omega) n6
      have K : ∀ c : Int32, (c = 60 ∨ c = 61 ∨ c = 62) → nb_8 (fun k => tape8.getD k 0) n p1 = c → fX2_readCompared_32 700 go8 d n dc1 p1 (-1) tape8 D1 = some (dc', p', f', D') → fX9_compared_37 700 go9 w c base p1 n (-1) d tape text names = some (v, a9, f9, o9) → pq_w names (fun S => w :: S) n d dc1 p1 D1 dc' p' f' D' v a9 f9 o9 := by
        intro c hc hby e8 e9
        have hc1 : ¬ c = -1 := by rcases hc with h | h | h <;> rw [h] <;> decide
        have hcb : bi_w c := by
          unfold bi_w
          rcases hc with h | h | h
          · exact Or.inr (Or.inr (Or.inl h))
          · exact Or.inr (Or.inr (Or.inr (Or.inl h)))
          · exact Or.inr (Or.inr (Or.inr (Or.inr (Or.inl h))))
        have hlt := nb_l hc1 hby
        obtain ⟨c1, c2, c3, c4, c5⟩ := id qb
        rw [uf_X2_readCompared_32] at e8
        obtain ⟨r16, n16, e8⟩ := mm_bd1s e8
        have h16 := nx_e n16
        rw [hby] at h16
        subst h16
        rw [nm_eq] at e8
        rw [uf_X9_compared_37, nm_eq] at e9
        generalize hy : p1 + (1 : Int32) = p2 at e8 e9
        have ey := i_addE hy (by omega) (by omega)
        obtain ⟨dc3, p3, f3, D3, eg8', e8⟩ := mm_bd4s e8
        obtain ⟨dc4, D4, en, e8⟩ := mm_bd2s e8
        obtain ⟨u, a3, g3, o3, eg9', e9⟩ := mm_bd4s e9
        have q3 := RG d dc1 p2 D1 dc3 p3 f3 D3 u a3 g3 o3 d0 d6 (pb_n qb (by omega) hlt) eg8' eg9'
        have e9' : some (jn_w r16 w u, a3, g3, o3) = some (v, a9, f9, o9) := by
          rcases hc with h | h | h
          · rw [if_pos h] at e9
            rw [h]
            by_cases k : u ≤ w
            · rw [if_pos k] at e9
              have : jn_w 60 w u = 0 := by
                unfold jn_w
                rw [if_neg (by decide), if_neg (by decide), if_pos rfl, if_pos k]
              rw [this]
              exact e9
            · rw [if_neg k] at e9
              have : jn_w 60 w u = 1 := by
                unfold jn_w
                rw [if_neg (by decide), if_neg (by decide), if_pos rfl, if_neg k]
              rw [this]
              exact e9
          · rw [if_neg (show ¬ r16 = 60 by rw [h]; decide), if_pos h] at e9
            rw [h]
            by_cases k : w = u
            · rw [if_pos k] at e9
              have : jn_w 61 w u = 1 := by
                unfold jn_w
                rw [if_neg (by decide), if_neg (by decide), if_neg (by decide), if_pos rfl, if_pos k]
              rw [this]
              exact e9
            · rw [if_neg k] at e9
              have : jn_w 61 w u = 0 := by
                unfold jn_w
                rw [if_neg (by decide), if_neg (by decide), if_neg (by decide), if_pos rfl, if_neg k]
              rw [this]
              exact e9
          · rw [if_neg (show ¬ r16 = 60 by rw [h]; decide), if_neg (show ¬ r16 = 61 by rw [h]; decide)] at e9
            rw [h]
            by_cases k : w ≤ u
            · rw [if_pos k] at e9
              have : jn_w 62 w u = 0 := by
                unfold jn_w
                rw [if_neg (by decide), if_neg (by decide), if_neg (by decide), if_neg (by decide), if_pos rfl, if_pos k]
              rw [this]
              exact e9
            · rw [if_neg k] at e9
              have : jn_w 62 w u = 1 := by
                unfold jn_w
                rw [if_neg (by decide), if_neg (by decide), if_neg (by decide), if_neg (by decide), if_pos rfl, if_neg k]
              rw [this]
              exact e9
        apply mm_sub4 e8
        apply mm_sub4 e9'
        by_cases hf3 : 0 ≤ f3.toInt
        · exact ⟨q3.1, Or.inl hf3⟩
        · exact pq_o (v := w) qb (by omega) q3 hf3 hcb en
      refine pq_t b1 q m1_f ?_
      obtain ⟨r1, m1, e8⟩ := mm_bd1s e8
      have h1 := me_e m1
      rw [if_neg m1_f] at h1
      by_cases k1 : nb_8 (fun k => tape8.getD k 0) n p1 = 60
      · rw [decide_eq_true k1] at h1
        rw [if_neg (by rw [h1]; decide)] at e8
        have hx1 : x6 = 60 := by rw [hx]; exact (nb_c (by decide) (by decide)).mpr k1
        rw [if_pos hx1, hx1] at e9
        exact K 60 (Or.inl rfl) k1 e8 e9
      · rw [decide_eq_false k1] at h1
        have hx1 : ¬ x6 = 60 := fun h => k1 ((nb_c (by decide) (by decide)).mp (by rw [← hx]; exact h))
        rw [if_pos h1] at e8
        rw [if_neg hx1] at e9
        obtain ⟨r2, m2, e8⟩ := mm_bd1s e8
        have h2 := me_e m2
        rw [if_neg m1_f] at h2
        by_cases k2 : nb_8 (fun k => tape8.getD k 0) n p1 = 61
        · rw [decide_eq_true k2] at h2
          rw [if_neg (by rw [h2]; decide)] at e8
          have hx2 : x6 = 61 := by rw [hx]; exact (nb_c (by decide) (by decide)).mpr k2
          rw [if_pos hx2, hx2] at e9
          exact K 61 (Or.inr (Or.inl rfl)) k2 e8 e9
        · rw [decide_eq_false k2] at h2
          have hx2 : ¬ x6 = 61 := fun h => k2 ((nb_c (by decide) (by decide)).mp (by rw [← hx]; exact h))
          rw [if_pos h2] at e8
          rw [if_neg hx2] at e9
          obtain ⟨r3, m3, e8⟩ := mm_bd1s e8
          have h3 := me_e m3
          rw [if_neg m1_f] at h3
          by_cases k3 : nb_8 (fun k => tape8.getD k 0) n p1 = 62
          · rw [decide_eq_true k3] at h3
            rw [if_neg (by rw [h3]; decide)] at e8
            have hx3 : x6 = 62 := by rw [hx]; exact (nb_c (by decide) (by decide)).mpr k3
            rw [if_pos hx3, hx3] at e9
            exact K 62 (Or.inr (Or.inr rfl)) k3 e8 e9
          · rw [decide_eq_false k3] at h3
            have hx3 : ¬ x6 = 62 := fun h => k3 ((nb_c (by decide) (by decide)).mp (by rw [← hx]; exact h))
            rw [if_pos h3] at e8
            rw [if_neg hx3] at e9
            apply mm_sub4 e8
            apply mm_sub4 e9
            exact pq_s qb
end
section
/-! The law: both, either -/
theorem bo_f {go : Int32 → Int32 → Int32 → Int32 → Int32 → List Int32 → List Int32 → Option (Int32 × Int32 × Int32 × List Int32)} {d n : Int32} {tape8 : List Int32} {m : Nat} {i dc p f dc' p' f' : Int32} {D D' : List Int32} (hf : 0 ≤ f.toInt) (e : fX2_readBoth_7 700 go m d i n dc p f tape8 D = some (dc', p', f', D')) : f' = f := by
  cases m with
  | zero => exact absurd e (by intro h; cases h)
  | succ m =>
    rw [uf_X2_readBoth_7] at e
    by_cases c : (120 : Int32) ≤ i
    · rw [if_pos c] at e
      apply mm_sub4 e
      rfl
    · rw [if_neg c] at e
      obtain ⟨r1, m1, e⟩ := mm_bd1s e
      have h1 := me_e m1
      rw [if_pos hf] at h1
      rw [if_pos h1] at e
      apply mm_sub4 e
      rfl
theorem bo_g {go : Int32 → Int32 → Int32 → Int32 → Int32 → List Int32 → List Int32 → List Int32 → Option (Int32 × Int32 × Int32 × Int32)} {base at_ n f d v v' a9 f9 o9 : Int32} {tape text names : List Int32} {m : Nat} (hf : 0 ≤ f.toInt) (e : fX9_both_5 700 go m v base at_ n f d tape text names = some (v', a9, f9, o9)) : f9 = f := by
  have n0 : (0 : Int32).toInt = 0 := by decide
  cases m with
  | zero => exact absurd e (by intro h; cases h)
  | succ m =>
    rw [uf_X9_both_5] at e
    obtain ⟨r, a, et, e⟩ := mm_bd2s e
    unfold fX9_takes at et
    rw [if_pos (Int32.le_iff_toInt_le.mpr (by omega))] at et
    have et := sm_i et
    injection et with h1 h2
    rw [if_pos h1.symm] at e
    apply mm_sub4 e
    rfl
theorem bo_7 {go8 : Int32 → Int32 → Int32 → Int32 → Int32 → List Int32 → List Int32 → Option (Int32 × Int32 × Int32 × List Int32)} {go9 : Int32 → Int32 → Int32 → Int32 → Int32 → List Int32 → List Int32 → List Int32 → Option (Int32 × Int32 × Int32 × Int32)} {tape8 : List Int32} {base n d : Int32} {tape text names : List Int32} (HB : hb_w (fun k => tape8.getD k 0) base n tape text) (RG : rg_w tape8 base n tape text names (fX2_readCompared 700 go8) (fX9_compared 700 go9)) (d0 : 0 ≤ d.toInt) (d6 : d.toInt ≤ 6) : ∀ (m m' : Nat) (i dc p : Int32) (D : List Int32) (v dc' p' f' : Int32) (D' : List Int32) (v' a9 f9 o9 : Int32), pb_w n dc p D → 0 ≤ i.toInt → i.toInt ≤ p.toInt → fX2_readBoth_7 700 go8 m d i n dc p (-1) tape8 D = some (dc', p', f', D') → fX9_both_5 700 go9 m' v base p n (-1) d tape text names = some (v', a9, f9, o9) → pq_w names (fun S => v :: S) n d dc p D dc' p' f' D' v' a9 f9 o9 := by
  have n1 : (1 : Int32).toInt = 1 := by decide
  have n120 : (120 : Int32).toInt = 120 := by decide
  intro m
  induction m with
  | zero =>
    intro m' i dc p D v dc' p' f' D' v' a9 f9 o9 hb i0 i1 e8
    exact absurd e8 (by intro h; cases h)
  | succ m ih =>
    intro m' i dc p D v dc' p' f' D' v' a9 f9 o9 hb i0 i1 e8 e9
    cases m' with
    | zero => exact absurd e9 (by intro h; cases h)
    | succ m' =>
      obtain ⟨b1, b2, b3, b4, b5⟩ := id hb
      rw [uf_X2_readBoth_7] at e8
      rw [uf_X9_both_5] at e9
      obtain ⟨rt, at_, et, e9⟩ := mm_bd2s e9
      obtain ⟨t1, t2⟩ := tk_e HB (by omega) et
      rw [if_neg m1_f] at t1
      by_cases k1 : nb_8 (fun k => tape8.getD k 0) n p = 38
      · have hlt := nb_l (by decide) k1
        have k9 : nb_9 (fun k => tape8.getD k 0) n p = 38 := (nb_c (by decide) (by decide)).mpr k1
        rw [decide_eq_true k9] at t1
        rw [if_pos t1] at t2
        rw [if_neg (by rw [t1]; decide), t2] at e9
        rw [if_neg (fun h => absurd (i_le h) (by omega))] at e8
        obtain ⟨r1, m1, e8⟩ := mm_bd1s e8
        have h1 := me_e m1
        rw [if_neg m1_f, decide_eq_true k1] at h1
        rw [if_neg (by rw [h1]; decide), nm_eq] at e8
        generalize hy : p + (1 : Int32) = p1 at e8 e9
        have ey := i_addE hy (by omega) (by omega)
        obtain ⟨dc1, p2, f1, D1, eg8, e8⟩ := mm_bd4s e8
        obtain ⟨dc2, D2, en, e8⟩ := mm_bd2s e8
        rw [nm_eq] at e8
        obtain ⟨w, a1, g1, o1, eg9, e9⟩ := mm_bd4s e9
        have q := RG d dc p1 D dc1 p2 f1 D1 w a1 g1 o1 d0 d6 (pb_n hb (by omega) hlt) eg8 eg9
        have e9' : fX9_both_5 700 go9 m' (jn_w 38 v w) base a1 n g1 o1 tape text names = some (v', a9, f9, o9) := by
          by_cases hv : v = 0
          · rw [if_pos hv, uf_X9_both_31, uf_X9_both_32] at e9
            have : jn_w 38 v w = 0 := by
              unfold jn_w
              rw [if_neg (by decide), if_pos rfl, if_pos hv]
            rw [this]
            exact e9
          · rw [if_neg hv] at e9
            by_cases hw : w = 0
            · rw [if_pos hw, uf_X9_both_31, uf_X9_both_32] at e9
              have : jn_w 38 v w = 0 := by
                unfold jn_w
                rw [if_neg (by decide), if_pos rfl, if_neg hv, if_pos hw]
              rw [this]
              exact e9
            · rw [if_neg hw, uf_X9_both_32] at e9
              have : jn_w 38 v w = 1 := by
                unfold jn_w
                rw [if_neg (by decide), if_pos rfl, if_neg hv, if_neg hw]
              rw [this]
              exact e9
        by_cases hf : 0 ≤ f1.toInt
        · have q8 := bo_f hf e8
          have q9 := bo_g (by rw [q.1]; exact hf) e9'
          exact ⟨by rw [q8, q9]; exact q.1, Or.inl (by rw [q8]; exact hf)⟩
        · have st := pq_o (v := v) hb (by omega) q hf (Or.inr (Or.inl rfl)) en
          have qb := pq_b hb st hf
          obtain ⟨z1, z2 | ⟨z2, z3, z4, z5, z6, -⟩⟩ := q
          · exact absurd z2 hf
          · rw [z1, z2] at e9'
            rw [z2] at e8 st
            rw [z3, z4] at e9'
            generalize hj : i + (1 : Int32) = j at e8
            have ej := i_addE hj (by omega) (by omega)
            have IH := ih m' j dc2 p2 D2 (jn_w 38 v w) dc' p' f' D' v' a9 f9 o9 qb (by omega) (by omega) e8 e9'
            exact pq_t b1 st m1_f IH
      · have k9 : ¬ nb_9 (fun k => tape8.getD k 0) n p = 38 := fun h => k1 ((nb_c (by decide) (by decide)).mp h)
        rw [decide_eq_false k9] at t1
        rw [if_neg (by rw [t1]; decide)] at t2
        rw [if_pos t1, t2] at e9
        apply mm_sub4 e9
        by_cases c0 : (120 : Int32) ≤ i
        · rw [if_pos c0] at e8
          apply mm_sub4 e8
          exact pq_s hb
        · rw [if_neg c0] at e8
          obtain ⟨r1, m1, e8⟩ := mm_bd1s e8
          have h1 := me_e m1
          rw [if_neg m1_f, decide_eq_false k1] at h1
          rw [if_pos h1] at e8
          apply mm_sub4 e8
          exact pq_s hb
theorem bo_r {go8 : Int32 → Int32 → Int32 → Int32 → Int32 → List Int32 → List Int32 → Option (Int32 × Int32 × Int32 × List Int32)} {go9 : Int32 → Int32 → Int32 → Int32 → Int32 → List Int32 → List Int32 → List Int32 → Option (Int32 × Int32 × Int32 × Int32)} {tape8 : List Int32} {base n : Int32} {tape text names : List Int32} (HB : hb_w (fun k => tape8.getD k 0) base n tape text) (RG : rg_w tape8 base n tape text names (fX2_readCompared 700 go8) (fX9_compared 700 go9)) : rg_w tape8 base n tape text names (fX2_readBoth 700 go8) (fX9_both 700 go9) := by
  intro d dc p D dc' p' f' D' v a9 f9 o9 d0 d6 hb e8 e9
  have n0 : (0 : Int32).toInt = 0 := by decide
  obtain ⟨b1, b2, b3, b4, b5⟩ := id hb
  unfold fX2_readBoth at e8
  unfold fX9_both at e9
  obtain ⟨dc1, p1, f1, D1, eg8, e8⟩ := mm_bd4s e8
  obtain ⟨w, a1, g1, o1, eg9, e9⟩ := mm_bd4s e9
  have q := RG d dc p D dc1 p1 f1 D1 w a1 g1 o1 d0 d6 hb eg8 eg9
  by_cases hf : 0 ≤ f1.toInt
  · have q8 := bo_f hf e8
    have q9 := bo_g (by rw [q.1]; exact hf) e9
    exact ⟨by rw [q8, q9]; exact q.1, Or.inl (by rw [q8]; exact hf)⟩
  · have qb := pq_b hb q hf
    have q' := q
    obtain ⟨z1, z2 | ⟨z2, z3, z4, z5, z6, -⟩⟩ := q'
    · exact absurd z2 hf
    · rw [z1, z2, z3, z4] at e9
      rw [z2] at e8 q
      exact pq_t b1 q m1_f (bo_7 HB RG d0 d6 700 700 (0 : Int32) dc1 p1 D1 w dc' p' f' D' v a9 f9 o9 qb (by omega) (by omega) e8 e9)
theorem ei_f {go : Int32 → Int32 → Int32 → Int32 → Int32 → List Int32 → List Int32 → Option (Int32 × Int32 × Int32 × List Int32)} {d n : Int32} {tape8 : List Int32} {m : Nat} {i dc p f dc' p' f' : Int32} {D D' : List Int32} (hf : 0 ≤ f.toInt) (e : fX2_readEither_7 700 go m d i n dc p f tape8 D = some (dc', p', f', D')) : f' = f := by
  cases m with
  | zero => exact absurd e (by intro h; cases h)
  | succ m =>
    rw [uf_X2_readEither_7] at e
    by_cases c : (120 : Int32) ≤ i
    · rw [if_pos c] at e
      apply mm_sub4 e
      rfl
    · rw [if_neg c] at e
      obtain ⟨r1, m1, e⟩ := mm_bd1s e
      have h1 := me_e m1
      rw [if_pos hf] at h1
      rw [if_pos h1] at e
      apply mm_sub4 e
      rfl
theorem ei_g {go : Int32 → Int32 → Int32 → Int32 → Int32 → List Int32 → List Int32 → List Int32 → Option (Int32 × Int32 × Int32 × Int32)} {base at_ n f d v v' a9 f9 o9 : Int32} {tape text names : List Int32} {m : Nat} (hf : 0 ≤ f.toInt) (e : fX9_either_5 700 go m v base at_ n f d tape text names = some (v', a9, f9, o9)) : f9 = f := by
  have n0 : (0 : Int32).toInt = 0 := by decide
  cases m with
  | zero => exact absurd e (by intro h; cases h)
  | succ m =>
    rw [uf_X9_either_5] at e
    obtain ⟨r, a, et, e⟩ := mm_bd2s e
    unfold fX9_takes at et
    rw [if_pos (Int32.le_iff_toInt_le.mpr (by omega))] at et
    have et := sm_i et
    injection et with h1 h2
    rw [if_pos h1.symm] at e
    apply mm_sub4 e
    rfl
theorem ei_7 {go8 : Int32 → Int32 → Int32 → Int32 → Int32 → List Int32 → List Int32 → Option (Int32 × Int32 × Int32 × List Int32)} {go9 : Int32 → Int32 → Int32 → Int32 → Int32 → List Int32 → List Int32 → List Int32 → Option (Int32 × Int32 × Int32 × Int32)} {tape8 : List Int32} {base n d : Int32} {tape text names : List Int32} (HB : hb_w (fun k => tape8.getD k 0) base n tape text) (RG : rg_w tape8 base n tape text names (fX2_readBoth 700 go8) (fX9_both 700 go9)) (d0 : 0 ≤ d.toInt) (d6 : d.toInt ≤ 6) : ∀ (m m' : Nat) (i dc p : Int32) (D : List Int32) (v dc' p' f' : Int32) (D' : List Int32) (v' a9 f9 o9 : Int32), pb_w n dc p D → 0 ≤ i.toInt → i.toInt ≤ p.toInt → fX2_readEither_7 700 go8 m d i n dc p (-1) tape8 D = some (dc', p', f', D') → fX9_either_5 700 go9 m' v base p n (-1) d tape text names = some (v', a9, f9, o9) → pq_w names (fun S => v :: S) n d dc p D dc' p' f' D' v' a9 f9 o9 := by
  have n1 : (1 : Int32).toInt = 1 := by decide
  have n120 : (120 : Int32).toInt = 120 := by decide
  intro m
  induction m with
  | zero =>
    intro m' i dc p D v dc' p' f' D' v' a9 f9 o9 hb i0 i1 e8
    exact absurd e8 (by intro h; cases h)
  | succ m ih =>
    intro m' i dc p D v dc' p' f' D' v' a9 f9 o9 hb i0 i1 e8 e9
    cases m' with
    | zero => exact absurd e9 (by intro h; cases h)
    | succ m' =>
      obtain ⟨b1, b2, b3, b4, b5⟩ := id hb
      rw [uf_X2_readEither_7] at e8
      rw [uf_X9_either_5] at e9
      obtain ⟨rt, at_, et, e9⟩ := mm_bd2s e9
      obtain ⟨t1, t2⟩ := tk_e HB (by omega) et
      rw [if_neg m1_f] at t1
      by_cases k1 : nb_8 (fun k => tape8.getD k 0) n p = 124
      · have hlt := nb_l (by decide) k1
        have k9 : nb_9 (fun k => tape8.getD k 0) n p = 124 := (nb_c (by decide) (by decide)).mpr k1
        rw [decide_eq_true k9] at t1
        rw [if_pos t1] at t2
        rw [if_neg (by rw [t1]; decide), t2] at e9
        rw [if_neg (fun h => absurd (i_le h) (by omega))] at e8
        obtain ⟨r1, m1, e8⟩ := mm_bd1s e8
        have h1 := me_e m1
        rw [if_neg m1_f, decide_eq_true k1] at h1
        rw [if_neg (by rw [h1]; decide), nm_eq] at e8
        generalize hy : p + (1 : Int32) = p1 at e8 e9
        have ey := i_addE hy (by omega) (by omega)
        obtain ⟨dc1, p2, f1, D1, eg8, e8⟩ := mm_bd4s e8
        obtain ⟨dc2, D2, en, e8⟩ := mm_bd2s e8
        rw [nm_eq] at e8
        obtain ⟨w, a1, g1, o1, eg9, e9⟩ := mm_bd4s e9
        have q := RG d dc p1 D dc1 p2 f1 D1 w a1 g1 o1 d0 d6 (pb_n hb (by omega) hlt) eg8 eg9
        have e9' : fX9_either_5 700 go9 m' (jn_w 124 v w) base a1 n g1 o1 tape text names = some (v', a9, f9, o9) := by
          by_cases hv : v = 0
          · rw [if_pos hv] at e9
            by_cases hw : w = 0
            · rw [if_pos hw, uf_X9_either_32] at e9
              have : jn_w 124 v w = 0 := by
                unfold jn_w
                rw [if_pos rfl, if_pos hv, if_pos hw]
              rw [this]
              exact e9
            · rw [if_neg hw, uf_X9_either_27, uf_X9_either_32] at e9
              have : jn_w 124 v w = 1 := by
                unfold jn_w
                rw [if_pos rfl, if_pos hv, if_neg hw]
              rw [this]
              exact e9
          · rw [if_neg hv, uf_X9_either_27, uf_X9_either_32] at e9
            have : jn_w 124 v w = 1 := by
              unfold jn_w
              rw [if_pos rfl, if_neg hv]
            rw [this]
            exact e9
        by_cases hf : 0 ≤ f1.toInt
        · have q8 := ei_f hf e8
          have q9 := ei_g (by rw [q.1]; exact hf) e9'
          exact ⟨by rw [q8, q9]; exact q.1, Or.inl (by rw [q8]; exact hf)⟩
        · have st := pq_o (v := v) hb (by omega) q hf (Or.inl rfl) en
          have qb := pq_b hb st hf
          obtain ⟨z1, z2 | ⟨z2, z3, z4, z5, z6, -⟩⟩ := q
          · exact absurd z2 hf
          · rw [z1, z2] at e9'
            rw [z2] at e8 st
            rw [z3, z4] at e9'
            generalize hj : i + (1 : Int32) = j at e8
            have ej := i_addE hj (by omega) (by omega)
            have IH := ih m' j dc2 p2 D2 (jn_w 124 v w) dc' p' f' D' v' a9 f9 o9 qb (by omega) (by omega) e8 e9'
            exact pq_t b1 st m1_f IH
      · have k9 : ¬ nb_9 (fun k => tape8.getD k 0) n p = 124 := fun h => k1 ((nb_c (by decide) (by decide)).mp h)
        rw [decide_eq_false k9] at t1
        rw [if_neg (by rw [t1]; decide)] at t2
        rw [if_pos t1, t2] at e9
        apply mm_sub4 e9
        by_cases c0 : (120 : Int32) ≤ i
        · rw [if_pos c0] at e8
          apply mm_sub4 e8
          exact pq_s hb
        · rw [if_neg c0] at e8
          obtain ⟨r1, m1, e8⟩ := mm_bd1s e8
          have h1 := me_e m1
          rw [if_neg m1_f, decide_eq_false k1] at h1
          rw [if_pos h1] at e8
          apply mm_sub4 e8
          exact pq_s hb
theorem ei_r {go8 : Int32 → Int32 → Int32 → Int32 → Int32 → List Int32 → List Int32 → Option (Int32 × Int32 × Int32 × List Int32)} {go9 : Int32 → Int32 → Int32 → Int32 → Int32 → List Int32 → List Int32 → List Int32 → Option (Int32 × Int32 × Int32 × Int32)} {tape8 : List Int32} {base n : Int32} {tape text names : List Int32} (HB : hb_w (fun k => tape8.getD k 0) base n tape text) (RG : rg_w tape8 base n tape text names (fX2_readBoth 700 go8) (fX9_both 700 go9)) : rg_w tape8 base n tape text names (fX2_readEither 700 go8) (fX9_either 700 go9) := by
  intro d dc p D dc' p' f' D' v a9 f9 o9 d0 d6 hb e8 e9
  have n0 : (0 : Int32).toInt = 0 := by decide
  obtain ⟨b1, b2, b3, b4, b5⟩ := id hb
  unfold fX2_readEither at e8
  unfold fX9_either at e9
  obtain ⟨dc1, p1, f1, D1, eg8, e8⟩ := mm_bd4s e8
  obtain ⟨w, a1, g1, o1, eg9, e9⟩ := mm_bd4s e9
  have q := RG d dc p D dc1 p1 f1 D1 w a1 g1 o1 d0 d6 hb eg8 eg9
  by_cases hf : 0 ≤ f1.toInt
  · have q8 := ei_f hf e8
    have q9 := ei_g (by rw [q.1]; exact hf) e9
    exact ⟨by rw [q8, q9]; exact q.1, Or.inl (by rw [q8]; exact hf)⟩
  · have qb := pq_b hb q hf
    have q' := q
    obtain ⟨z1, z2 | ⟨z2, z3, z4, z5, z6, -⟩⟩ := q'
    · exact absurd z2 hf
    · rw [z1, z2, z3, z4] at e9
      rw [z2] at e8 q
      exact pq_t b1 q m1_f (ei_7 HB RG d0 d6 700 700 (0 : Int32) dc1 p1 D1 w dc' p' f' D' v a9 f9 o9 qb (by omega) (by omega) e8 e9)
end
section
/-! The law: numbers, single ones -/
def dg_w (r : Int32) : Prop := 48 ≤ r.toInt ∧ r.toInt ≤ 57
theorem di_e (x : Int32) : fX2_isDigit 700 x = some (decide (48 ≤ x.toInt ∧ x.toInt ≤ 57)) := by
  have n48 : (48 : Int32).toInt = 48 := by decide
  have n57 : (57 : Int32).toInt = 57 := by decide
  unfold fX2_isDigit
  by_cases c : x < (48 : Int32)
  · have d := i_lt c
    rw [if_pos c, decide_eq_false (by omega)]
  · have d := i_nlt c
    rw [if_neg c]
    by_cases c2 : (57 : Int32) < x
    · have d2 := i_lt c2
      rw [if_pos c2, decide_eq_false (by omega)]
    · have d2 := i_nlt c2
      rw [if_neg c2, decide_eq_true (by omega)]
theorem nb_d9 {b : Nat → Int32} {n p : Int32} : (48 ≤ (nb_9 b n p).toInt ∧ (nb_9 b n p).toInt ≤ 57) ↔ (48 ≤ (nb_8 b n p).toInt ∧ (nb_8 b n p).toInt ≤ 57) := by
  unfold nb_8 nb_9
  by_cases g : n ≤ p
  · rw [if_pos g, if_pos g]
    have n0 : (0 : Int32).toInt = 0 := by decide
    have n1 : (-1 : Int32).toInt = -1 := by decide
    omega
  · rw [if_neg g, if_neg g]
theorem nb_e {b : Nat → Int32} {n p : Int32} (h : p.toInt < n.toInt) : nb_9 b n p = nb_8 b n p := by
  unfold nb_8 nb_9
  rw [if_neg (fun k => absurd (i_le k) (by omega)), if_neg (fun k => absurd (i_le k) (by omega))]
theorem nb_p {b : Nat → Int32} {n p : Int32} (h : 48 ≤ (nb_8 b n p).toInt) : p.toInt < n.toInt := by
  unfold nb_8 at h
  by_cases g : n ≤ p
  · rw [if_pos g] at h
    exact absurd h (by decide)
  · exact i_nle g
def vd_w (x v : Int32) : Prop := (x.toInt = 0 ∧ v.toInt = 0) ∨ (x.toInt = 1 ∧ 0 ≤ v.toInt ∧ v.toInt < 10) ∨ (x.toInt = 2 ∧ 0 ≤ v.toInt ∧ v.toInt < 100) ∨ (x.toInt = 3 ∧ 0 ≤ v.toInt ∧ v.toInt < 1000) ∨ (x.toInt = 4 ∧ 0 ≤ v.toInt ∧ v.toInt < 10000)
theorem nu_4 {go : Int32 → Int32 → Int32 → Int32 → Int32 → List Int32 → List Int32 → List Int32 → Option (Int32 × Int32 × Int32 × Int32)} {tape8 : List Int32} {base n d : Int32} {tape text names : List Int32} (HB : hb_w (fun k => tape8.getD k 0) base n tape text) : ∀ (m m' : Nat) (x1 x2 dc p : Int32) (D : List Int32) (dc' p' : Int32) (D' : List Int32) (v a9 f9 o9 : Int32), pb_w n dc p D → vd_w x2 x1 → (x2.toInt = 0 → 48 ≤ (nb_8 (fun k => tape8.getD k 0) n p).toInt ∧ (nb_8 (fun k => tape8.getD k 0) n p).toInt ≤ 57) → fX2_readNumber_4 700 m x1 x2 n dc p tape8 D = some (dc', p', D') → fX9_one_176 700 go m' x1 x2 base p n (-1) d tape text names = some (v, a9, f9, o9) → f9 = -1 ∧ a9 = p' ∧ o9 = d ∧ p.toInt ≤ p'.toInt ∧ p'.toInt ≤ n.toInt ∧ 1 ≤ p'.toInt - p.toInt + x2.toInt ∧ dc'.toInt = dc.toInt + 1 ∧ cs_w dc.toInt.toNat D D' [(1000 : Int32) + v] ∧ 0 ≤ v.toInt ∧ v.toInt < 10000 := by
  have n1 : (1 : Int32).toInt = 1 := by decide
  have n4 : (4 : Int32).toInt = 4 := by decide
  have n48 : (48 : Int32).toInt = 48 := by decide
  have n57 : (57 : Int32).toInt = 57 := by decide
  have n0 : (0 : Int32).toInt = 0 := by decide
  intro m
  induction m with
  | zero =>
    intro m' x1 x2 dc p D dc' p' D' v a9 f9 o9 hb hv hd e8
    exact absurd e8 (by intro h; cases h)
  | succ m ih =>
    intro m' x1 x2 dc p D dc' p' D' v a9 f9 o9 hb hv hd e8 e9
    cases m' with
    | zero => exact absurd e9 (by intro h; cases h)
    | succ m' =>
      obtain ⟨b1, b2, b3, b4, b5⟩ := id hb
      have hv' := hv
      unfold vd_w at hv'
      rw [uf_X2_readNumber_4] at e8
      rw [uf_X9_one_176] at e9
      have E : ¬ x2.toInt = 0 → fX2_readNumber_48 700 x1 n dc p tape8 D = some (dc', p', D') → fX9_one_229 700 go x1 x2 base p n (-1) d tape text names = some (v, a9, f9, o9) → f9 = -1 ∧ a9 = p' ∧ o9 = d ∧ p.toInt ≤ p'.toInt ∧ p'.toInt ≤ n.toInt ∧ 1 ≤ p'.toInt - p.toInt + x2.toInt ∧ dc'.toInt = dc.toInt + 1 ∧ cs_w dc.toInt.toNat D D' [(1000 : Int32) + v] ∧ 0 ≤ v.toInt ∧ v.toInt < 10000 := by
        intro hx e8 e9
        rw [uf_X2_readNumber_48] at e8
        obtain ⟨w1, w2, en, e8⟩ := mm_bd2s e8
        obtain ⟨y1, y2⟩ := no_e b1 (by omega) b5 en
        rw [uf_X9_one_229, if_neg (fun k => hx (by rw [k]; exact n0))] at e9
        apply mm_sub3 e8
        apply mm_sub4 e9
        exact ⟨rfl, rfl, rfl, Int.le_refl _, b3, by omega, y1, y2, by omega, by omega⟩
      by_cases c : (4 : Int32) ≤ x2
      · have dc4 := i_le c
        rw [if_pos c] at e8 e9
        exact E (by omega) e8 e9
      · have dc4 := i_nle c
        rw [if_neg c] at e8 e9
        obtain ⟨r2, nr2, e8⟩ := mm_bd1s e8
        have h2 := nx_e nr2
        rw [di_e, bs_1] at e8
        obtain ⟨s2, ns2, e9⟩ := mm_bd1s e9
        have g2 := HB p s2 (by omega) ns2
        by_cases k : 48 ≤ r2.toInt ∧ r2.toInt ≤ 57
        · have k8 : 48 ≤ (nb_8 (fun k => tape8.getD k 0) n p).toInt ∧ (nb_8 (fun k => tape8.getD k 0) n p).toInt ≤ 57 := by rw [← h2]; exact k
          have hlt := nb_p k8.1
          have hs : s2 = r2 := by rw [g2, h2]; exact nb_e hlt
          rw [decide_eq_true k, if_neg (by decide)] at e8
          obtain ⟨r7, nr7, e8⟩ := mm_bd1s e8
          have h7 := nx_e nr7
          rw [← h2] at h7
          rw [nm_eq, nm_eq, nm_eq, h7] at e8
          rw [if_neg (fun q => absurd (i_lt q) (by rw [hs]; omega))] at e9
          obtain ⟨s3, ns3, e9⟩ := mm_bd1s e9
          have g3 := HB p s3 (by omega) ns3
          rw [← g2, hs] at g3
          rw [if_neg (fun q => absurd (i_lt q) (by rw [g3]; omega))] at e9
          obtain ⟨s4, ns4, e9⟩ := mm_bd1s e9
          have g4 := HB p s4 (by omega) ns4
          rw [← g2, hs] at g4
          rw [nm_eq, nm_eq, nm_eq, g4, Int32.mul_comm (10 : Int32) x1] at e9
          generalize hy1 : x1 * (10 : Int32) = y1 at e8 e9
          have ey1 := i_mulRE (c := 10) (by decide) hy1 (by omega) (by omega)
          generalize hy2 : y1 + r2 = y2 at e8 e9
          have ey2 := i_addE hy2 (by omega) (by omega)
          generalize hy3 : y2 - (48 : Int32) = y3 at e8 e9
          have ey3 := i_subE hy3 (by omega) (by omega)
          generalize hy4 : p + (1 : Int32) = p1 at e8 e9
          have ey4 := i_addE hy4 (by omega) (by omega)
          generalize hy5 : x2 + (1 : Int32) = x3 at e8 e9
          have ey5 := i_addE hy5 (by omega) (by omega)
          obtain ⟨q1, q2, q3, q4, q5, q6, q7, q8, q9, q10⟩ := ih m' y3 x3 dc p1 D dc' p' D' v a9 f9 o9 (pb_n hb (by omega) hlt) (by unfold vd_w; omega) (fun h => absurd h (by omega)) e8 e9
          exact ⟨q1, q2, q3, by omega, q5, by omega, q7, q8, q9, q10⟩
        · have hx : ¬ x2.toInt = 0 := fun h => k (by rw [h2]; exact hd h)
          have k9 : ¬ (48 ≤ s2.toInt ∧ s2.toInt ≤ 57) := fun h => k (by rw [h2]; rw [g2] at h; exact nb_d9.mp h)
          rw [decide_eq_false k, if_pos rfl] at e8
          by_cases k1 : s2 < (48 : Int32)
          · rw [if_pos k1] at e9
            exact E hx e8 e9
          · have d1 := i_nlt k1
            rw [if_neg k1] at e9
            obtain ⟨s3, ns3, e9⟩ := mm_bd1s e9
            have g3 := HB p s3 (by omega) ns3
            rw [← g2] at g3
            rw [g3, if_pos (show (57 : Int32) < s2 by rw [Int32.lt_iff_toInt_lt]; omega)] at e9
            exact E hx e8 e9
theorem na_e (x : Int32) : fX2_isName 700 x = some (decide (x = 98 ∨ x = 102 ∨ x = 107 ∨ x = 110 ∨ x = 114 ∨ x = 119)) := by
  unfold fX2_isName
  by_cases c1 : x = 98
  · rw [if_pos c1, decide_eq_true (Or.inl c1)]
  · rw [if_neg c1]
    by_cases c2 : x = 102
    · rw [if_pos c2, decide_eq_true (Or.inr (Or.inl c2))]
    · rw [if_neg c2]
      by_cases c3 : x = 107
      · rw [if_pos c3, decide_eq_true (Or.inr (Or.inr (Or.inl c3)))]
      · rw [if_neg c3]
        by_cases c4 : x = 110
        · rw [if_pos c4, decide_eq_true (Or.inr (Or.inr (Or.inr (Or.inl c4))))]
        · rw [if_neg c4]
          by_cases c5 : x = 114
          · rw [if_pos c5, decide_eq_true (Or.inr (Or.inr (Or.inr (Or.inr (Or.inl c5)))))]
          · rw [if_neg c5]
            by_cases c6 : x = 119
            · rw [if_pos c6, decide_eq_true (Or.inr (Or.inr (Or.inr (Or.inr (Or.inr c6)))))]
            · rw [if_neg c6, decide_eq_false]
              rintro (h | h | h | h | h | h)
              · exact c1 h
              · exact c2 h
              · exact c3 h
              · exact c4 h
              · exact c5 h
              · exact c6 h
theorem nn_e {x r : Int32} (e : fX9_nameOf 700 x = some r) : (na_w x → 0 ≤ r.toInt ∧ r.toInt < 6 ∧ ∀ nm : List Int32, mm_ig nm r = nw_w nm x) ∧ (¬ na_w x → r = -1) := by
  unfold fX9_nameOf at e
  unfold na_w nw_w
  by_cases c1 : x = 98
  · rw [if_pos c1] at e
    have e := sm_i e
    subst e
    exact ⟨fun _ => ⟨by decide, by decide, fun nm => by rw [if_pos c1]; rfl⟩, fun h => absurd (Or.inl c1) h⟩
  · rw [if_neg c1] at e
    by_cases c2 : x = 102
    · rw [if_pos c2] at e
      have e := sm_i e
      subst e
      exact ⟨fun _ => ⟨by decide, by decide, fun nm => by rw [if_neg c1, if_pos c2]; rfl⟩, fun h => absurd (Or.inr (Or.inl c2)) h⟩
    · rw [if_neg c2] at e
      by_cases c3 : x = 107
      · rw [if_pos c3] at e
        have e := sm_i e
        subst e
        exact ⟨fun _ => ⟨by decide, by decide, fun nm => by rw [if_neg c1, if_neg c2, if_pos c3]; rfl⟩, fun h => absurd (Or.inr (Or.inr (Or.inl c3))) h⟩
      · rw [if_neg c3] at e
        by_cases c4 : x = 110
        · rw [if_pos c4] at e
          have e := sm_i e
          subst e
          exact ⟨fun _ => ⟨by decide, by decide, fun nm => by rw [if_neg c1, if_neg c2, if_neg c3, if_pos c4]; rfl⟩, fun h => absurd (Or.inr (Or.inr (Or.inr (Or.inl c4)))) h⟩
        · rw [if_neg c4] at e
          by_cases c5 : x = 114
          · rw [if_pos c5] at e
            have e := sm_i e
            subst e
            exact ⟨fun _ => ⟨by decide, by decide, fun nm => by rw [if_neg c1, if_neg c2, if_neg c3, if_neg c4, if_pos c5]; rfl⟩, fun h => absurd (Or.inr (Or.inr (Or.inr (Or.inr (Or.inl c5))))) h⟩
          · rw [if_neg c5] at e
            by_cases c6 : x = 119
            · rw [if_pos c6] at e
              have e := sm_i e
              subst e
              exact ⟨fun _ => ⟨by decide, by decide, fun nm => by rw [if_neg c1, if_neg c2, if_neg c3, if_neg c4, if_neg c5]; rfl⟩, fun h => absurd (Or.inr (Or.inr (Or.inr (Or.inr (Or.inr c6))))) h⟩
            · rw [if_neg c6] at e
              have e := sm_i e
              subst e
              refine ⟨fun h => ?_, fun _ => rfl⟩
              rcases h with h | h | h | h | h | h
              · exact absurd h c1
              · exact absurd h c2
              · exact absurd h c3
              · exact absurd h c4
              · exact absurd h c5
              · exact absurd h c6
theorem fl_8 {p f r : Int32} (e : fX2_fail 700 p f = some r) : r = if 0 ≤ f.toInt then f else p := by
  have n0 : (0 : Int32).toInt = 0 := by decide
  unfold fX2_fail at e
  by_cases c : (0 : Int32) ≤ f
  · have d := i_le c
    rw [if_pos c] at e
    rw [if_pos (by omega)]
    exact (sm_i e).symm
  · have d := i_nle c
    rw [if_neg c] at e
    rw [if_neg (by omega)]
    exact (sm_i e).symm
theorem fl_9 {p f r s : Int32} (e : fX9_wrong 700 p f = some (r, s)) : s = if 0 ≤ f.toInt then f else p := by
  have n0 : (0 : Int32).toInt = 0 := by decide
  unfold fX9_wrong fX9_wrong_19 at e
  by_cases c : (0 : Int32) ≤ f
  · have d := i_le c
    rw [if_pos c] at e
    rw [if_pos (by omega)]
    apply mm_sub2 e
    rfl
  · have d := i_nle c
    rw [if_neg c] at e
    rw [if_neg (by omega)]
    apply mm_sub2 e
    rfl
end
section
/-! The law: single ones -/
theorem pq_u {nm : List Int32} {n d d1 dc p p1 dc1 p2 f1 w a1 g1 o1 dc2 c v : Int32} {D D1 D2 : List Int32} (hb : pb_w n dc p D) (hp : p1.toInt = p.toInt + 1) (h1 : pq_w nm id n d1 dc p1 D dc1 p2 f1 D1 w a1 g1 o1) (hf : ¬ 0 ≤ f1.toInt) (hn : fX2_note 700 c dc1 D1 = some (dc2, D2)) (hu : ¬ c = 59 ∧ ¬ c = 63) (hv : ∀ S : List Int32, sx_w nm c (w :: S) = v :: S) : pq_w nm id n d dc p D dc2 p2 f1 D2 v a1 g1 d := by
  obtain ⟨b1, b2, b3, b4, b5⟩ := hb
  obtain ⟨x1, h1 | ⟨x2, x3, x3', x4, x5, cs, x6, x7, x8, xp, x9⟩⟩ := h1
  · exact absurd h1 hf
  · obtain ⟨y1, y2⟩ := no_e (by omega) (by omega) x6.1 hn
    refine ⟨x1, Or.inr ⟨x2, x3, rfl, by omega, x5, cs ++ [c], ?_, ?_, ?_, pu_a xp (pu_1 hu), fun S => ?_⟩⟩
    · refine cs_t x6 ?_
      have e : dc.toInt.toNat + cs.length = dc1.toInt.toNat := by omega
      rw [e]
      exact y2
    · rw [List.length_append, List.length_singleton]
      omega
    · rw [List.length_append, List.length_singleton]
      omega
    · rw [xs_a, x9]
      exact hv S
theorem on_r {go8 : Int32 → Int32 → Int32 → Int32 → Int32 → List Int32 → List Int32 → Option (Int32 × Int32 × Int32 × List Int32)} {go9 : Int32 → Int32 → Int32 → Int32 → Int32 → List Int32 → List Int32 → List Int32 → Option (Int32 × Int32 × Int32 × Int32)} {tape8 : List Int32} {base n : Int32} {tape text names : List Int32} (HB : hb_w (fun k => tape8.getD k 0) base n tape text) (RG : rg_w tape8 base n tape text names go8 go9) : rg_w tape8 base n tape text names (fX2_readOneo 700 go8) (fX9_oneo 700 go9) := by
  intro d dc p D dc' p' f' D' v a9 f9 o9 d0 d6 hb e8 e9
  have n0 : (0 : Int32).toInt = 0 := by decide
  have n1 : (1 : Int32).toInt = 1 := by decide
  have n6 : (6 : Int32).toInt = 6 := by decide
  obtain ⟨b1, b2, b3, b4, b5⟩ := id hb
  have RE : rg_w tape8 base n tape text names (fX2_readEither 700 go8) (fX9_either 700 go9) := ei_r HB (bo_r HB (cm_r HB (su_r HB (pd_r HB RG))))
  unfold fX2_readOneo at e8
  unfold fX9_oneo at e9
  rw [if_pos (by decide)] at e9
  obtain ⟨r, nr, e8⟩ := mm_bd1s e8
  have hr := nx_e nr
  obtain ⟨s, ns, e9⟩ := mm_bd1s e9
  have hs := HB p s (by omega) ns
  rw [di_e, bs_1] at e8
  -- a fault here
  have FL : fX2_readOne_157 700 go8 n dc p (-1) tape8 D = some (dc', p', f', D') → f' = p := by
    intro e
    rw [uf_X2_readOne_157] at e
    obtain ⟨w, ew, e⟩ := mm_bd1s e
    have hw := fl_8 ew
    rw [if_neg m1_f] at hw
    apply mm_sub4 e
    exact hw
  have F9 : (mm_bd2 (fX9_wrong 700 p (-1)) (fun (r_42 : Int32) (w_43 : Int32) => some (r_42, p, w_43, d))) = some (v, a9, f9, o9) → f9 = p := by
    intro e
    obtain ⟨w1, w2, ew, e⟩ := mm_bd2s e
    have hw := fl_9 ew
    rw [if_neg m1_f] at hw
    apply mm_sub4 e
    exact hw
  have FF : f' = p → f9 = p → pq_w names id n d dc p D dc' p' f' D' v a9 f9 o9 := fun h1 h2 => ⟨by rw [h1, h2], Or.inl (by rw [h1]; omega)⟩
  -- a sign ahead
  have SG : ∀ c : Int32, (c = 33 ∨ c = 45) → r = c → s = c → pq_w names id n d dc p D dc' p' f' D' v a9 f9 o9 := by
    intro c hc h1 h2
    have hlt : p.toInt < n.toInt := nb_l (c := c) (b := (fun k => tape8.getD k 0)) (by rcases hc with h | h <;> rw [h] <;> decide) (by rw [← hr]; exact h1)
    have e9' : fX9_one_32 700 go9 c base p n (-1) d tape text names = some (v, a9, f9, o9) := by
      rcases hc with h | h
      · rw [if_pos (by rw [h2, h]), h2] at e9
        exact e9
      · rw [if_neg (by rw [h2, h]; decide), if_pos (by rw [h2, h]), h2] at e9
        exact e9
    have hd : ¬ (48 ≤ r.toInt ∧ r.toInt ≤ 57) := by rcases hc with h | h <;> rw [h1, h] <;> decide
    have hn : ¬ (r = 98 ∨ r = 102 ∨ r = 107 ∨ r = 110 ∨ r = 114 ∨ r = 119) := by rcases hc with h | h <;> rw [h1, h] <;> decide
    rw [decide_eq_false hd, if_pos rfl, na_e, bs_1, decide_eq_false hn, if_pos rfl] at e8
    rw [uf_X9_one_32] at e9'
    by_cases g : (6 : Int32) ≤ d
    · have dg := i_le g
      rw [if_pos g, uf_X2_readOne_99, if_pos g] at e8
      rw [if_pos (Int32.toInt_inj.mp (by omega))] at e9'
      exact FF (FL e8) (F9 e9')
    · have dg := i_nle g
      rw [if_neg g] at e8
      rw [if_neg (fun k => absurd (i_eq k) (by omega)), nm_eq, nm_eq, if_neg (by rcases hc with h | h <;> rw [h] <;> decide)] at e9'
      have e8' : fX2_readOne_62 700 go8 d c n dc p (-1) tape8 D = some (dc', p', f', D') := by
        rcases hc with h | h
        · rw [if_pos (by rw [h1, h]), h1] at e8
          exact e8
        · rw [if_neg (by rw [h1, h]; decide), if_pos (by rw [h1, h]), h1] at e8
          exact e8
      rw [uf_X2_readOne_62, nm_eq] at e8'
      generalize hy : p + (1 : Int32) = p1 at e8' e9'
      have ey := i_addE hy (by omega) (by omega)
      generalize hz : d + (1 : Int32) = d1 at e8' e9'
      have ez := i_addE hz (by omega) (by omega)
      obtain ⟨dc1, p2, f1, D1, eg8, e8a⟩ := mm_bd4s e8'
      obtain ⟨w, a1, g1, o1, eg9, e9a⟩ := mm_bd4s e9'
      have q := RG d1 dc p1 D dc1 p2 f1 D1 w a1 g1 o1 (by omega) (by omega) (pb_n hb (by omega) hlt) eg8 eg9
      rw [uf_X9_one_83, if_neg (by rcases hc with h | h <;> rw [h] <;> decide), uf_X9_one_104, nm_eq, if_neg (by rcases hc with h | h <;> rw [h] <;> decide)] at e9a
      have e8b : fX2_readOne_93 700 go8 (if c = 33 then (33 : Int32) else (126 : Int32)) n dc1 p2 f1 tape8 D1 = some (dc', p', f', D') := by
        by_cases k : c = 33
        · rw [if_pos k] at e8a ⊢
          exact e8a
        · rw [if_neg k] at e8a ⊢
          exact e8a
      rw [uf_X2_readOne_93] at e8b
      obtain ⟨dc2, D2, en, e8c⟩ := mm_bd2s e8b
      have e9b : some ((if c = 45 then -w else (if w = 0 then (1 : Int32) else (0 : Int32))), a1, g1, o1 - (1 : Int32)) = some (v, a9, f9, o9) := by
        by_cases k : c = 45
        · rw [if_pos k] at e9a ⊢
          exact e9a
        · rw [if_neg k] at e9a ⊢
          by_cases k2 : w = 0
          · rw [if_pos k2] at e9a ⊢
            exact e9a
          · rw [if_neg k2] at e9a ⊢
            exact e9a
      apply mm_sub4 e8c
      apply mm_sub4 e9b
      by_cases hf : 0 ≤ f1.toInt
      · exact ⟨q.1, Or.inl hf⟩
      · have U := pq_u (d := d) (v := (if c = 45 then -w else (if w = 0 then (1 : Int32) else (0 : Int32)))) hb (by omega) q hf en (by rcases hc with h | h <;> rw [h] <;> decide) (fun S => by
          rcases hc with h | h
          · subst h
            rfl
          · subst h
            rfl)
        obtain ⟨-, z2 | ⟨-, -, z4, -⟩⟩ := q
        · exact absurd z2 hf
        · have ho : o1 - (1 : Int32) = d := by
            rw [z4]
            generalize hk : d1 - (1 : Int32) = k
            have ek := i_subE hk (by omega) (by omega)
            exact Int32.toInt_inj.mp (by omega)
          rw [ho]
          exact U
  by_cases c33 : r = 33
  · exact SG 33 (Or.inl rfl) c33 (by rw [hs]; exact (nb_c (by decide) (by decide)).mpr (by rw [← hr]; exact c33))
  by_cases c45 : r = 45
  · exact SG 45 (Or.inr rfl) c45 (by rw [hs]; exact (nb_c (by decide) (by decide)).mpr (by rw [← hr]; exact c45))
  have s33 : ¬ s = 33 := fun h => c33 (by rw [hr]; exact (nb_c (by decide) (by decide)).mp (by rw [← hs]; exact h))
  have s45 : ¬ s = 45 := fun h => c45 (by rw [hr]; exact (nb_c (by decide) (by decide)).mp (by rw [← hs]; exact h))
  rw [if_neg s33, if_neg s45] at e9
  by_cases c40 : r = 40
  · have s40 : s = 40 := by rw [hs]; exact (nb_c (by decide) (by decide)).mpr (by rw [← hr]; exact c40)
    have hlt : p.toInt < n.toInt := nb_l (c := 40) (b := (fun k => tape8.getD k 0)) (by decide) (by rw [← hr]; exact c40)
    rw [if_pos s40, s40, uf_X9_one_32] at e9
    have hd : ¬ (48 ≤ r.toInt ∧ r.toInt ≤ 57) := by rw [c40]; decide
    have hn : ¬ (r = 98 ∨ r = 102 ∨ r = 107 ∨ r = 110 ∨ r = 114 ∨ r = 119) := by rw [c40]; decide
    rw [decide_eq_false hd, if_pos rfl, na_e, bs_1, decide_eq_false hn, if_pos rfl] at e8
    by_cases g : (6 : Int32) ≤ d
    · have dg := i_le g
      rw [if_pos g, uf_X2_readOne_99, if_pos g] at e8
      rw [if_pos (Int32.toInt_inj.mp (by omega))] at e9
      exact FF (FL e8) (F9 e9)
    · have dg := i_nle g
      rw [if_neg g, if_neg c33, if_neg c45, uf_X2_readOne_99, if_neg g, if_pos c40, nm_eq] at e8
      rw [if_neg (fun k => absurd (i_eq k) (by omega)), nm_eq, nm_eq, if_pos rfl] at e9
      generalize hy : p + (1 : Int32) = p1 at e8 e9
      have ey := i_addE hy (by omega) (by omega)
      generalize hz : d + (1 : Int32) = d1 at e8 e9
      have ez := i_addE hz (by omega) (by omega)
      obtain ⟨dc1, p2, f1, D1, eg8, e8⟩ := mm_bd4s e8
      obtain ⟨w, a1, g1, o1, eg9, e9⟩ := mm_bd4s e9
      have q := RE d1 dc p1 D dc1 p2 f1 D1 w a1 g1 o1 (by omega) (by omega) (pb_n hb (by omega) hlt) eg8 eg9
      obtain ⟨rm, em, e8⟩ := mm_bd1s e8
      have hm := me_e em
      rw [uf_X9_one_83, if_pos rfl] at e9
      obtain ⟨rt, at_, et, e9⟩ := mm_bd2s e9
      by_cases hf : 0 ≤ f1.toInt
      · rw [if_pos hf] at hm
        rw [if_pos hm] at e8
        obtain ⟨u, eu, e8⟩ := mm_bd1s e8
        have hu := fl_8 eu
        rw [if_pos hf] at hu
        have hf9 : 0 ≤ g1.toInt := by rw [q.1]; exact hf
        unfold fX9_takes at et
        rw [if_pos (Int32.le_iff_toInt_le.mpr (by omega))] at et
        have et := sm_i et
        injection et with h1 h2
        rw [if_pos h1.symm] at e9
        obtain ⟨u1, u2, eu9, e9⟩ := mm_bd2s e9
        have hu9 := fl_9 eu9
        rw [if_pos hf9] at hu9
        apply mm_sub4 e8
        apply mm_sub4 e9
        exact ⟨by rw [hu, hu9]; exact q.1, Or.inl (by rw [hu]; exact hf)⟩
      · have q' := q
        obtain ⟨z1, z2 | ⟨z2, z3, z4, z5, z6, cs, z7, z8, z9, zp, z10⟩⟩ := q'
        · exact absurd z2 hf
        · rw [z3, z1, z2] at et
          obtain ⟨t1, t2⟩ := tk_e HB (by omega) et
          rw [if_neg m1_f] at t1
          rw [if_neg hf] at hm
          by_cases k : nb_8 (fun k => tape8.getD k 0) n p2 = 41
          · have k9 : nb_9 (fun k => tape8.getD k 0) n p2 = 41 := (nb_c (by decide) (by decide)).mpr k
            have hlt2 := nb_l (by decide) k
            rw [decide_eq_true k] at hm
            rw [decide_eq_true k9] at t1
            rw [if_pos t1] at t2
            rw [if_neg (by rw [hm]; decide), nm_eq] at e8
            rw [if_neg (by rw [t1]; decide), uf_X9_one_104, nm_eq, if_pos rfl, t2] at e9
            generalize hy2 : p2 + (1 : Int32) = p3 at e8 e9
            have ey2 := i_addE hy2 (by omega) (by omega)
            apply mm_sub4 e8
            apply mm_sub4 e9
            have ho : o1 - (1 : Int32) = d := by
              rw [z4]
              generalize hk : d1 - (1 : Int32) = k
              have ek := i_subE hk (by omega) (by omega)
              exact Int32.toInt_inj.mp (by omega)
            exact ⟨z1, Or.inr ⟨z2, rfl, ho, by omega, by omega, cs, z7, z8, by omega, zp, z10⟩⟩
          · have k9 : ¬ nb_9 (fun k => tape8.getD k 0) n p2 = 41 := fun h => k ((nb_c (by decide) (by decide)).mp h)
            rw [decide_eq_false k] at hm
            rw [decide_eq_false k9] at t1
            rw [if_neg (by rw [t1]; decide)] at t2
            rw [if_pos hm] at e8
            rw [if_pos t1] at e9
            obtain ⟨u, eu, e8⟩ := mm_bd1s e8
            have hu := fl_8 eu
            rw [if_neg hf] at hu
            obtain ⟨u1, u2, eu9, e9⟩ := mm_bd2s e9
            have hu9 := fl_9 eu9
            rw [if_neg (by rw [z1]; exact hf), t2] at hu9
            apply mm_sub4 e8
            apply mm_sub4 e9
            exact ⟨by rw [hu, hu9], Or.inl (by rw [hu]; omega)⟩
  have s40 : ¬ s = 40 := fun h => c40 (by rw [hr]; exact (nb_c (by decide) (by decide)).mp (by rw [← hs]; exact h))
  rw [if_neg s40] at e9
  obtain ⟨k, ek, e9⟩ := mm_bd1s e9
  obtain ⟨kn, kx⟩ := nn_e ek
  by_cases hna : na_w r
  · have hd : ¬ (48 ≤ r.toInt ∧ r.toInt ≤ 57) := by
      rcases hna with h | h | h | h | h | h <;> rw [h] <;> decide
    have hlt : p.toInt < n.toInt := nb_l (c := r) (b := (fun k => tape8.getD k 0)) (by rcases hna with h | h | h | h | h | h <;> rw [h] <;> decide) hr.symm
    have hsr : s = r := by rw [hs, hr]; exact nb_e hlt
    rw [hsr] at kn
    obtain ⟨k0, k5, kv⟩ := kn hna
    rw [decide_eq_false hd, if_pos rfl, na_e, bs_1, decide_eq_true (show r = 98 ∨ r = 102 ∨ r = 107 ∨ r = 110 ∨ r = 114 ∨ r = 119 from hna), if_neg (by decide), nm_eq] at e8
    rw [if_neg (fun q => absurd (i_lt q) (by omega)), nm_eq] at e9
    have e9 := ck_x e9
    obtain ⟨dc1, D1, en, e8⟩ := mm_bd2s e8
    obtain ⟨y1, y2⟩ := no_e b1 (by omega) b5 en
    generalize hy : p + (1 : Int32) = p1 at e8 e9
    have ey := i_addE hy (by omega) (by omega)
    apply mm_sub4 e8
    apply mm_sub4 e9
    refine ⟨rfl, Or.inr ⟨rfl, rfl, rfl, by omega, by omega, [r], y2, by rw [List.length_singleton]; omega, by rw [List.length_singleton]; omega, pu_1 (na_u hna), fun S => ?_⟩⟩
    rw [kv names]
    exact sx_n hna
  · have hns : ¬ na_w s := by
      intro h
      apply hna
      have h0 : ¬ s = 0 := by rcases h with h | h | h | h | h | h <;> rw [h] <;> decide
      have h1 : ¬ s = -1 := by rcases h with h | h | h | h | h | h <;> rw [h] <;> decide
      have : r = s := by rw [hr]; exact (nb_c h0 h1).mp hs.symm
      rw [this]
      exact h
    have hk := kx hns
    rw [hk, if_pos (by decide)] at e9
    by_cases hd : 48 ≤ r.toInt ∧ r.toInt ≤ 57
    · rw [decide_eq_true hd, if_neg (by decide)] at e8
      obtain ⟨dc1, p1, D1, en, e8⟩ := mm_bd3s e8
      unfold fX2_readNumber at en
      obtain ⟨q1, q2, q3, q4, q5, q6, q7, q8, q9, q10⟩ := nu_4 HB 700 700 (0 : Int32) (0 : Int32) dc p D dc1 p1 D1 v a9 f9 o9 hb (Or.inl ⟨n0, n0⟩) (fun _ => by rw [← hr]; exact hd) en e9
      have n1000 : (1000 : Int32).toInt = 1000 := by decide
      have hc := i_addE (rfl : (1000 : Int32) + v = _) (by omega) (by omega)
      have hne : ∀ z : Int32, z.toInt < 1000 → ¬ (1000 : Int32) + v = z := fun z hz h => absurd (i_eq h) (by omega)
      apply mm_sub4 e8
      refine ⟨q1, Or.inr ⟨rfl, q2, q3, q4, q5, [(1000 : Int32) + v], q8, by rw [List.length_singleton]; omega, by rw [List.length_singleton]; omega, pu_1 ⟨hne _ (by decide), hne _ (by decide)⟩, fun S => ?_⟩⟩
      show sx_w names ((1000 : Int32) + v) S = v :: S
      unfold sx_w
      rw [if_neg (by rintro (h | h | h | h | h | h) <;> exact hne _ (by decide) h), if_neg (hne _ (by decide)), if_neg (hne _ (by decide)), if_pos (Int32.le_iff_toInt_le.mpr (by omega))]
      have hv : ((1000 : Int32) + v) - (1000 : Int32) = v := by
        rw [Int32.add_comm, Int32.add_sub_cancel]
      rw [hv]
    · rw [decide_eq_false hd, if_pos rfl, na_e, bs_1, decide_eq_false (show ¬ (r = 98 ∨ r = 102 ∨ r = 107 ∨ r = 110 ∨ r = 114 ∨ r = 119) from hna), if_pos rfl] at e8
      have h8 : f' = p := by
        by_cases g : (6 : Int32) ≤ d
        · rw [if_pos g, uf_X2_readOne_99, if_pos g] at e8
          exact FL e8
        · rw [if_neg g, if_neg c33, if_neg c45, uf_X2_readOne_99, if_neg g, if_neg c40] at e8
          exact FL e8
      have h9 : f9 = p := by
        rw [show (700 : Nat) = 699 + 1 from rfl, uf_X9_one_176, if_neg (by decide)] at e9
        obtain ⟨s2, ns2, e9⟩ := mm_bd1s e9
        have g2 := HB p s2 (by omega) ns2
        have k9 : ¬ (48 ≤ s2.toInt ∧ s2.toInt ≤ 57) := fun h => hd (by rw [hr]; rw [g2] at h; exact nb_d9.mp h)
        have Q : fX9_one_229 700 go9 (0 : Int32) (0 : Int32) base p n (-1) d tape text names = some (v, a9, f9, o9) → f9 = p := by
          intro e
          rw [uf_X9_one_229, if_pos rfl] at e
          exact F9 e
        by_cases k1 : s2 < (48 : Int32)
        · rw [if_pos k1] at e9
          exact Q e9
        · have d1 := i_nlt k1
          have n48 : (48 : Int32).toInt = 48 := by decide
          have n57 : (57 : Int32).toInt = 57 := by decide
          rw [if_neg k1] at e9
          obtain ⟨s3, ns3, e9⟩ := mm_bd1s e9
          have g3 := HB p s3 (by omega) ns3
          rw [← g2] at g3
          rw [g3, if_pos (show (57 : Int32) < s2 by rw [Int32.lt_iff_toInt_lt]; omega)] at e9
          exact Q e9
      exact FF h8 h9
theorem on_M {tape8 : List Int32} {base n : Int32} {tape text names : List Int32} (HB : hb_w (fun k => tape8.getD k 0) base n tape text) : ∀ (M M' : Nat), rg_w tape8 base n tape text names (fX2_readOne 700 M) (fX9_one 700 M') := by
  intro M
  induction M with
  | zero =>
    intro M' d dc p D dc' p' f' D' v a9 f9 o9 d0 d6 hb e8
    exact absurd e8 (by intro h; cases h)
  | succ M ih =>
    intro M'
    cases M' with
    | zero =>
      intro d dc p D dc' p' f' D' v a9 f9 o9 d0 d6 hb e8 e9
      exact absurd e9 (by intro h; cases h)
    | succ M' =>
      intro d dc p D dc' p' f' D' v a9 f9 o9 d0 d6 hb e8 e9
      exact on_r HB (ih M') d dc p D dc' p' f' D' v a9 f9 o9 d0 d6 hb e8 e9
end
