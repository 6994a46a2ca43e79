/-! safe -/
theorem uf_X8_sheet (N : Nat) (x1 : Int32) (v_now_rows : Int32) (v_now_cols : Int32) (v_now_high : Int32) (v_now_wide : Int32) (v_now_folds : Int32) (v_now_wrong : Int32) (v_now_more : Int32) (v_now_rowOf : List Int32) (v_now_colOf : List Int32) (v_now_below : List Int32) (v_now_face : List Int32) (v_now_worn : List Int32) (v_now_last : List Int32) : fX8_sheet N x1 v_now_rows v_now_cols v_now_high v_now_wide v_now_folds v_now_wrong v_now_more v_now_rowOf v_now_colOf v_now_below v_now_face v_now_worn v_now_last = mm_ck (mm_nz (10 : Int32)) (mm_nm ((x1 / (10 : Int32))) (fun (y_2 : Int32) =>
    mm_ck (mm_nz (10 : Int32)) (mm_nm ((mm_rem x1 (10 : Int32))) (fun (y_4 : Int32) =>
    if y_2 < (1 : Int32) then
    (some ((-1 : Int32), v_now_rows, v_now_cols, v_now_high, v_now_wide, v_now_folds, v_now_wrong, v_now_more, v_now_rowOf, v_now_colOf, v_now_below, v_now_face, v_now_worn, v_now_last))
    else (if (4 : Int32) < y_2 then
    (some ((-1 : Int32), v_now_rows, v_now_cols, v_now_high, v_now_wide, v_now_folds, v_now_wrong, v_now_more, v_now_rowOf, v_now_colOf, v_now_below, v_now_face, v_now_worn, v_now_last))
    else (if y_4 < (1 : Int32) then
    (some ((-1 : Int32), v_now_rows, v_now_cols, v_now_high, v_now_wide, v_now_folds, v_now_wrong, v_now_more, v_now_rowOf, v_now_colOf, v_now_below, v_now_face, v_now_worn, v_now_last))
    else (if y_4 ≤ (8 : Int32) then
    (mm_nm ((((10 : Int32) * v_now_rows) + v_now_cols)) (fun (y_9 : Int32) =>
    mm_bd13 (fX5_renew N y_2 y_4 v_now_rows v_now_cols v_now_high v_now_wide v_now_folds v_now_wrong v_now_more v_now_rowOf v_now_colOf v_now_below v_now_face v_now_worn v_now_last) (fun (w_10 : Int32) (w_11 : Int32) (w_12 : Int32) (w_13 : Int32) (w_14 : Int32) (w_15 : Int32) (w_16 : Int32) (w_17 : List Int32) (w_18 : List Int32) (w_19 : List Int32) (w_20 : List Int32) (w_21 : List Int32) (w_22 : List Int32) =>
    some (y_9, w_10, w_11, w_12, w_13, w_14, w_15, w_16, w_17, w_18, w_19, w_20, w_21, w_22))))
    else (some ((-1 : Int32), v_now_rows, v_now_cols, v_now_high, v_now_wide, v_now_folds, v_now_wrong, v_now_more, v_now_rowOf, v_now_colOf, v_now_below, v_now_face, v_now_worn, v_now_last))))))))) := rfl

set_option maxHeartbeats 4000000 in
set_option maxRecDepth 20000 in
theorem sf_X8_sheet {N : Nat} (hN : 700 ≤ N) {x1 : Int32} {v_now_rows : Int32} {v_now_cols : Int32} {v_now_high : Int32} {v_now_wide : Int32} {v_now_folds : Int32} {v_now_wrong : Int32} {v_now_more : Int32} {v_now_rowOf : List Int32} {v_now_colOf : List Int32} {v_now_below : List Int32} {v_now_face : List Int32} {v_now_worn : List Int32} {v_now_last : List Int32} (h_0 : 1 ≤ v_now_rows.toInt) (h_1 : v_now_rows.toInt ≤ 4) (h_2 : 1 ≤ v_now_cols.toInt) (h_3 : v_now_cols.toInt ≤ 8) (h_4 : 1 ≤ v_now_high.toInt) (h_5 : v_now_high.toInt ≤ 4) (h_6 : 1 ≤ v_now_wide.toInt) (h_7 : v_now_wide.toInt ≤ 8) (h_8 : v_now_rowOf.length = 32) (h_9 : v_now_colOf.length = 32) (h_10 : v_now_below.length = 32) (h_11 : v_now_face.length = 32) (h_12 : v_now_worn.length = 64) (h_13 : v_now_last.length = 64) (h_14 : zn v_now_rowOf 0 (v_now_rows.toInt * v_now_cols.toInt) 0 v_now_high.toInt) (h_15 : zn v_now_colOf 0 (v_now_rows.toInt * v_now_cols.toInt) 0 v_now_wide.toInt) : wp (fX8_sheet N x1 v_now_rows v_now_cols v_now_high v_now_wide v_now_folds v_now_wrong v_now_more v_now_rowOf v_now_colOf v_now_below v_now_face v_now_worn v_now_last) (cu14 (fun (r : Int32) (wv_now_rows : Int32) (wv_now_cols : Int32) (wv_now_high : Int32) (wv_now_wide : Int32) (wv_now_folds : Int32) (wv_now_wrong : Int32) (wv_now_more : Int32) (wv_now_rowOf : List Int32) (wv_now_colOf : List Int32) (wv_now_below : List Int32) (wv_now_face : List Int32) (wv_now_worn : List Int32) (wv_now_last : List Int32) => 1 ≤ wv_now_rows.toInt ∧ wv_now_rows.toInt ≤ 4 ∧ 1 ≤ wv_now_cols.toInt ∧ wv_now_cols.toInt ≤ 8 ∧ 1 ≤ wv_now_high.toInt ∧ wv_now_high.toInt ≤ 4 ∧ 1 ≤ wv_now_wide.toInt ∧ wv_now_wide.toInt ≤ 8 ∧ wv_now_rowOf.length = 32 ∧ wv_now_colOf.length = 32 ∧ wv_now_below.length = 32 ∧ wv_now_face.length = 32 ∧ wv_now_worn.length = 64 ∧ wv_now_last.length = 64 ∧ zn wv_now_rowOf 0 (wv_now_rows.toInt * wv_now_cols.toInt) 0 wv_now_high.toInt ∧ zn wv_now_colOf 0 (wv_now_rows.toInt * wv_now_cols.toInt) 0 wv_now_wide.toInt)) := by
  refine wp_of (uf_X8_sheet _ _ _ _ _ _ _ _ _ _ _ _ _ _ _) ?_
  have n_1 : (10 : Int32).toInt = 10 := by decide
  refine wp_ck (i_nz (by omega)) ?_
  refine wp_nm (fun y_2 _ => ?_)
  refine wp_ck (i_nz (by omega)) ?_
  refine wp_nm (fun y_4 _ => ?_)
  have n_3 : (1 : Int32).toInt = 1 := by decide
  refine wp_if (fun c_2 => ?_) (fun c_2 => ?_)
  ·
    have dc_2 := i_lt c_2
    exact wp_so14 ⟨h_0, h_1, h_2, h_3, h_4, h_5, h_6, h_7, h_8, h_9, h_10, h_11, h_12, h_13, h_14, h_15⟩
  ·
    have dc_2 := i_nlt c_2
    have n_5 : (4 : Int32).toInt = 4 := by decide
    refine wp_if (fun c_4 => ?_) (fun c_4 => ?_)
    ·
      have dc_4 := i_lt c_4
      exact wp_so14 ⟨h_0, h_1, h_2, h_3, h_4, h_5, h_6, h_7, h_8, h_9, h_10, h_11, h_12, h_13, h_14, h_15⟩
    ·
      have dc_4 := i_nlt c_4
      refine wp_if (fun c_6 => ?_) (fun c_6 => ?_)
      ·
        have dc_6 := i_lt c_6
        exact wp_so14 ⟨h_0, h_1, h_2, h_3, h_4, h_5, h_6, h_7, h_8, h_9, h_10, h_11, h_12, h_13, h_14, h_15⟩
      ·
        have dc_6 := i_nlt c_6
        have n_8 : (8 : Int32).toInt = 8 := by decide
        refine wp_if (fun c_7 => ?_) (fun c_7 => ?_)
        ·
          have dc_7 := i_le c_7
          generalize hz_z : ((10 : Int32) * v_now_rows) = z
          have e_9 := i_mulLE (c := 10) (by decide) hz_z (by omega) (by omega)
          refine wp_nm (fun y_9 h_y_9 => ?_)
          have e_10 := i_addE h_y_9.symm (by omega) (by omega)
          refine wp_bd13 (sf_X5_renew hN h_0 h_1 h_2 h_3 h_4 h_5 h_6 h_7 h_8 h_9 h_10 h_11 h_12 h_13 (by omega) (by omega) (by omega) (by omega)) (fun w_10 w_11 w_12 w_13 w_14 w_15 w_16 w_17 w_18 w_19 w_20 w_21 w_22 ⟨q_11, q_12, q_13, q_14, q_15, q_16, q_17, q_18, q_19, q_20, q_21, q_22, q_23, q_24, q_25, q_26⟩ => ?_)
          exact wp_so14 ⟨q_11, q_12, q_13, q_14, q_15, q_16, q_17, q_18, q_19, q_20, q_21, q_22, q_23, q_24, q_25, q_26⟩
        ·
          have dc_7 := i_nle c_7
          exact wp_so14 ⟨h_0, h_1, h_2, h_3, h_4, h_5, h_6, h_7, h_8, h_9, h_10, h_11, h_12, h_13, h_14, h_15⟩

theorem uf_X8_limit (N : Nat) (x1 : Int32) (v_changes_value : Int32) (v_changes_done : Int32) (v_changes_size : Int32) (v_changes_before : List Int32) (v_changes_after : List Int32) : fX8_limit N x1 v_changes_value v_changes_done v_changes_size v_changes_before v_changes_after = if x1 < (1 : Int32) then
    (some ((-1 : Int32), v_changes_value, v_changes_done, v_changes_size, v_changes_before, v_changes_after))
    else (if x1 ≤ (99 : Int32) then
    (mm_bd5 (fX0_become N x1 v_changes_value v_changes_done v_changes_size v_changes_before v_changes_after) (fun (w_3 : Int32) (w_4 : Int32) (w_5 : Int32) (w_6 : List Int32) (w_7 : List Int32) =>
    some (v_changes_value, w_3, w_4, w_5, w_6, w_7)))
    else (some ((-1 : Int32), v_changes_value, v_changes_done, v_changes_size, v_changes_before, v_changes_after))) := rfl

set_option maxHeartbeats 4000000 in
set_option maxRecDepth 20000 in
theorem sf_X8_limit {N : Nat} (hN : 700 ≤ N) {x1 : Int32} {v_changes_value : Int32} {v_changes_done : Int32} {v_changes_size : Int32} {v_changes_before : List Int32} {v_changes_after : List Int32} (h_0 : 0 ≤ v_changes_done.toInt) (h_1 : v_changes_done.toInt ≤ 40) (h_2 : 0 ≤ v_changes_size.toInt) (h_3 : v_changes_size.toInt ≤ 40) (h_4 : v_changes_before.length = 40) (h_5 : v_changes_after.length = 40) : wp (fX8_limit N x1 v_changes_value v_changes_done v_changes_size v_changes_before v_changes_after) (cu6 (fun (r : Int32) (wv_changes_value : Int32) (wv_changes_done : Int32) (wv_changes_size : Int32) (wv_changes_before : List Int32) (wv_changes_after : List Int32) => 0 ≤ wv_changes_done.toInt ∧ wv_changes_done.toInt ≤ 40 ∧ 0 ≤ wv_changes_size.toInt ∧ wv_changes_size.toInt ≤ 40 ∧ wv_changes_before.length = 40 ∧ wv_changes_after.length = 40)) := by
  refine wp_of (uf_X8_limit _ _ _ _ _ _ _) ?_
  have n_2 : (1 : Int32).toInt = 1 := by decide
  refine wp_if (fun c_1 => ?_) (fun c_1 => ?_)
  ·
    have dc_1 := i_lt c_1
    exact wp_so6 ⟨h_0, h_1, h_2, h_3, h_4, h_5⟩
  ·
    have dc_1 := i_nlt c_1
    have n_4 : (99 : Int32).toInt = 99 := by decide
    refine wp_if (fun c_3 => ?_) (fun c_3 => ?_)
    ·
      have dc_3 := i_le c_3
      refine wp_bd5 (sf_X0_become hN h_0 h_1 h_2 h_3 h_4 h_5) (fun w_3 w_4 w_5 w_6 w_7 ⟨q_5, q_6, q_7, q_8, q_9, q_10⟩ => ?_)
      exact wp_so6 ⟨q_5, q_6, q_7, q_8, q_9, q_10⟩
    ·
      have dc_3 := i_nle c_3
      exact wp_so6 ⟨h_0, h_1, h_2, h_3, h_4, h_5⟩

theorem uf_X8_feed (N : Nat) (x1 : Int32) (v_wearing_size : Int32) (v_wearing_tape : List Int32) : fX8_feed N x1 v_wearing_size v_wearing_tape = if x1 < 0 then
    (some ((-1 : Int32), v_wearing_size, v_wearing_tape))
    else (if x1 ≤ (255 : Int32) then
    (mm_bd3 (fX2_write N x1 v_wearing_size v_wearing_tape) (fun (r_3 : Bool) (w_4 : Int32) (w_5 : List Int32) =>
    if r_3 = false then
    (some ((-3 : Int32), w_4, w_5))
    else (some (w_4, w_4, w_5))))
    else (some ((-1 : Int32), v_wearing_size, v_wearing_tape))) := rfl

set_option maxHeartbeats 4000000 in
set_option maxRecDepth 20000 in
theorem sf_X8_feed {N : Nat} (hN : 700 ≤ N) {x1 : Int32} {v_wearing_size : Int32} {v_wearing_tape : List Int32} (h_0 : 0 ≤ v_wearing_size.toInt) (h_1 : v_wearing_size.toInt ≤ 120) (h_2 : v_wearing_tape.length = 120) : wp (fX8_feed N x1 v_wearing_size v_wearing_tape) (cu3 (fun (r : Int32) (wv_wearing_size : Int32) (wv_wearing_tape : List Int32) => 0 ≤ wv_wearing_size.toInt ∧ wv_wearing_size.toInt ≤ 120 ∧ wv_wearing_tape.length = 120)) := by
  refine wp_of (uf_X8_feed _ _ _ _) ?_
  have n_2 : (0 : Int32).toInt = 0 := by decide
  refine wp_if (fun c_1 => ?_) (fun c_1 => ?_)
  ·
    have dc_1 := i_lt c_1
    exact wp_so3 ⟨h_0, h_1, h_2⟩
  ·
    have dc_1 := i_nlt c_1
    have n_4 : (255 : Int32).toInt = 255 := by decide
    refine wp_if (fun c_3 => ?_) (fun c_3 => ?_)
    ·
      have dc_3 := i_le c_3
      refine wp_bd3 (sf_X2_write hN h_0 h_1 h_2) (fun r_3 w_4 w_5 ⟨q_5, q_6, q_7⟩ => ?_)
      refine wp_if (fun c_8 => ?_) (fun c_8 => ?_)
      ·
        exact wp_so3 ⟨q_5, q_6, q_7⟩
      ·
        exact wp_so3 ⟨q_5, q_6, q_7⟩
    ·
      have dc_3 := i_nle c_3
      exact wp_so3 ⟨h_0, h_1, h_2⟩

theorem uf_X8_law (N : Nat) (v_wearing_size : Int32) (v_wearing_stepCount : Int32) (v_wearing_draftCount : Int32) (v_wearing_place : Int32) (v_wearing_fault : Int32) (v_wearing_tape : List Int32) (v_wearing_steps : List Int32) (v_wearing_draft : List Int32) : fX8_law N v_wearing_size v_wearing_stepCount v_wearing_draftCount v_wearing_place v_wearing_fault v_wearing_tape v_wearing_steps v_wearing_draft = mm_bd8 (fX2_readTape N v_wearing_size v_wearing_stepCount v_wearing_draftCount v_wearing_place v_wearing_fault v_wearing_tape v_wearing_steps v_wearing_draft) (fun (r_1 : Int32) (w_2 : Int32) (w_3 : Int32) (w_4 : Int32) (w_5 : Int32) (w_6 : Int32) (w_7 : List Int32) (w_8 : List Int32) =>
    if 0 ≤ r_1 then
    (some (((-100 : Int32) - r_1), w_2, w_3, w_4, w_5, w_6, w_7, w_8))
    else (some ((1 : Int32), w_2, w_3, w_4, w_5, w_6, w_7, w_8))) := rfl

set_option maxHeartbeats 4000000 in
set_option maxRecDepth 20000 in
theorem sf_X8_law {N : Nat} (hN : 700 ≤ N) {v_wearing_size : Int32} {v_wearing_stepCount : Int32} {v_wearing_draftCount : Int32} {v_wearing_place : Int32} {v_wearing_fault : Int32} {v_wearing_tape : List Int32} {v_wearing_steps : List Int32} {v_wearing_draft : List Int32} (h_0 : 0 ≤ v_wearing_size.toInt) (h_1 : v_wearing_size.toInt ≤ 120) (h_2 : 0 ≤ v_wearing_stepCount.toInt) (h_3 : v_wearing_stepCount.toInt ≤ 121) (h_4 : 0 ≤ v_wearing_draftCount.toInt) (h_5 : v_wearing_draftCount.toInt ≤ 121) (h_6 : v_wearing_tape.length = 120) (h_7 : v_wearing_steps.length = 121) (h_8 : v_wearing_draft.length = 121) : wp (fX8_law N v_wearing_size v_wearing_stepCount v_wearing_draftCount v_wearing_place v_wearing_fault v_wearing_tape v_wearing_steps v_wearing_draft) (cu8 (fun (r : Int32) (wv_wearing_size : Int32) (wv_wearing_stepCount : Int32) (wv_wearing_draftCount : Int32) (wv_wearing_place : Int32) (wv_wearing_fault : Int32) (wv_wearing_steps : List Int32) (wv_wearing_draft : List Int32) => 0 ≤ wv_wearing_size.toInt ∧ wv_wearing_size.toInt ≤ 120 ∧ 0 ≤ wv_wearing_stepCount.toInt ∧ wv_wearing_stepCount.toInt ≤ 121 ∧ 0 ≤ wv_wearing_draftCount.toInt ∧ wv_wearing_draftCount.toInt ≤ 121 ∧ wv_wearing_steps.length = 121 ∧ wv_wearing_draft.length = 121)) := by
  refine wp_of (uf_X8_law _ _ _ _ _ _ _ _ _) ?_
  refine wp_bd8 (sf_X2_readTape hN h_0 h_1 h_2 h_3 h_4 h_5 h_6 h_7 h_8) (fun r_1 w_2 w_3 w_4 w_5 w_6 w_7 w_8 ⟨q_1, q_2, q_3, q_4, q_5, q_6, q_7, q_8⟩ => ?_)
  have n_10 : (0 : Int32).toInt = 0 := by decide
  refine wp_if (fun c_9 => ?_) (fun c_9 => ?_)
  ·
    have dc_9 := i_le c_9
    exact wp_so8 ⟨q_1, q_2, q_3, q_4, q_5, q_6, q_7, q_8⟩
  ·
    have dc_9 := i_nle c_9
    exact wp_so8 ⟨q_1, q_2, q_3, q_4, q_5, q_6, q_7, q_8⟩

theorem uf_X8_fold (N : Nat) (x1 : Int32) (x2 : Int32) (v_now_rows : Int32) (v_now_cols : Int32) (v_now_high : Int32) (v_now_wide : Int32) (v_now_folds : Int32) (v_now_wrong : Int32) (v_now_more : Int32) (v_now_rowOf : List Int32) (v_now_colOf : List Int32) (v_now_below : List Int32) (v_now_face : List Int32) (v_now_worn : List Int32) (v_now_last : List Int32) (v_now_bend : List Int32) (v_now_tall : List Int32) (v_wearing_stepCount : Int32) (v_wearing_stacked : Int32) (v_wearing_steps : List Int32) (v_wearing_stack : List Int32) (v_changes_value : Int32) : fX8_fold N x1 x2 v_now_rows v_now_cols v_now_high v_now_wide v_now_folds v_now_wrong v_now_more v_now_rowOf v_now_colOf v_now_below v_now_face v_now_worn v_now_last v_now_bend v_now_tall v_wearing_stepCount v_wearing_stacked v_wearing_steps v_wearing_stack v_changes_value = mm_bd1 (fX8_isWay N x2) (fun (r_1 : Bool) =>
    if r_1 = false then
    (some ((-1 : Int32), v_now_high, v_now_wide, v_now_folds, v_now_wrong, v_now_more, v_now_rowOf, v_now_colOf, v_now_below, v_now_face, v_now_worn, v_now_last, v_now_bend, v_now_tall, v_wearing_stacked, v_wearing_stack))
    else (mm_bd1 (fX5_hasLine N x1 x2 v_now_high v_now_wide) (fun (r_4 : Bool) =>
    if r_4 = false then
    (some ((-2 : Int32), v_now_high, v_now_wide, v_now_folds, v_now_wrong, v_now_more, v_now_rowOf, v_now_colOf, v_now_below, v_now_face, v_now_worn, v_now_last, v_now_bend, v_now_tall, v_wearing_stacked, v_wearing_stack))
    else (mm_bd16 (fX5_bendAndTurn N x1 x2 v_changes_value v_now_rows v_now_cols v_now_high v_now_wide v_now_folds v_now_wrong v_now_more v_now_rowOf v_now_colOf v_now_below v_now_face v_now_worn v_now_last v_now_bend v_now_tall v_wearing_stepCount v_wearing_stacked v_wearing_steps v_wearing_stack) (fun (r_7 : Int32) (w_8 : Int32) (w_9 : Int32) (w_10 : Int32) (w_11 : Int32) (w_12 : Int32) (w_13 : List Int32) (w_14 : List Int32) (w_15 : List Int32) (w_16 : List Int32) (w_17 : List Int32) (w_18 : List Int32) (w_19 : List Int32) (w_20 : List Int32) (w_21 : Int32) (w_22 : List Int32) =>
    some (r_7, w_8, w_9, w_10, w_11, w_12, w_13, w_14, w_15, w_16, w_17, w_18, w_19, w_20, w_21, w_22)))))) := rfl

theorem uf_X8_isWay (N : Nat) (x0 : Int32) : fX8_isWay N x0 = if x0 < 0 then
    (some (false))
    else (if (8 : Int32) ≤ x0 then
    (some (false))
    else (some (true))) := rfl

set_option maxHeartbeats 4000000 in
set_option maxRecDepth 20000 in
theorem sf_X8_fold {N : Nat} (hN : 700 ≤ N) {x1 : Int32} {x2 : Int32} {v_now_rows : Int32} {v_now_cols : Int32} {v_now_high : Int32} {v_now_wide : Int32} {v_now_folds : Int32} {v_now_wrong : Int32} {v_now_more : Int32} {v_now_rowOf : List Int32} {v_now_colOf : List Int32} {v_now_below : List Int32} {v_now_face : List Int32} {v_now_worn : List Int32} {v_now_last : List Int32} {v_now_bend : List Int32} {v_now_tall : List Int32} {v_wearing_stepCount : Int32} {v_wearing_stacked : Int32} {v_wearing_steps : List Int32} {v_wearing_stack : List Int32} {v_changes_value : Int32} (h_0 : 1 ≤ v_now_rows.toInt) (h_1 : v_now_rows.toInt ≤ 4) (h_2 : 1 ≤ v_now_cols.toInt) (h_3 : v_now_cols.toInt ≤ 8) (h_4 : 1 ≤ v_now_high.toInt) (h_5 : v_now_high.toInt ≤ 4) (h_6 : 1 ≤ v_now_wide.toInt) (h_7 : v_now_wide.toInt ≤ 8) (h_8 : v_now_rowOf.length = 32) (h_9 : v_now_colOf.length = 32) (h_10 : v_now_below.length = 32) (h_11 : v_now_face.length = 32) (h_12 : v_now_worn.length = 64) (h_13 : v_now_last.length = 64) (h_14 : v_now_bend.length = 64) (h_15 : v_now_tall.length = 32) (h_16 : zn v_now_rowOf 0 (v_now_rows.toInt * v_now_cols.toInt) 0 v_now_high.toInt) (h_17 : zn v_now_colOf 0 (v_now_rows.toInt * v_now_cols.toInt) 0 v_now_wide.toInt) (h_18 : 0 ≤ v_wearing_stepCount.toInt) (h_19 : v_wearing_stepCount.toInt ≤ 121) (h_20 : v_wearing_steps.length = 121) (h_21 : v_wearing_stack.length = 121) : wp (fX8_fold N x1 x2 v_now_rows v_now_cols v_now_high v_now_wide v_now_folds v_now_wrong v_now_more v_now_rowOf v_now_colOf v_now_below v_now_face v_now_worn v_now_last v_now_bend v_now_tall v_wearing_stepCount v_wearing_stacked v_wearing_steps v_wearing_stack v_changes_value) (cu16 (fun (r : Int32) (wv_now_high : Int32) (wv_now_wide : Int32) (wv_now_folds : Int32) (wv_now_wrong : Int32) (wv_now_more : Int32) (wv_now_rowOf : List Int32) (wv_now_colOf : List Int32) (wv_now_below : List Int32) (wv_now_face : List Int32) (wv_now_worn : List Int32) (wv_now_last : List Int32) (wv_now_bend : List Int32) (wv_now_tall : List Int32) (wv_wearing_stacked : Int32) (wv_wearing_stack : List Int32) => 1 ≤ wv_now_high.toInt ∧ wv_now_high.toInt ≤ 4 ∧ 1 ≤ wv_now_wide.toInt ∧ wv_now_wide.toInt ≤ 8 ∧ wv_now_rowOf.length = 32 ∧ wv_now_colOf.length = 32 ∧ wv_now_below.length = 32 ∧ wv_now_face.length = 32 ∧ wv_now_worn.length = 64 ∧ wv_now_last.length = 64 ∧ wv_now_bend.length = 64 ∧ wv_now_tall.length = 32 ∧ zn wv_now_rowOf 0 (v_now_rows.toInt * v_now_cols.toInt) 0 wv_now_high.toInt ∧ zn wv_now_colOf 0 (v_now_rows.toInt * v_now_cols.toInt) 0 wv_now_wide.toInt ∧ wv_wearing_stack.length = 121)) := by
  refine wp_of (uf_X8_fold _ _ _ _ _ _ _ _ _ _ _ _ _ _ _ _ _ _ _ _ _ _ _) ?_
  refine wp_in1 ?_
  refine wp_of (uf_X8_isWay _ _) ?_
  have n_2 : (0 : Int32).toInt = 0 := by decide
  refine wp_if (fun c_1 => ?_) (fun c_1 => ?_)
  ·
    have dc_1 := i_lt c_1
    refine wp_so1 ?_
    show wp _ _
    refine wp_ifp (by decide) ?_
    exact wp_so16 ⟨h_4, h_5, h_6, h_7, h_8, h_9, h_10, h_11, h_12, h_13, h_14, h_15, h_16, h_17, h_21⟩
  ·
    have dc_1 := i_nlt c_1
    have n_4 : (8 : Int32).toInt = 8 := by decide
    refine wp_if (fun c_3 => ?_) (fun c_3 => ?_)
    ·
      have dc_3 := i_le c_3
      refine wp_so1 ?_
      show wp _ _
      refine wp_ifp (by decide) ?_
      exact wp_so16 ⟨h_4, h_5, h_6, h_7, h_8, h_9, h_10, h_11, h_12, h_13, h_14, h_15, h_16, h_17, h_21⟩
    ·
      have dc_3 := i_nle c_3
      refine wp_so1 ?_
      show wp _ _
      refine wp_ifn (by decide) ?_
      refine wp_bd1 (sf_X5_hasLine hN h_4 h_5 h_6 h_7) (fun r_4 q_5 => ?_)
      rcases q_5 with ⟨rfl, q_5⟩ | ⟨rfl, q_5⟩
      ·
        refine wp_ifn (by decide) ?_
        refine wp_bd16 (sf_X5_bendAndTurn hN h_0 h_1 h_2 h_3 h_4 h_5 h_6 h_7 h_8 h_9 h_10 h_11 h_12 h_13 h_14 h_15 h_16 h_17 h_18 h_19 h_20 h_21 (by omega) (by omega) (by omega)) (fun r_7 w_8 w_9 w_10 w_11 w_12 w_13 w_14 w_15 w_16 w_17 w_18 w_19 w_20 w_21 w_22 ⟨q_6, q_7, q_8, q_9, q_10, q_11, q_12, q_13, q_14, q_15, q_16, q_17, q_18, q_19, q_20⟩ => ?_)
        exact wp_so16 ⟨q_6, q_7, q_8, q_9, q_10, q_11, q_12, q_13, q_14, q_15, q_16, q_17, q_18, q_19, q_20⟩
      ·
        refine wp_ifp (by decide) ?_
        exact wp_so16 ⟨h_4, h_5, h_6, h_7, h_8, h_9, h_10, h_11, h_12, h_13, h_14, h_15, h_16, h_17, h_21⟩

theorem uf_X8_flat (N : Nat) (v_now_rows : Int32) (v_now_cols : Int32) (v_now_high : Int32) (v_now_wide : Int32) (v_now_rowOf : List Int32) (v_now_colOf : List Int32) (v_now_below : List Int32) (v_now_face : List Int32) : fX8_flat N v_now_rows v_now_cols v_now_high v_now_wide v_now_rowOf v_now_colOf v_now_below v_now_face = mm_bd1 (fX5_piles N v_now_high v_now_wide) (fun (r_1 : Int32) =>
    mm_bd6 (fX5_layOut N v_now_rows v_now_cols v_now_high v_now_wide v_now_rowOf v_now_colOf v_now_below v_now_face) (fun (w_3 : Int32) (w_4 : Int32) (w_5 : List Int32) (w_6 : List Int32) (w_7 : List Int32) (w_8 : List Int32) =>
    some (r_1, w_3, w_4, w_5, w_6, w_7, w_8))) := rfl

set_option maxHeartbeats 4000000 in
set_option maxRecDepth 20000 in
theorem sf_X8_flat {N : Nat} (hN : 700 ≤ N) {v_now_rows : Int32} {v_now_cols : Int32} {v_now_high : Int32} {v_now_wide : Int32} {v_now_rowOf : List Int32} {v_now_colOf : List Int32} {v_now_below : List Int32} {v_now_face : List Int32} (h_0 : 1 ≤ v_now_rows.toInt) (h_1 : v_now_rows.toInt ≤ 4) (h_2 : 1 ≤ v_now_cols.toInt) (h_3 : v_now_cols.toInt ≤ 8) (h_4 : 1 ≤ v_now_high.toInt) (h_5 : v_now_high.toInt ≤ 4) (h_6 : 1 ≤ v_now_wide.toInt) (h_7 : v_now_wide.toInt ≤ 8) (h_8 : v_now_rowOf.length = 32) (h_9 : v_now_colOf.length = 32) (h_10 : v_now_below.length = 32) (h_11 : v_now_face.length = 32) (h_12 : zn v_now_rowOf 0 (v_now_rows.toInt * v_now_cols.toInt) 0 v_now_high.toInt) (h_13 : zn v_now_colOf 0 (v_now_rows.toInt * v_now_cols.toInt) 0 v_now_wide.toInt) : wp (fX8_flat N v_now_rows v_now_cols v_now_high v_now_wide v_now_rowOf v_now_colOf v_now_below v_now_face) (cu7 (fun (r : Int32) (wv_now_high : Int32) (wv_now_wide : Int32) (wv_now_rowOf : List Int32) (wv_now_colOf : List Int32) (wv_now_below : List Int32) (wv_now_face : List Int32) => 1 ≤ wv_now_high.toInt ∧ wv_now_high.toInt ≤ 4 ∧ 1 ≤ wv_now_wide.toInt ∧ wv_now_wide.toInt ≤ 8 ∧ wv_now_rowOf.length = 32 ∧ wv_now_colOf.length = 32 ∧ wv_now_below.length = 32 ∧ wv_now_face.length = 32 ∧ zn wv_now_rowOf 0 (v_now_rows.toInt * v_now_cols.toInt) 0 wv_now_high.toInt ∧ zn wv_now_colOf 0 (v_now_rows.toInt * v_now_cols.toInt) 0 wv_now_wide.toInt)) := by
  refine wp_of (uf_X8_flat _ _ _ _ _ _ _ _ _) ?_
  refine wp_bd1 (sf_X5_piles hN h_4 h_5 h_6 h_7) (fun r_1 _ => ?_)
  refine wp_bd6 (sf_X5_layOut hN h_0 h_1 h_2 h_3 h_4 h_5 h_6 h_7 h_8 h_9 h_10 h_11) (fun w_3 w_4 w_5 w_6 w_7 w_8 ⟨q_1, q_2, q_3, q_4, q_5, q_6, q_7, q_8, q_9, q_10⟩ => ?_)
  exact wp_so7 ⟨q_1, q_2, q_3, q_4, q_5, q_6, q_7, q_8, q_9, q_10⟩

theorem uf_X8_crease (N : Nat) (x1 : Int32) (x2 : Int32) (v_now_rows : Int32) (v_now_cols : Int32) (v_now_worn : List Int32) (v_now_last : List Int32) (v_changes_value : Int32) : fX8_crease N x1 x2 v_now_rows v_now_cols v_now_worn v_now_last v_changes_value = if x1 < 0 then
    (some ((-1 : Int32)))
    else (if x2 < 0 then
    (some ((-1 : Int32)))
    else (if x2 ≤ (2 : Int32) then
    (mm_ck (mm_nz (10 : Int32)) (mm_nm ((x1 / (10 : Int32))) (fun (y_5 : Int32) =>
    mm_ck (mm_nz (10 : Int32)) (mm_nm ((mm_rem x1 (10 : Int32))) (fun (y_7 : Int32) =>
    mm_bd1 (fX5_neighbour N y_5 y_7 v_now_rows v_now_cols) (fun (r_8 : Int32) =>
    if 0 ≤ r_8 then
    (mm_nm ((((2 : Int32) * y_5) + y_7)) (fun (y_11 : Int32) =>
    if x2 = (0 : Int32) then
    (mm_ck (mm_inb y_11 v_now_worn.length) (some ((mm_ig v_now_worn y_11))))
    else (if x2 = (1 : Int32) then
    (mm_ck (mm_inb y_11 v_now_last.length) (some ((mm_ig v_now_last y_11))))
    else (mm_ck (mm_inb y_11 v_now_worn.length) (if (mm_ig v_now_worn y_11) < v_changes_value then
    (some ((0 : Int32)))
    else (some ((1 : Int32))))))))
    else (some ((-1 : Int32)))))))))
    else (some ((-1 : Int32))))) := rfl

set_option maxHeartbeats 4000000 in
set_option maxRecDepth 20000 in
theorem sf_X8_crease {N : Nat} (hN : 700 ≤ N) {x1 : Int32} {x2 : Int32} {v_now_rows : Int32} {v_now_cols : Int32} {v_now_worn : List Int32} {v_now_last : List Int32} {v_changes_value : Int32} (h_0 : 1 ≤ v_now_rows.toInt) (h_1 : v_now_rows.toInt ≤ 4) (h_2 : 1 ≤ v_now_cols.toInt) (h_3 : v_now_cols.toInt ≤ 8) (h_4 : v_now_worn.length = 64) (h_5 : v_now_last.length = 64) : wp (fX8_crease N x1 x2 v_now_rows v_now_cols v_now_worn v_now_last v_changes_value) (fun (r : Int32) => True) := by
  have m3 := (i_fl (a := v_now_rows) (b := v_now_cols) (by omega) (by omega) (by omega) (by omega)).2
  refine wp_of (uf_X8_crease _ _ _ _ _ _ _ _) ?_
  have n_2 : (0 : Int32).toInt = 0 := by decide
  refine wp_if (fun c_1 => ?_) (fun c_1 => ?_)
  ·
    have dc_1 := i_lt c_1
    exact wp_so1 trivial
  ·
    have dc_1 := i_nlt c_1
    refine wp_if (fun c_3 => ?_) (fun c_3 => ?_)
    ·
      have dc_3 := i_lt c_3
      exact wp_so1 trivial
    ·
      have dc_3 := i_nlt c_3
      have n_5 : (2 : Int32).toInt = 2 := by decide
      refine wp_if (fun c_4 => ?_) (fun c_4 => ?_)
      ·
        have dc_4 := i_le c_4
        have n_6 : (10 : Int32).toInt = 10 := by decide
        refine wp_ck (i_nz (by omega)) ?_
        refine wp_nm (fun y_5 h_y_5 => ?_)
        have e_7 := i_divL (c := 10) (by decide) (by decide) h_y_5.symm
        refine wp_ck (i_nz (by omega)) ?_
        refine wp_nm (fun y_7 h_y_7 => ?_)
        have e_8 := i_remL (c := 10) (by decide) (by decide) h_y_7.symm
        refine wp_bd1 (sf_X5_neighbour hN h_0 h_1 h_2 h_3) (fun r_8 ⟨q_9, q_10, q_11⟩ => ?_)
        refine wp_if (fun c_12 => ?_) (fun c_12 => ?_)
        ·
          have dc_12 := i_le c_12
          generalize hz_z : ((2 : Int32) * y_5) = z
          first | have e_13 := i_mulLE (c := 2) (by decide) hz_z (by omega) (by omega) | obtain ⟨k_13, e_13, e1_13, e2_13⟩ := i_mulL (c := 2) (by decide) hz_z
          refine wp_nm (fun y_11 h_y_11 => ?_)
          first | have e_14 := i_addE h_y_11.symm (by omega) (by omega) | obtain ⟨k_14, e_14, e1_14, e2_14⟩ := i_addY h_y_11.symm
          refine wp_if (fun c_15 => ?_) (fun c_15 => ?_)
          ·
            have dc_15 := i_eq c_15
            refine wp_ck (i_inb (by omega) (by omega)) ?_
            exact wp_so1 trivial
          ·
            have dc_15 := i_ne c_15
            have n_17 : (1 : Int32).toInt = 1 := by decide
            refine wp_if (fun c_16 => ?_) (fun c_16 => ?_)
            ·
              have dc_16 := i_eq c_16
              refine wp_ck (i_inb (by omega) (by omega)) ?_
              exact wp_so1 trivial
            ·
              have dc_16 := i_ne c_16
              refine wp_ck (i_inb (by omega) (by omega)) ?_
              refine wp_if (fun c_18 => ?_) (fun c_18 => ?_)
              ·
                have dc_18 := i_lt c_18
                exact wp_so1 trivial
              ·
                have dc_18 := i_nlt c_18
                exact wp_so1 trivial
        ·
          have dc_12 := i_nle c_12
          exact wp_so1 trivial
      ·
        have dc_4 := i_nle c_4
        exact wp_so1 trivial

theorem uf_X8_shape (N : Nat) (x1 : Int32) (v_now_rows : Int32) (v_now_cols : Int32) (v_now_high : Int32) (v_now_wide : Int32) (v_now_below : List Int32) : fX8_shape N x1 v_now_rows v_now_cols v_now_high v_now_wide v_now_below = if x1 = (0 : Int32) then
    (some (v_now_high))
    else (if x1 = (1 : Int32) then
    (some (v_now_wide))
    else (if x1 = (2 : Int32) then
    (mm_bd1 (fX5_highestPile N v_now_rows v_now_cols v_now_below) (fun (r_4 : Int32) =>
    some (r_4)))
    else (some ((-1 : Int32))))) := rfl

set_option maxHeartbeats 4000000 in
set_option maxRecDepth 20000 in
theorem sf_X8_shape {N : Nat} (hN : 700 ≤ N) {x1 : Int32} {v_now_rows : Int32} {v_now_cols : Int32} {v_now_high : Int32} {v_now_wide : Int32} {v_now_below : List Int32} (h_0 : 1 ≤ v_now_rows.toInt) (h_1 : v_now_rows.toInt ≤ 4) (h_2 : 1 ≤ v_now_cols.toInt) (h_3 : v_now_cols.toInt ≤ 8) (h_4 : 1 ≤ v_now_high.toInt) (h_5 : v_now_high.toInt ≤ 4) (h_6 : 1 ≤ v_now_wide.toInt) (h_7 : v_now_wide.toInt ≤ 8) (h_8 : v_now_below.length = 32) : wp (fX8_shape N x1 v_now_rows v_now_cols v_now_high v_now_wide v_now_below) (fun (r : Int32) => True) := by
  refine wp_of (uf_X8_shape _ _ _ _ _ _ _) ?_
  have n_2 : (0 : Int32).toInt = 0 := by decide
  refine wp_if (fun c_1 => ?_) (fun c_1 => ?_)
  ·
    have dc_1 := i_eq c_1
    exact wp_so1 trivial
  ·
    have dc_1 := i_ne c_1
    have n_4 : (1 : Int32).toInt = 1 := by decide
    refine wp_if (fun c_3 => ?_) (fun c_3 => ?_)
    ·
      have dc_3 := i_eq c_3
      exact wp_so1 trivial
    ·
      have dc_3 := i_ne c_3
      have n_6 : (2 : Int32).toInt = 2 := by decide
      refine wp_if (fun c_5 => ?_) (fun c_5 => ?_)
      ·
        have dc_5 := i_eq c_5
        refine wp_bd1 (sf_X5_highestPile hN h_0 h_1 h_2 h_3 h_8) (fun r_4 _ => ?_)
        exact wp_so1 trivial
      ·
        have dc_5 := i_ne c_5
        exact wp_so1 trivial

theorem uf_X8_where (N : Nat) (x1 : Int32) (x2 : Int32) (v_now_rows : Int32) (v_now_cols : Int32) (v_now_rowOf : List Int32) (v_now_colOf : List Int32) (v_now_below : List Int32) (v_now_face : List Int32) : fX8_where N x1 x2 v_now_rows v_now_cols v_now_rowOf v_now_colOf v_now_below v_now_face = mm_bd1 (fX5_placeOf N x1 x2 v_now_rows v_now_cols v_now_rowOf v_now_colOf v_now_below v_now_face) (fun (r_1 : Int32) =>
    some (r_1)) := rfl

set_option maxHeartbeats 4000000 in
set_option maxRecDepth 20000 in
theorem sf_X8_where {N : Nat} (hN : 700 ≤ N) {x1 : Int32} {x2 : Int32} {v_now_rows : Int32} {v_now_cols : Int32} {v_now_rowOf : List Int32} {v_now_colOf : List Int32} {v_now_below : List Int32} {v_now_face : List Int32} (h_0 : 1 ≤ v_now_rows.toInt) (h_1 : v_now_rows.toInt ≤ 4) (h_2 : 1 ≤ v_now_cols.toInt) (h_3 : v_now_cols.toInt ≤ 8) (h_4 : v_now_rowOf.length = 32) (h_5 : v_now_colOf.length = 32) (h_6 : v_now_below.length = 32) (h_7 : v_now_face.length = 32) : wp (fX8_where N x1 x2 v_now_rows v_now_cols v_now_rowOf v_now_colOf v_now_below v_now_face) (fun (r : Int32) => True) := by
  refine wp_of (uf_X8_where _ _ _ _ _ _ _ _ _) ?_
  refine wp_bd1 (sf_X5_placeOf hN h_0 h_1 h_2 h_3 h_4 h_5 h_6 h_7) (fun r_1 _ => ?_)
  exact wp_so1 trivial

theorem uf_X8_pile (N : Nat) (x1 : Int32) (x2 : Int32) (v_now_rows : Int32) (v_now_cols : Int32) (v_now_high : Int32) (v_now_wide : Int32) (v_now_rowOf : List Int32) (v_now_colOf : List Int32) (v_now_below : List Int32) : fX8_pile N x1 x2 v_now_rows v_now_cols v_now_high v_now_wide v_now_rowOf v_now_colOf v_now_below = mm_bd1 (fX5_hasPile N x1 v_now_high v_now_wide) (fun (r_1 : Bool) =>
    if r_1 = false then
    (some ((-1 : Int32)))
    else (if (-2 : Int32) ≤ x2 then
    (mm_ck (mm_nz (10 : Int32)) (mm_ck (mm_nz (10 : Int32)) (mm_bd1 (fX5_heightAt N (x1 / (10 : Int32)) (mm_rem x1 (10 : Int32)) v_now_rows v_now_cols v_now_rowOf v_now_colOf) (fun (r_7 : Int32) =>
    if x2 = (-2 : Int32) then
    (some (r_7))
    else (mm_ck (mm_nz (10 : Int32)) (mm_ck (mm_nz (10 : Int32)) (if x2 = (-1 : Int32) then
    (fX8_pile_67 N (r_7 - (1 : Int32)) (mm_rem x1 (10 : Int32)) (x1 / (10 : Int32)) v_now_rows v_now_cols v_now_high v_now_wide v_now_rowOf v_now_colOf v_now_below)
    else (fX8_pile_67 N x2 (mm_rem x1 (10 : Int32)) (x1 / (10 : Int32)) v_now_rows v_now_cols v_now_high v_now_wide v_now_rowOf v_now_colOf v_now_below))))))))
    else (some ((-1 : Int32))))) := rfl

theorem uf_X8_pile_67 (N : Nat) (s0 : Int32) (s1 : Int32) (s2 : Int32) (v_now_rows : Int32) (v_now_cols : Int32) (v_now_high : Int32) (v_now_wide : Int32) (v_now_rowOf : List Int32) (v_now_colOf : List Int32) (v_now_below : List Int32) : fX8_pile_67 N s0 s1 s2 v_now_rows v_now_cols v_now_high v_now_wide v_now_rowOf v_now_colOf v_now_below = mm_bd1 (fX5_fieldAt N s2 s1 s0 v_now_rows v_now_cols v_now_rowOf v_now_colOf v_now_below) (fun (r_13 : Int32) =>
    some (r_13)) := rfl

set_option maxHeartbeats 4000000 in
set_option maxRecDepth 20000 in
theorem sf_X8_pile {N : Nat} (hN : 700 ≤ N) {x1 : Int32} {x2 : Int32} {v_now_rows : Int32} {v_now_cols : Int32} {v_now_high : Int32} {v_now_wide : Int32} {v_now_rowOf : List Int32} {v_now_colOf : List Int32} {v_now_below : List Int32} (h_0 : 1 ≤ v_now_rows.toInt) (h_1 : v_now_rows.toInt ≤ 4) (h_2 : 1 ≤ v_now_cols.toInt) (h_3 : v_now_cols.toInt ≤ 8) (h_4 : 1 ≤ v_now_high.toInt) (h_5 : v_now_high.toInt ≤ 4) (h_6 : 1 ≤ v_now_wide.toInt) (h_7 : v_now_wide.toInt ≤ 8) (h_8 : v_now_rowOf.length = 32) (h_9 : v_now_colOf.length = 32) (h_10 : v_now_below.length = 32) (h_11 : zn v_now_rowOf 0 (v_now_rows.toInt * v_now_cols.toInt) 0 v_now_high.toInt) (h_12 : zn v_now_colOf 0 (v_now_rows.toInt * v_now_cols.toInt) 0 v_now_wide.toInt) : wp (fX8_pile N x1 x2 v_now_rows v_now_cols v_now_high v_now_wide v_now_rowOf v_now_colOf v_now_below) (fun (r : Int32) => True) := by
  refine wp_of (uf_X8_pile _ _ _ _ _ _ _ _ _ _) ?_
  refine wp_bd1 (sf_X5_hasPile hN h_4 h_5 h_6 h_7) (fun r_1 _ => ?_)
  refine wp_if (fun c_1 => ?_) (fun c_1 => ?_)
  ·
    exact wp_so1 trivial
  ·
    have n_3 : (-2 : Int32).toInt = -2 := by decide
    refine wp_if (fun c_2 => ?_) (fun c_2 => ?_)
    ·
      have dc_2 := i_le c_2
      have n_4 : (10 : Int32).toInt = 10 := by decide
      refine wp_ck (i_nz (by omega)) ?_
      refine wp_ck (i_nz (by omega)) ?_
      refine wp_bd1 (sf_X5_heightAt hN h_0 h_1 h_2 h_3 h_8 h_9) (fun r_7 _ => ?_)
      refine wp_if (fun c_5 => ?_) (fun c_5 => ?_)
      ·
        have dc_5 := i_eq c_5
        exact wp_so1 trivial
      ·
        have dc_5 := i_ne c_5
        refine wp_ck (i_nz (by omega)) ?_
        refine wp_ck (i_nz (by omega)) ?_
        have n_7 : (-1 : Int32).toInt = -1 := by decide
        refine wp_if (fun c_6 => ?_) (fun c_6 => ?_)
        ·
          have dc_6 := i_eq c_6
          refine wp_of (uf_X8_pile_67 _ _ _ _ _ _ _ _ _ _ _) ?_
          refine wp_bd1 (sf_X5_fieldAt hN h_0 h_1 h_2 h_3 h_8 h_9 h_10) (fun r_13 _ => ?_)
          exact wp_so1 trivial
        ·
          have dc_6 := i_ne c_6
          refine wp_of (uf_X8_pile_67 _ _ _ _ _ _ _ _ _ _ _) ?_
          refine wp_bd1 (sf_X5_fieldAt hN h_0 h_1 h_2 h_3 h_8 h_9 h_10) (fun r_13__8 _ => ?_)
          exact wp_so1 trivial
    ·
      have dc_2 := i_nle c_2
      exact wp_so1 trivial

theorem uf_X8_led (N : Nat) (x1 : Int32) (v_now_rows : Int32) (v_now_cols : Int32) (v_now_folds : Int32) (v_now_wrong : Int32) (v_now_worn : List Int32) (v_changes_value : Int32) : fX8_led N x1 v_now_rows v_now_cols v_now_folds v_now_wrong v_now_worn v_changes_value = if x1 = (0 : Int32) then
    (some (v_now_folds))
    else (if x1 = (1 : Int32) then
    (some (v_now_wrong))
    else (if x1 = (2 : Int32) then
    (mm_bd1 (fX5_torn N v_changes_value v_now_rows v_now_cols v_now_worn) (fun (r_4 : Int32) =>
    some (r_4)))
    else (some ((-1 : Int32))))) := rfl

set_option maxHeartbeats 4000000 in
set_option maxRecDepth 20000 in
theorem sf_X8_led {N : Nat} (hN : 700 ≤ N) {x1 : Int32} {v_now_rows : Int32} {v_now_cols : Int32} {v_now_folds : Int32} {v_now_wrong : Int32} {v_now_worn : List Int32} {v_changes_value : Int32} (h_0 : 1 ≤ v_now_rows.toInt) (h_1 : v_now_rows.toInt ≤ 4) (h_2 : 1 ≤ v_now_cols.toInt) (h_3 : v_now_cols.toInt ≤ 8) (h_4 : v_now_worn.length = 64) : wp (fX8_led N x1 v_now_rows v_now_cols v_now_folds v_now_wrong v_now_worn v_changes_value) (fun (r : Int32) => True) := by
  refine wp_of (uf_X8_led _ _ _ _ _ _ _ _) ?_
  have n_2 : (0 : Int32).toInt = 0 := by decide
  refine wp_if (fun c_1 => ?_) (fun c_1 => ?_)
  ·
    have dc_1 := i_eq c_1
    exact wp_so1 trivial
  ·
    have dc_1 := i_ne c_1
    have n_4 : (1 : Int32).toInt = 1 := by decide
    refine wp_if (fun c_3 => ?_) (fun c_3 => ?_)
    ·
      have dc_3 := i_eq c_3
      exact wp_so1 trivial
    ·
      have dc_3 := i_ne c_3
      have n_6 : (2 : Int32).toInt = 2 := by decide
      refine wp_if (fun c_5 => ?_) (fun c_5 => ?_)
      ·
        have dc_5 := i_eq c_5
        refine wp_bd1 (sf_X5_torn hN h_0 h_1 h_2 h_3 h_4) (fun r_4 _ => ?_)
        exact wp_so1 trivial
      ·
        have dc_5 := i_ne c_5
        exact wp_so1 trivial

theorem uf_X8_plan (N : Nat) (x1 : Int32) (x2 : Int32) (v_planned_size : Int32) (v_planned_lines : List Int32) (v_planned_ways : List Int32) : fX8_plan N x1 x2 v_planned_size v_planned_lines v_planned_ways = if x1 = 0 then
    (some ((0 : Int32), (0 : Int32), v_planned_lines, v_planned_ways))
    else (mm_bd1 (fX8_isPlannedFold N ((x1).toInt64) ((x2).toInt64)) (fun (r_2 : Bool) =>
    if r_2 = false then
    (some ((-1 : Int32), v_planned_size, v_planned_lines, v_planned_ways))
    else (mm_bd4 (fX3_append N x1 x2 v_planned_size v_planned_lines v_planned_ways) (fun (r_5 : Bool) (w_6 : Int32) (w_7 : List Int32) (w_8 : List Int32) =>
    if r_5 = false then
    (some ((-3 : Int32), w_6, w_7, w_8))
    else (some (w_6, w_6, w_7, w_8)))))) := rfl

set_option maxHeartbeats 4000000 in
set_option maxRecDepth 20000 in
theorem sf_X8_plan {N : Nat} (hN : 700 ≤ N) {x1 : Int32} {x2 : Int32} {v_planned_size : Int32} {v_planned_lines : List Int32} {v_planned_ways : List Int32} (h_0 : 0 ≤ v_planned_size.toInt) (h_1 : v_planned_size.toInt ≤ 12) (h_2 : v_planned_lines.length = 12) (h_3 : v_planned_ways.length = 12) : wp (fX8_plan N x1 x2 v_planned_size v_planned_lines v_planned_ways) (cu4 (fun (r : Int32) (wv_planned_size : Int32) (wv_planned_lines : List Int32) (wv_planned_ways : List Int32) => 0 ≤ wv_planned_size.toInt ∧ wv_planned_size.toInt ≤ 12 ∧ wv_planned_lines.length = 12 ∧ wv_planned_ways.length = 12)) := by
  refine wp_of (uf_X8_plan _ _ _ _ _ _) ?_
  have n_2 : (0 : Int32).toInt = 0 := by decide
  refine wp_if (fun c_1 => ?_) (fun c_1 => ?_)
  ·
    have dc_1 := i_eq c_1
    exact wp_so4 ⟨(by omega), (by omega), h_2, h_3⟩
  ·
    have dc_1 := i_ne c_1
    refine wp_bd1 (sf_X8_isPlannedFold hN ) (fun r_2 _ => ?_)
    refine wp_if (fun c_3 => ?_) (fun c_3 => ?_)
    ·
      exact wp_so4 ⟨h_0, h_1, h_2, h_3⟩
    ·
      refine wp_bd4 (sf_X3_append hN h_0 h_1 h_2 h_3) (fun r_5 w_6 w_7 w_8 ⟨q_4, q_5, q_6, q_7⟩ => ?_)
      refine wp_if (fun c_8 => ?_) (fun c_8 => ?_)
      ·
        exact wp_so4 ⟨q_4, q_5, q_6, q_7⟩
      ·
        exact wp_so4 ⟨q_4, q_5, q_6, q_7⟩
