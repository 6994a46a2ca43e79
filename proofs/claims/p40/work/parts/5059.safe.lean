/-! safe -/
theorem uf_X9_cost (N : Nat) (x1 : Int32) (v_rowsOf : Int32) (v_columnsOf : Int32) (v_textMany : Int32) (v_base : Int32) (v_at : Int32) (v_ends : Int32) (v_fault : Int32) (v_opened : Int32) (v_bentMany : Int32) (v_bentWrong : Int32) (v_moreWorn : Int32) (v_planned : Int32) (v_allWrong : Int32) (v_allWorn : Int32) (v_z : Int32) (v_limit : List Int32) (v_shapeRows : List Int32) (v_shapeColumns : List Int32) (v_row : List Int32) (v_column : List Int32) (v_below : List Int32) (v_face : List Int32) (v_worn : List Int32) (v_lastBend : List Int32) (v_tape : List Int32) (v_text : List Int32) (v_names : List Int32) (v_bends : List Int32) (v_high : List Int32) (v_to : List Int32) (v_pileSize : List Int32) (v_planLine : List Int32) (v_planWay : List Int32) : fX9_cost N x1 v_rowsOf v_columnsOf v_textMany v_base v_at v_ends v_fault v_opened v_bentMany v_bentWrong v_moreWorn v_planned v_allWrong v_allWorn v_z v_limit v_shapeRows v_shapeColumns v_row v_column v_below v_face v_worn v_lastBend v_tape v_text v_names v_bends v_high v_to v_pileSize v_planLine v_planWay = mm_bd1 (fX9_within N ((x1).toInt64) (0 : Int64) (3 : Int64)) (fun (r_1 : Bool) =>
    if r_1 = false then
    (some ((-1 : Int32), v_base, v_at, v_ends, v_fault, v_opened, v_bentMany, v_bentWrong, v_moreWorn, v_allWrong, v_allWorn, v_z, v_shapeRows, v_shapeColumns, v_row, v_column, v_below, v_face, v_worn, v_lastBend, v_names, v_bends, v_high, v_to, v_pileSize))
    else (mm_bd25 (fX9_goesPlan N (12 : Int32) (-1 : Int32) v_rowsOf v_columnsOf v_textMany v_base v_at v_ends v_fault v_opened v_bentMany v_bentWrong v_moreWorn v_planned v_allWrong v_allWorn v_z v_limit v_shapeRows v_shapeColumns v_row v_column v_below v_face v_worn v_lastBend v_tape v_text v_names v_bends v_high v_to v_pileSize v_planLine v_planWay) (fun (r_4 : Int32) (w_5 : Int32) (w_6 : Int32) (w_7 : Int32) (w_8 : Int32) (w_9 : Int32) (w_10 : Int32) (w_11 : Int32) (w_12 : Int32) (w_13 : Int32) (w_14 : Int32) (w_15 : Int32) (w_16 : List Int32) (w_17 : List Int32) (w_18 : List Int32) (w_19 : List Int32) (w_20 : List Int32) (w_21 : List Int32) (w_22 : List Int32) (w_23 : List Int32) (w_24 : List Int32) (w_25 : List Int32) (w_26 : List Int32) (w_27 : List Int32) (w_28 : List Int32) =>
    if x1 = 0 then
    (some (r_4, w_5, w_6, w_7, w_8, w_9, w_10, w_11, w_12, w_13, w_14, w_15, w_16, w_17, w_18, w_19, w_20, w_21, w_22, w_23, w_24, w_25, w_26, w_27, w_28))
    else (if x1 = (1 : Int32) then
    (some (w_14, w_5, w_6, w_7, w_8, w_9, w_10, w_11, w_12, w_13, w_14, w_15, w_16, w_17, w_18, w_19, w_20, w_21, w_22, w_23, w_24, w_25, w_26, w_27, w_28))
    else (if x1 = (2 : Int32) then
    (some (w_13, w_5, w_6, w_7, w_8, w_9, w_10, w_11, w_12, w_13, w_14, w_15, w_16, w_17, w_18, w_19, w_20, w_21, w_22, w_23, w_24, w_25, w_26, w_27, w_28))
    else (mm_bd1 (fX9_tornNow N (1 : Int32) v_rowsOf v_columnsOf v_limit w_22) (fun (r_33 : Int32) =>
    mm_bd1 (fX9_tornNow N (0 : Int32) v_rowsOf v_columnsOf v_limit w_22) (fun (r_35 : Int32) =>
    some ((r_33 - r_35), w_5, w_6, w_7, w_8, w_9, w_10, w_11, w_12, w_13, w_14, w_15, w_16, w_17, w_18, w_19, w_20, w_21, w_22, w_23, w_24, w_25, w_26, w_27, w_28))))))))) := rfl

set_option maxHeartbeats 4000000 in
set_option maxRecDepth 20000 in
theorem sf_X9_cost {N : Nat} (hN : 700 ≤ N) {u_row : List Int32} {u_col : List Int32} {u_sR : List Int32} {u_sC : List Int32} {A : Int} {B9 : Int} {a9 : Int} {b9 : Int} {x1 : Int32} {v_rowsOf : Int32} {v_columnsOf : Int32} {v_textMany : Int32} {v_base : Int32} {v_at : Int32} {v_ends : Int32} {v_fault : Int32} {v_opened : Int32} {v_bentMany : Int32} {v_bentWrong : Int32} {v_moreWorn : Int32} {v_planned : Int32} {v_allWrong : Int32} {v_allWorn : Int32} {v_z : Int32} {v_limit : List Int32} {v_shapeRows : List Int32} {v_shapeColumns : List Int32} {v_row : List Int32} {v_column : List Int32} {v_below : List Int32} {v_face : List Int32} {v_worn : List Int32} {v_lastBend : List Int32} {v_tape : List Int32} {v_text : List Int32} {v_names : List Int32} {v_bends : List Int32} {v_high : List Int32} {v_to : List Int32} {v_pileSize : List Int32} {v_planLine : List Int32} {v_planWay : List Int32} (h_0 : 1 ≤ v_rowsOf.toInt) (h_1 : v_rowsOf.toInt ≤ 4) (h_2 : 1 ≤ v_columnsOf.toInt) (h_3 : v_columnsOf.toInt ≤ 8) (h_4 : -1 ≤ v_textMany.toInt) (h_5 : v_textMany.toInt ≤ 120) (h_6 : 0 ≤ v_planned.toInt) (h_7 : v_planned.toInt ≤ 12) (h_8 : v_limit.length = 1) (h_9 : v_shapeRows.length = 6) (h_10 : v_shapeColumns.length = 6) (h_11 : v_row.length = 192) (h_12 : v_column.length = 192) (h_13 : v_below.length = 192) (h_14 : v_face.length = 192) (h_15 : v_worn.length = 384) (h_16 : v_lastBend.length = 384) (h_17 : v_tape.length = 120) (h_18 : v_text.length = 120) (h_19 : v_names.length = 6) (h_20 : v_bends.length = 64) (h_21 : v_high.length = 32) (h_22 : v_to.length = 32) (h_23 : v_pileSize.length = 64) (h_24 : v_planLine.length = 12) (h_25 : v_planWay.length = 12) (h_26 : fr u_row v_row A B9) (h_27 : fr u_col v_column A B9) (h_28 : fr u_sR v_shapeRows a9 b9) (h_29 : fr u_sC v_shapeColumns a9 b9) (h_30 : A ≤ 32 * (1 : Int32).toInt) (h_31 : 32 * (1 : Int32).toInt + 32 ≤ B9) (h_32 : a9 ≤ (1 : Int32).toInt) (h_33 : (1 : Int32).toInt < b9) : wp (fX9_cost N x1 v_rowsOf v_columnsOf v_textMany v_base v_at v_ends v_fault v_opened v_bentMany v_bentWrong v_moreWorn v_planned v_allWrong v_allWorn v_z v_limit v_shapeRows v_shapeColumns v_row v_column v_below v_face v_worn v_lastBend v_tape v_text v_names v_bends v_high v_to v_pileSize v_planLine v_planWay) (cu25 (fun (r : Int32) (wv_base : Int32) (wv_at : Int32) (wv_ends : Int32) (wv_fault : Int32) (wv_opened : Int32) (wv_bentMany : Int32) (wv_bentWrong : Int32) (wv_moreWorn : Int32) (wv_allWrong : Int32) (wv_allWorn : Int32) (wv_z : Int32) (wv_shapeRows : List Int32) (wv_shapeColumns : List Int32) (wv_row : List Int32) (wv_column : List Int32) (wv_below : List Int32) (wv_face : List Int32) (wv_worn : List Int32) (wv_lastBend : List Int32) (wv_names : List Int32) (wv_bends : List Int32) (wv_high : List Int32) (wv_to : List Int32) (wv_pileSize : List Int32) => wv_shapeRows.length = 6 ∧ wv_shapeColumns.length = 6 ∧ wv_row.length = 192 ∧ wv_column.length = 192 ∧ wv_below.length = 192 ∧ wv_face.length = 192 ∧ wv_worn.length = 384 ∧ wv_lastBend.length = 384 ∧ wv_names.length = 6 ∧ wv_bends.length = 64 ∧ wv_high.length = 32 ∧ wv_to.length = 32 ∧ wv_pileSize.length = 64 ∧ fr u_row wv_row A B9 ∧ fr u_col wv_column A B9 ∧ fr u_sR wv_shapeRows a9 b9 ∧ fr u_sC wv_shapeColumns a9 b9)) := by
  have m3 := (i_fl (a := v_rowsOf) (b := v_columnsOf) (by omega) (by omega) (by omega) (by omega)).2
  have n1z : (1 : Int32).toInt = 1 := by decide
  refine wp_of (uf_X9_cost _ _ _ _ _ _ _ _ _ _ _ _ _ _ _ _ _ _ _ _ _ _ _ _ _ _ _ _ _ _ _ _ _ _ _) ?_
  have n_1 := i_64 x1
  have n_2 : (0 : Int64).toInt = 0 := by decide
  have n_3 : (3 : Int64).toInt = 3 := by decide
  refine wp_bd1 (sf_X9_within hN ) (fun r_1 q_4 => ?_)
  rcases q_4 with ⟨rfl, q_4⟩ | ⟨rfl, q_4⟩
  ·
    refine wp_ifn (by decide) ?_
    refine wp_bd25 (sf_X9_goesPlan (u_row := u_row) (u_col := u_col) (u_sR := u_sR) (u_sC := u_sC) (A := A) (B9 := B9) (a9 := a9) (b9 := b9) hN h_0 h_1 h_2 h_3 h_4 h_5 h_6 h_7 h_8 h_9 h_10 h_11 h_12 h_13 h_14 h_15 h_16 h_17 h_18 h_19 h_20 h_21 h_22 h_23 h_24 h_25 h_26 h_27 h_28 h_29 h_30 h_31 h_32 h_33) (fun r_4 w_5 w_6 w_7 w_8 w_9 w_10 w_11 w_12 w_13 w_14 w_15 w_16 w_17 w_18 w_19 w_20 w_21 w_22 w_23 w_24 w_25 w_26 w_27 w_28 ⟨q_5, q_6, q_7, q_8, q_9, q_10, q_11, q_12, q_13, q_14, q_15, q_16, q_17, q_18, q_19, q_20, q_21, q_22⟩ => ?_)
    have n_24 : (0 : Int32).toInt = 0 := by decide
    refine wp_if (fun c_23 => ?_) (fun c_23 => ?_)
    ·
      have dc_23 := i_eq c_23
      exact wp_so25 ⟨q_5, q_6, q_7, q_8, q_9, q_10, q_11, q_12, q_13, q_14, q_15, q_16, q_17, q_18, q_19, q_20, q_21⟩
    ·
      have dc_23 := i_ne c_23
      have n_26 : (1 : Int32).toInt = 1 := by decide
      refine wp_if (fun c_25 => ?_) (fun c_25 => ?_)
      ·
        have dc_25 := i_eq c_25
        exact wp_so25 ⟨q_5, q_6, q_7, q_8, q_9, q_10, q_11, q_12, q_13, q_14, q_15, q_16, q_17, q_18, q_19, q_20, q_21⟩
      ·
        have dc_25 := i_ne c_25
        have n_28 : (2 : Int32).toInt = 2 := by decide
        refine wp_if (fun c_27 => ?_) (fun c_27 => ?_)
        ·
          have dc_27 := i_eq c_27
          exact wp_so25 ⟨q_5, q_6, q_7, q_8, q_9, q_10, q_11, q_12, q_13, q_14, q_15, q_16, q_17, q_18, q_19, q_20, q_21⟩
        ·
          have dc_27 := i_ne c_27
          refine wp_bd1 (sf_X9_tornNow hN h_0 h_1 h_2 h_3 h_8 q_11 (by omega) (by omega)) (fun r_33 _ => ?_)
          refine wp_bd1 (sf_X9_tornNow hN h_0 h_1 h_2 h_3 h_8 q_11 (by omega) (by omega)) (fun r_35 _ => ?_)
          exact wp_so25 ⟨q_5, q_6, q_7, q_8, q_9, q_10, q_11, q_12, q_13, q_14, q_15, q_16, q_17, q_18, q_19, q_20, q_21⟩
  ·
    refine wp_ifp (by decide) ?_
    exact wp_so25 ⟨h_9, h_10, h_11, h_12, h_13, h_14, h_15, h_16, h_19, h_20, h_21, h_22, h_23, h_26, h_27, h_28, h_29⟩

theorem uf_X9_lies (N : Nat) (x1 : Int32) (x2 : Int32) (v_rowsOf : Int32) (v_columnsOf : Int32) (v_textMany : Int32) (v_base : Int32) (v_at : Int32) (v_ends : Int32) (v_fault : Int32) (v_opened : Int32) (v_bentMany : Int32) (v_bentWrong : Int32) (v_moreWorn : Int32) (v_planned : Int32) (v_allWrong : Int32) (v_allWorn : Int32) (v_z : Int32) (v_limit : List Int32) (v_shapeRows : List Int32) (v_shapeColumns : List Int32) (v_row : List Int32) (v_column : List Int32) (v_below : List Int32) (v_face : List Int32) (v_worn : List Int32) (v_lastBend : List Int32) (v_tape : List Int32) (v_text : List Int32) (v_names : List Int32) (v_bends : List Int32) (v_high : List Int32) (v_to : List Int32) (v_pileSize : List Int32) (v_planLine : List Int32) (v_planWay : List Int32) : fX9_lies N x1 x2 v_rowsOf v_columnsOf v_textMany v_base v_at v_ends v_fault v_opened v_bentMany v_bentWrong v_moreWorn v_planned v_allWrong v_allWorn v_z v_limit v_shapeRows v_shapeColumns v_row v_column v_below v_face v_worn v_lastBend v_tape v_text v_names v_bends v_high v_to v_pileSize v_planLine v_planWay = if x1 < 0 then
    (some ((-1 : Int32), v_base, v_at, v_ends, v_fault, v_opened, v_bentMany, v_bentWrong, v_moreWorn, v_allWrong, v_allWorn, v_z, v_shapeRows, v_shapeColumns, v_row, v_column, v_below, v_face, v_worn, v_lastBend, v_names, v_bends, v_high, v_to, v_pileSize))
    else (mm_ck (mm_nz (100 : Int32)) (mm_bd1 (fX9_isField N (x1 / (100 : Int32)) v_rowsOf v_columnsOf) (fun (r_3 : Bool) =>
    if r_3 = false then
    (some ((-1 : Int32), v_base, v_at, v_ends, v_fault, v_opened, v_bentMany, v_bentWrong, v_moreWorn, v_allWrong, v_allWorn, v_z, v_shapeRows, v_shapeColumns, v_row, v_column, v_below, v_face, v_worn, v_lastBend, v_names, v_bends, v_high, v_to, v_pileSize))
    else (mm_bd1 (fX9_within N ((x2).toInt64) (0 : Int64) (3 : Int64)) (fun (r_6 : Bool) =>
    if r_6 = false then
    (some ((-1 : Int32), v_base, v_at, v_ends, v_fault, v_opened, v_bentMany, v_bentWrong, v_moreWorn, v_allWrong, v_allWorn, v_z, v_shapeRows, v_shapeColumns, v_row, v_column, v_below, v_face, v_worn, v_lastBend, v_names, v_bends, v_high, v_to, v_pileSize))
    else (mm_ck (mm_nz (100 : Int32)) (mm_bd25 (fX9_isBehind N (mm_rem x1 (100 : Int32)) v_rowsOf v_columnsOf v_textMany v_base v_at v_ends v_fault v_opened v_bentMany v_bentWrong v_moreWorn v_planned v_allWrong v_allWorn v_z v_limit v_shapeRows v_shapeColumns v_row v_column v_below v_face v_worn v_lastBend v_tape v_text v_names v_bends v_high v_to v_pileSize v_planLine v_planWay) (fun (r_10 : Bool) (w_11 : Int32) (w_12 : Int32) (w_13 : Int32) (w_14 : Int32) (w_15 : Int32) (w_16 : Int32) (w_17 : Int32) (w_18 : Int32) (w_19 : Int32) (w_20 : Int32) (w_21 : Int32) (w_22 : List Int32) (w_23 : List Int32) (w_24 : List Int32) (w_25 : List Int32) (w_26 : List Int32) (w_27 : List Int32) (w_28 : List Int32) (w_29 : List Int32) (w_30 : List Int32) (w_31 : List Int32) (w_32 : List Int32) (w_33 : List Int32) (w_34 : List Int32) =>
    if r_10 = false then
    (some ((-1 : Int32), w_11, w_12, w_13, w_14, w_15, w_16, w_17, w_18, w_19, w_20, w_21, w_22, w_23, w_24, w_25, w_26, w_27, w_28, w_29, w_30, w_31, w_32, w_33, w_34))
    else (mm_ck (mm_nz (100 : Int32)) (mm_bd1 (fX9_whereOf N (1 : Int32) (x1 / (100 : Int32)) x2 w_24 w_25 w_26 w_27) (fun (r_38 : Int32) =>
    some (r_38, w_11, w_12, w_13, w_14, w_15, w_16, w_17, w_18, w_19, w_20, w_21, w_22, w_23, w_24, w_25, w_26, w_27, w_28, w_29, w_30, w_31, w_32, w_33, w_34)))))))))))) := rfl

set_option maxHeartbeats 4000000 in
set_option maxRecDepth 20000 in
theorem sf_X9_lies {N : Nat} (hN : 700 ≤ N) {u_row : List Int32} {u_col : List Int32} {u_sR : List Int32} {u_sC : List Int32} {A : Int} {B9 : Int} {a9 : Int} {b9 : Int} {x1 : Int32} {x2 : Int32} {v_rowsOf : Int32} {v_columnsOf : Int32} {v_textMany : Int32} {v_base : Int32} {v_at : Int32} {v_ends : Int32} {v_fault : Int32} {v_opened : Int32} {v_bentMany : Int32} {v_bentWrong : Int32} {v_moreWorn : Int32} {v_planned : Int32} {v_allWrong : Int32} {v_allWorn : Int32} {v_z : Int32} {v_limit : List Int32} {v_shapeRows : List Int32} {v_shapeColumns : List Int32} {v_row : List Int32} {v_column : List Int32} {v_below : List Int32} {v_face : List Int32} {v_worn : List Int32} {v_lastBend : List Int32} {v_tape : List Int32} {v_text : List Int32} {v_names : List Int32} {v_bends : List Int32} {v_high : List Int32} {v_to : List Int32} {v_pileSize : List Int32} {v_planLine : List Int32} {v_planWay : List Int32} (h_0 : 1 ≤ v_rowsOf.toInt) (h_1 : v_rowsOf.toInt ≤ 4) (h_2 : 1 ≤ v_columnsOf.toInt) (h_3 : v_columnsOf.toInt ≤ 8) (h_4 : -1 ≤ v_textMany.toInt) (h_5 : v_textMany.toInt ≤ 120) (h_6 : 0 ≤ v_planned.toInt) (h_7 : v_planned.toInt ≤ 12) (h_8 : v_limit.length = 1) (h_9 : v_shapeRows.length = 6) (h_10 : v_shapeColumns.length = 6) (h_11 : v_row.length = 192) (h_12 : v_column.length = 192) (h_13 : v_below.length = 192) (h_14 : v_face.length = 192) (h_15 : v_worn.length = 384) (h_16 : v_lastBend.length = 384) (h_17 : v_tape.length = 120) (h_18 : v_text.length = 120) (h_19 : v_names.length = 6) (h_20 : v_bends.length = 64) (h_21 : v_high.length = 32) (h_22 : v_to.length = 32) (h_23 : v_pileSize.length = 64) (h_24 : v_planLine.length = 12) (h_25 : v_planWay.length = 12) (h_26 : fr u_row v_row A B9) (h_27 : fr u_col v_column A B9) (h_28 : fr u_sR v_shapeRows a9 b9) (h_29 : fr u_sC v_shapeColumns a9 b9) (h_30 : A ≤ 32 * (1 : Int32).toInt) (h_31 : 32 * (1 : Int32).toInt + 32 ≤ B9) (h_32 : a9 ≤ (1 : Int32).toInt) (h_33 : (1 : Int32).toInt < b9) : wp (fX9_lies N x1 x2 v_rowsOf v_columnsOf v_textMany v_base v_at v_ends v_fault v_opened v_bentMany v_bentWrong v_moreWorn v_planned v_allWrong v_allWorn v_z v_limit v_shapeRows v_shapeColumns v_row v_column v_below v_face v_worn v_lastBend v_tape v_text v_names v_bends v_high v_to v_pileSize v_planLine v_planWay) (cu25 (fun (r : Int32) (wv_base : Int32) (wv_at : Int32) (wv_ends : Int32) (wv_fault : Int32) (wv_opened : Int32) (wv_bentMany : Int32) (wv_bentWrong : Int32) (wv_moreWorn : Int32) (wv_allWrong : Int32) (wv_allWorn : Int32) (wv_z : Int32) (wv_shapeRows : List Int32) (wv_shapeColumns : List Int32) (wv_row : List Int32) (wv_column : List Int32) (wv_below : List Int32) (wv_face : List Int32) (wv_worn : List Int32) (wv_lastBend : List Int32) (wv_names : List Int32) (wv_bends : List Int32) (wv_high : List Int32) (wv_to : List Int32) (wv_pileSize : List Int32) => wv_shapeRows.length = 6 ∧ wv_shapeColumns.length = 6 ∧ wv_row.length = 192 ∧ wv_column.length = 192 ∧ wv_below.length = 192 ∧ wv_face.length = 192 ∧ wv_worn.length = 384 ∧ wv_lastBend.length = 384 ∧ wv_names.length = 6 ∧ wv_bends.length = 64 ∧ wv_high.length = 32 ∧ wv_to.length = 32 ∧ wv_pileSize.length = 64 ∧ fr u_row wv_row A B9 ∧ fr u_col wv_column A B9 ∧ fr u_sR wv_shapeRows a9 b9 ∧ fr u_sC wv_shapeColumns a9 b9)) := by
  have m3 := (i_fl (a := v_rowsOf) (b := v_columnsOf) (by omega) (by omega) (by omega) (by omega)).2
  have n1z : (1 : Int32).toInt = 1 := by decide
  have hx1 : x1.toInt < 2147483648 := Int32.toInt_lt x1
  have hx2 : x2.toInt < 2147483648 := Int32.toInt_lt x2
  refine wp_of (uf_X9_lies _ _ _ _ _ _ _ _ _ _ _ _ _ _ _ _ _ _ _ _ _ _ _ _ _ _ _ _ _ _ _ _ _ _ _ _) ?_
  have n_2 : (0 : Int32).toInt = 0 := by decide
  refine wp_if (fun c_1 => ?_) (fun c_1 => ?_)
  ·
    have dc_1 := i_lt c_1
    exact wp_so25 ⟨h_9, h_10, h_11, h_12, h_13, h_14, h_15, h_16, h_19, h_20, h_21, h_22, h_23, h_26, h_27, h_28, h_29⟩
  ·
    have dc_1 := i_nlt c_1
    have n_3 : (100 : Int32).toInt = 100 := by decide
    refine wp_ck (i_nz (by omega)) ?_
    generalize hz_z : (x1 / (100 : Int32)) = z
    have e_4 := i_divL (c := 100) (by decide) (by decide) hz_z
    refine wp_bd1 (sf_X9_isField hN h_0 h_1 h_2 h_3) (fun r_3 q_5 => ?_)
    rcases q_5 with ⟨rfl, q_5⟩ | ⟨rfl, q_5⟩
    ·
      refine wp_ifn (by decide) ?_
      have n_6 := i_64 x2
      have n_7 : (0 : Int64).toInt = 0 := by decide
      have n_8 : (3 : Int64).toInt = 3 := by decide
      refine wp_bd1 (sf_X9_within hN ) (fun r_6 q_9 => ?_)
      rcases q_9 with ⟨rfl, q_9⟩ | ⟨rfl, q_9⟩
      ·
        refine wp_ifn (by decide) ?_
        refine wp_ck (i_nz (by omega)) ?_
        refine wp_bd25 (sf_X9_isBehind (u_row := u_row) (u_col := u_col) (u_sR := u_sR) (u_sC := u_sC) (A := A) (B9 := B9) (a9 := a9) (b9 := b9) hN h_0 h_1 h_2 h_3 h_4 h_5 h_6 h_7 h_8 h_9 h_10 h_11 h_12 h_13 h_14 h_15 h_16 h_17 h_18 h_19 h_20 h_21 h_22 h_23 h_24 h_25 h_26 h_27 h_28 h_29 h_30 h_31 h_32 h_33) (fun r_10 w_11 w_12 w_13 w_14 w_15 w_16 w_17 w_18 w_19 w_20 w_21 w_22 w_23 w_24 w_25 w_26 w_27 w_28 w_29 w_30 w_31 w_32 w_33 w_34 ⟨q_10, q_11, q_12, q_13, q_14, q_15, q_16, q_17, q_18, q_19, q_20, q_21, q_22, q_23, q_24, q_25, q_26⟩ => ?_)
        refine wp_if (fun c_27 => ?_) (fun c_27 => ?_)
        ·
          exact wp_so25 ⟨q_10, q_11, q_12, q_13, q_14, q_15, q_16, q_17, q_18, q_19, q_20, q_21, q_22, q_23, q_24, q_25, q_26⟩
        ·
          refine wp_ck (i_nz (by omega)) ?_
          have n_28 : (1 : Int32).toInt = 1 := by decide
          refine wp_bd1 (sf_X9_whereOf hN q_12 q_13 q_14 q_15 (by omega) (by omega) (by omega) (by omega)) (fun r_38 _ => ?_)
          exact wp_so25 ⟨q_10, q_11, q_12, q_13, q_14, q_15, q_16, q_17, q_18, q_19, q_20, q_21, q_22, q_23, q_24, q_25, q_26⟩
      ·
        refine wp_ifp (by decide) ?_
        exact wp_so25 ⟨h_9, h_10, h_11, h_12, h_13, h_14, h_15, h_16, h_19, h_20, h_21, h_22, h_23, h_26, h_27, h_28, h_29⟩
    ·
      refine wp_ifp (by decide) ?_
      exact wp_so25 ⟨h_9, h_10, h_11, h_12, h_13, h_14, h_15, h_16, h_19, h_20, h_21, h_22, h_23, h_26, h_27, h_28, h_29⟩

theorem uf_X9_top (N : Nat) (x1 : Int32) (x2 : Int32) (v_rowsOf : Int32) (v_columnsOf : Int32) (v_textMany : Int32) (v_base : Int32) (v_at : Int32) (v_ends : Int32) (v_fault : Int32) (v_opened : Int32) (v_bentMany : Int32) (v_bentWrong : Int32) (v_moreWorn : Int32) (v_planned : Int32) (v_allWrong : Int32) (v_allWorn : Int32) (v_z : Int32) (v_limit : List Int32) (v_shapeRows : List Int32) (v_shapeColumns : List Int32) (v_row : List Int32) (v_column : List Int32) (v_below : List Int32) (v_face : List Int32) (v_worn : List Int32) (v_lastBend : List Int32) (v_tape : List Int32) (v_text : List Int32) (v_names : List Int32) (v_bends : List Int32) (v_high : List Int32) (v_to : List Int32) (v_pileSize : List Int32) (v_planLine : List Int32) (v_planWay : List Int32) : fX9_top N x1 x2 v_rowsOf v_columnsOf v_textMany v_base v_at v_ends v_fault v_opened v_bentMany v_bentWrong v_moreWorn v_planned v_allWrong v_allWorn v_z v_limit v_shapeRows v_shapeColumns v_row v_column v_below v_face v_worn v_lastBend v_tape v_text v_names v_bends v_high v_to v_pileSize v_planLine v_planWay = mm_bd25 (fX9_isBehind N x1 v_rowsOf v_columnsOf v_textMany v_base v_at v_ends v_fault v_opened v_bentMany v_bentWrong v_moreWorn v_planned v_allWrong v_allWorn v_z v_limit v_shapeRows v_shapeColumns v_row v_column v_below v_face v_worn v_lastBend v_tape v_text v_names v_bends v_high v_to v_pileSize v_planLine v_planWay) (fun (r_1 : Bool) (w_2 : Int32) (w_3 : Int32) (w_4 : Int32) (w_5 : Int32) (w_6 : Int32) (w_7 : Int32) (w_8 : Int32) (w_9 : Int32) (w_10 : Int32) (w_11 : Int32) (w_12 : Int32) (w_13 : List Int32) (w_14 : List Int32) (w_15 : List Int32) (w_16 : List Int32) (w_17 : List Int32) (w_18 : List Int32) (w_19 : List Int32) (w_20 : List Int32) (w_21 : List Int32) (w_22 : List Int32) (w_23 : List Int32) (w_24 : List Int32) (w_25 : List Int32) =>
    if r_1 = false then
    (some ((-1 : Int32), w_2, w_3, w_4, w_5, w_6, w_7, w_8, w_9, w_10, w_11, w_12, w_13, w_14, w_15, w_16, w_17, w_18, w_19, w_20, w_21, w_22, w_23, w_24, w_25))
    else (mm_bd1 (fX9_isPile N (1 : Int32) x2 w_13 w_14) (fun (r_28 : Bool) =>
    if r_28 = false then
    (some ((-1 : Int32), w_2, w_3, w_4, w_5, w_6, w_7, w_8, w_9, w_10, w_11, w_12, w_13, w_14, w_15, w_16, w_17, w_18, w_19, w_20, w_21, w_22, w_23, w_24, w_25))
    else (mm_ck (mm_nz (10 : Int32)) (mm_ck (mm_nz (10 : Int32)) (mm_bd1 (fX9_topOf N (1 : Int32) (x2 / (10 : Int32)) (mm_rem x2 (10 : Int32)) v_rowsOf v_columnsOf w_15 w_16 w_17) (fun (r_33 : Int32) =>
    some (r_33, w_2, w_3, w_4, w_5, w_6, w_7, w_8, w_9, w_10, w_11, w_12, w_13, w_14, w_15, w_16, w_17, w_18, w_19, w_20, w_21, w_22, w_23, w_24, w_25)))))))) := rfl

set_option maxHeartbeats 4000000 in
set_option maxRecDepth 20000 in
theorem sf_X9_top {N : Nat} (hN : 700 ≤ N) {u_row : List Int32} {u_col : List Int32} {u_sR : List Int32} {u_sC : List Int32} {A : Int} {B9 : Int} {a9 : Int} {b9 : Int} {x1 : Int32} {x2 : Int32} {v_rowsOf : Int32} {v_columnsOf : Int32} {v_textMany : Int32} {v_base : Int32} {v_at : Int32} {v_ends : Int32} {v_fault : Int32} {v_opened : Int32} {v_bentMany : Int32} {v_bentWrong : Int32} {v_moreWorn : Int32} {v_planned : Int32} {v_allWrong : Int32} {v_allWorn : Int32} {v_z : Int32} {v_limit : List Int32} {v_shapeRows : List Int32} {v_shapeColumns : List Int32} {v_row : List Int32} {v_column : List Int32} {v_below : List Int32} {v_face : List Int32} {v_worn : List Int32} {v_lastBend : List Int32} {v_tape : List Int32} {v_text : List Int32} {v_names : List Int32} {v_bends : List Int32} {v_high : List Int32} {v_to : List Int32} {v_pileSize : List Int32} {v_planLine : List Int32} {v_planWay : List Int32} (h_0 : 1 ≤ v_rowsOf.toInt) (h_1 : v_rowsOf.toInt ≤ 4) (h_2 : 1 ≤ v_columnsOf.toInt) (h_3 : v_columnsOf.toInt ≤ 8) (h_4 : -1 ≤ v_textMany.toInt) (h_5 : v_textMany.toInt ≤ 120) (h_6 : 0 ≤ v_planned.toInt) (h_7 : v_planned.toInt ≤ 12) (h_8 : v_limit.length = 1) (h_9 : v_shapeRows.length = 6) (h_10 : v_shapeColumns.length = 6) (h_11 : v_row.length = 192) (h_12 : v_column.length = 192) (h_13 : v_below.length = 192) (h_14 : v_face.length = 192) (h_15 : v_worn.length = 384) (h_16 : v_lastBend.length = 384) (h_17 : v_tape.length = 120) (h_18 : v_text.length = 120) (h_19 : v_names.length = 6) (h_20 : v_bends.length = 64) (h_21 : v_high.length = 32) (h_22 : v_to.length = 32) (h_23 : v_pileSize.length = 64) (h_24 : v_planLine.length = 12) (h_25 : v_planWay.length = 12) (h_26 : fr u_row v_row A B9) (h_27 : fr u_col v_column A B9) (h_28 : fr u_sR v_shapeRows a9 b9) (h_29 : fr u_sC v_shapeColumns a9 b9) (h_30 : A ≤ 32 * (1 : Int32).toInt) (h_31 : 32 * (1 : Int32).toInt + 32 ≤ B9) (h_32 : a9 ≤ (1 : Int32).toInt) (h_33 : (1 : Int32).toInt < b9) : wp (fX9_top N x1 x2 v_rowsOf v_columnsOf v_textMany v_base v_at v_ends v_fault v_opened v_bentMany v_bentWrong v_moreWorn v_planned v_allWrong v_allWorn v_z v_limit v_shapeRows v_shapeColumns v_row v_column v_below v_face v_worn v_lastBend v_tape v_text v_names v_bends v_high v_to v_pileSize v_planLine v_planWay) (cu25 (fun (r : Int32) (wv_base : Int32) (wv_at : Int32) (wv_ends : Int32) (wv_fault : Int32) (wv_opened : Int32) (wv_bentMany : Int32) (wv_bentWrong : Int32) (wv_moreWorn : Int32) (wv_allWrong : Int32) (wv_allWorn : Int32) (wv_z : Int32) (wv_shapeRows : List Int32) (wv_shapeColumns : List Int32) (wv_row : List Int32) (wv_column : List Int32) (wv_below : List Int32) (wv_face : List Int32) (wv_worn : List Int32) (wv_lastBend : List Int32) (wv_names : List Int32) (wv_bends : List Int32) (wv_high : List Int32) (wv_to : List Int32) (wv_pileSize : List Int32) => wv_shapeRows.length = 6 ∧ wv_shapeColumns.length = 6 ∧ wv_row.length = 192 ∧ wv_column.length = 192 ∧ wv_below.length = 192 ∧ wv_face.length = 192 ∧ wv_worn.length = 384 ∧ wv_lastBend.length = 384 ∧ wv_names.length = 6 ∧ wv_bends.length = 64 ∧ wv_high.length = 32 ∧ wv_to.length = 32 ∧ wv_pileSize.length = 64 ∧ fr u_row wv_row A B9 ∧ fr u_col wv_column A B9 ∧ fr u_sR wv_shapeRows a9 b9 ∧ fr u_sC wv_shapeColumns a9 b9)) := by
  have m3 := (i_fl (a := v_rowsOf) (b := v_columnsOf) (by omega) (by omega) (by omega) (by omega)).2
  have n1z : (1 : Int32).toInt = 1 := by decide
  refine wp_of (uf_X9_top _ _ _ _ _ _ _ _ _ _ _ _ _ _ _ _ _ _ _ _ _ _ _ _ _ _ _ _ _ _ _ _ _ _ _ _) ?_
  refine wp_bd25 (sf_X9_isBehind (u_row := u_row) (u_col := u_col) (u_sR := u_sR) (u_sC := u_sC) (A := A) (B9 := B9) (a9 := a9) (b9 := b9) hN h_0 h_1 h_2 h_3 h_4 h_5 h_6 h_7 h_8 h_9 h_10 h_11 h_12 h_13 h_14 h_15 h_16 h_17 h_18 h_19 h_20 h_21 h_22 h_23 h_24 h_25 h_26 h_27 h_28 h_29 h_30 h_31 h_32 h_33) (fun r_1 w_2 w_3 w_4 w_5 w_6 w_7 w_8 w_9 w_10 w_11 w_12 w_13 w_14 w_15 w_16 w_17 w_18 w_19 w_20 w_21 w_22 w_23 w_24 w_25 ⟨q_1, q_2, q_3, q_4, q_5, q_6, q_7, q_8, q_9, q_10, q_11, q_12, q_13, q_14, q_15, q_16, q_17⟩ => ?_)
  refine wp_if (fun c_18 => ?_) (fun c_18 => ?_)
  ·
    exact wp_so25 ⟨q_1, q_2, q_3, q_4, q_5, q_6, q_7, q_8, q_9, q_10, q_11, q_12, q_13, q_14, q_15, q_16, q_17⟩
  ·
    have n_19 : (1 : Int32).toInt = 1 := by decide
    refine wp_bd1 (sf_X9_isPile hN q_1 q_2 (by omega) (by omega)) (fun r_28 _ => ?_)
    refine wp_if (fun c_20 => ?_) (fun c_20 => ?_)
    ·
      exact wp_so25 ⟨q_1, q_2, q_3, q_4, q_5, q_6, q_7, q_8, q_9, q_10, q_11, q_12, q_13, q_14, q_15, q_16, q_17⟩
    ·
      have n_21 : (10 : Int32).toInt = 10 := by decide
      refine wp_ck (i_nz (by omega)) ?_
      refine wp_ck (i_nz (by omega)) ?_
      refine wp_bd1 (sf_X9_topOf hN h_0 h_1 h_2 h_3 q_3 q_4 q_5 (by omega) (by omega)) (fun r_33 _ => ?_)
      exact wp_so25 ⟨q_1, q_2, q_3, q_4, q_5, q_6, q_7, q_8, q_9, q_10, q_11, q_12, q_13, q_14, q_15, q_16, q_17⟩

theorem uf_X9_beside (N : Nat) (x1 : Int32) (x2 : Int32) (v_rowsOf : Int32) (v_columnsOf : Int32) (v_textMany : Int32) (v_base : Int32) (v_at : Int32) (v_ends : Int32) (v_fault : Int32) (v_opened : Int32) (v_bentMany : Int32) (v_bentWrong : Int32) (v_moreWorn : Int32) (v_planned : Int32) (v_allWrong : Int32) (v_allWorn : Int32) (v_z : Int32) (v_limit : List Int32) (v_shapeRows : List Int32) (v_shapeColumns : List Int32) (v_row : List Int32) (v_column : List Int32) (v_below : List Int32) (v_face : List Int32) (v_worn : List Int32) (v_lastBend : List Int32) (v_tape : List Int32) (v_text : List Int32) (v_names : List Int32) (v_bends : List Int32) (v_high : List Int32) (v_to : List Int32) (v_pileSize : List Int32) (v_planLine : List Int32) (v_planWay : List Int32) : fX9_beside N x1 x2 v_rowsOf v_columnsOf v_textMany v_base v_at v_ends v_fault v_opened v_bentMany v_bentWrong v_moreWorn v_planned v_allWrong v_allWorn v_z v_limit v_shapeRows v_shapeColumns v_row v_column v_below v_face v_worn v_lastBend v_tape v_text v_names v_bends v_high v_to v_pileSize v_planLine v_planWay = if x2 < 0 then
    (some ((-1 : Int32), v_base, v_at, v_ends, v_fault, v_opened, v_bentMany, v_bentWrong, v_moreWorn, v_allWrong, v_allWorn, v_z, v_shapeRows, v_shapeColumns, v_row, v_column, v_below, v_face, v_worn, v_lastBend, v_names, v_bends, v_high, v_to, v_pileSize))
    else (mm_ck (mm_nz (100 : Int32)) (mm_bd1 (fX9_isField N (x2 / (100 : Int32)) v_rowsOf v_columnsOf) (fun (r_3 : Bool) =>
    if r_3 = false then
    (some ((-1 : Int32), v_base, v_at, v_ends, v_fault, v_opened, v_bentMany, v_bentWrong, v_moreWorn, v_allWrong, v_allWorn, v_z, v_shapeRows, v_shapeColumns, v_row, v_column, v_below, v_face, v_worn, v_lastBend, v_names, v_bends, v_high, v_to, v_pileSize))
    else (mm_ck (mm_nz (100 : Int32)) (mm_bd1 (fX9_isField N (mm_rem x2 (100 : Int32)) v_rowsOf v_columnsOf) (fun (r_7 : Bool) =>
    if r_7 = false then
    (some ((-1 : Int32), v_base, v_at, v_ends, v_fault, v_opened, v_bentMany, v_bentWrong, v_moreWorn, v_allWrong, v_allWorn, v_z, v_shapeRows, v_shapeColumns, v_row, v_column, v_below, v_face, v_worn, v_lastBend, v_names, v_bends, v_high, v_to, v_pileSize))
    else (mm_ck (mm_nz (100 : Int32)) (mm_ck (mm_nz (100 : Int32)) (if (x2 / (100 : Int32)) = (mm_rem x2 (100 : Int32)) then
    (some ((-1 : Int32), v_base, v_at, v_ends, v_fault, v_opened, v_bentMany, v_bentWrong, v_moreWorn, v_allWrong, v_allWorn, v_z, v_shapeRows, v_shapeColumns, v_row, v_column, v_below, v_face, v_worn, v_lastBend, v_names, v_bends, v_high, v_to, v_pileSize))
    else (mm_bd25 (fX9_isBehind N x1 v_rowsOf v_columnsOf v_textMany v_base v_at v_ends v_fault v_opened v_bentMany v_bentWrong v_moreWorn v_planned v_allWrong v_allWorn v_z v_limit v_shapeRows v_shapeColumns v_row v_column v_below v_face v_worn v_lastBend v_tape v_text v_names v_bends v_high v_to v_pileSize v_planLine v_planWay) (fun (r_13 : Bool) (w_14 : Int32) (w_15 : Int32) (w_16 : Int32) (w_17 : Int32) (w_18 : Int32) (w_19 : Int32) (w_20 : Int32) (w_21 : Int32) (w_22 : Int32) (w_23 : Int32) (w_24 : Int32) (w_25 : List Int32) (w_26 : List Int32) (w_27 : List Int32) (w_28 : List Int32) (w_29 : List Int32) (w_30 : List Int32) (w_31 : List Int32) (w_32 : List Int32) (w_33 : List Int32) (w_34 : List Int32) (w_35 : List Int32) (w_36 : List Int32) (w_37 : List Int32) =>
    if r_13 = false then
    (some ((-1 : Int32), w_14, w_15, w_16, w_17, w_18, w_19, w_20, w_21, w_22, w_23, w_24, w_25, w_26, w_27, w_28, w_29, w_30, w_31, w_32, w_33, w_34, w_35, w_36, w_37))
    else (mm_ck (mm_nz (100 : Int32)) (mm_ck (mm_inb ((32 : Int32) + (x2 / (100 : Int32))) w_27.length) (mm_ck (mm_nz (100 : Int32)) (mm_ck (mm_inb ((32 : Int32) + (mm_rem x2 (100 : Int32))) w_27.length) (mm_nm (((mm_ig w_27 ((32 : Int32) + (x2 / (100 : Int32)))) - (mm_ig w_27 ((32 : Int32) + (mm_rem x2 (100 : Int32)))))) (fun (y_44 : Int32) =>
    mm_ck (mm_nz (100 : Int32)) (mm_ck (mm_inb ((32 : Int32) + (x2 / (100 : Int32))) w_28.length) (mm_ck (mm_nz (100 : Int32)) (mm_ck (mm_inb ((32 : Int32) + (mm_rem x2 (100 : Int32))) w_28.length) (mm_nm (((mm_ig w_28 ((32 : Int32) + (x2 / (100 : Int32)))) - (mm_ig w_28 ((32 : Int32) + (mm_rem x2 (100 : Int32)))))) (fun (y_49 : Int32) =>
    if ((y_44 * y_44) + (y_49 * y_49)) = (1 : Int32) then
    (mm_ck (mm_nz (100 : Int32)) (mm_bd1 (fX9_isOnTop N (1 : Int32) (x2 / (100 : Int32)) v_rowsOf v_columnsOf w_27 w_28 w_29) (fun (r_52 : Bool) =>
    if r_52 = false then
    (some ((0 : Int32), w_14, w_15, w_16, w_17, w_18, w_19, w_20, w_21, w_22, w_23, w_24, w_25, w_26, w_27, w_28, w_29, w_30, w_31, w_32, w_33, w_34, w_35, w_36, w_37))
    else (mm_ck (mm_nz (100 : Int32)) (mm_bd1 (fX9_isOnTop N (1 : Int32) (mm_rem x2 (100 : Int32)) v_rowsOf v_columnsOf w_27 w_28 w_29) (fun (r_56 : Bool) =>
    if r_56 = false then
    (some ((0 : Int32), w_14, w_15, w_16, w_17, w_18, w_19, w_20, w_21, w_22, w_23, w_24, w_25, w_26, w_27, w_28, w_29, w_30, w_31, w_32, w_33, w_34, w_35, w_36, w_37))
    else (some ((1 : Int32), w_14, w_15, w_16, w_17, w_18, w_19, w_20, w_21, w_22, w_23, w_24, w_25, w_26, w_27, w_28, w_29, w_30, w_31, w_32, w_33, w_34, w_35, w_36, w_37))))))))
    else (some ((0 : Int32), w_14, w_15, w_16, w_17, w_18, w_19, w_20, w_21, w_22, w_23, w_24, w_25, w_26, w_27, w_28, w_29, w_30, w_31, w_32, w_33, w_34, w_35, w_36, w_37)))))))))))))))))))))))) := rfl

set_option maxHeartbeats 4000000 in
set_option maxRecDepth 20000 in
theorem sf_X9_beside {N : Nat} (hN : 700 ≤ N) {u_row : List Int32} {u_col : List Int32} {u_sR : List Int32} {u_sC : List Int32} {A : Int} {B9 : Int} {a9 : Int} {b9 : Int} {x1 : Int32} {x2 : Int32} {v_rowsOf : Int32} {v_columnsOf : Int32} {v_textMany : Int32} {v_base : Int32} {v_at : Int32} {v_ends : Int32} {v_fault : Int32} {v_opened : Int32} {v_bentMany : Int32} {v_bentWrong : Int32} {v_moreWorn : Int32} {v_planned : Int32} {v_allWrong : Int32} {v_allWorn : Int32} {v_z : Int32} {v_limit : List Int32} {v_shapeRows : List Int32} {v_shapeColumns : List Int32} {v_row : List Int32} {v_column : List Int32} {v_below : List Int32} {v_face : List Int32} {v_worn : List Int32} {v_lastBend : List Int32} {v_tape : List Int32} {v_text : List Int32} {v_names : List Int32} {v_bends : List Int32} {v_high : List Int32} {v_to : List Int32} {v_pileSize : List Int32} {v_planLine : List Int32} {v_planWay : List Int32} (h_0 : 1 ≤ v_rowsOf.toInt) (h_1 : v_rowsOf.toInt ≤ 4) (h_2 : 1 ≤ v_columnsOf.toInt) (h_3 : v_columnsOf.toInt ≤ 8) (h_4 : -1 ≤ v_textMany.toInt) (h_5 : v_textMany.toInt ≤ 120) (h_6 : 0 ≤ v_planned.toInt) (h_7 : v_planned.toInt ≤ 12) (h_8 : v_limit.length = 1) (h_9 : v_shapeRows.length = 6) (h_10 : v_shapeColumns.length = 6) (h_11 : v_row.length = 192) (h_12 : v_column.length = 192) (h_13 : v_below.length = 192) (h_14 : v_face.length = 192) (h_15 : v_worn.length = 384) (h_16 : v_lastBend.length = 384) (h_17 : v_tape.length = 120) (h_18 : v_text.length = 120) (h_19 : v_names.length = 6) (h_20 : v_bends.length = 64) (h_21 : v_high.length = 32) (h_22 : v_to.length = 32) (h_23 : v_pileSize.length = 64) (h_24 : v_planLine.length = 12) (h_25 : v_planWay.length = 12) (h_26 : fr u_row v_row A B9) (h_27 : fr u_col v_column A B9) (h_28 : fr u_sR v_shapeRows a9 b9) (h_29 : fr u_sC v_shapeColumns a9 b9) (h_30 : A ≤ 32 * (1 : Int32).toInt) (h_31 : 32 * (1 : Int32).toInt + 32 ≤ B9) (h_32 : a9 ≤ (1 : Int32).toInt) (h_33 : (1 : Int32).toInt < b9) : wp (fX9_beside N x1 x2 v_rowsOf v_columnsOf v_textMany v_base v_at v_ends v_fault v_opened v_bentMany v_bentWrong v_moreWorn v_planned v_allWrong v_allWorn v_z v_limit v_shapeRows v_shapeColumns v_row v_column v_below v_face v_worn v_lastBend v_tape v_text v_names v_bends v_high v_to v_pileSize v_planLine v_planWay) (cu25 (fun (r : Int32) (wv_base : Int32) (wv_at : Int32) (wv_ends : Int32) (wv_fault : Int32) (wv_opened : Int32) (wv_bentMany : Int32) (wv_bentWrong : Int32) (wv_moreWorn : Int32) (wv_allWrong : Int32) (wv_allWorn : Int32) (wv_z : Int32) (wv_shapeRows : List Int32) (wv_shapeColumns : List Int32) (wv_row : List Int32) (wv_column : List Int32) (wv_below : List Int32) (wv_face : List Int32) (wv_worn : List Int32) (wv_lastBend : List Int32) (wv_names : List Int32) (wv_bends : List Int32) (wv_high : List Int32) (wv_to : List Int32) (wv_pileSize : List Int32) => wv_shapeRows.length = 6 ∧ wv_shapeColumns.length = 6 ∧ wv_row.length = 192 ∧ wv_column.length = 192 ∧ wv_below.length = 192 ∧ wv_face.length = 192 ∧ wv_worn.length = 384 ∧ wv_lastBend.length = 384 ∧ wv_names.length = 6 ∧ wv_bends.length = 64 ∧ wv_high.length = 32 ∧ wv_to.length = 32 ∧ wv_pileSize.length = 64 ∧ fr u_row wv_row A B9 ∧ fr u_col wv_column A B9 ∧ fr u_sR wv_shapeRows a9 b9 ∧ fr u_sC wv_shapeColumns a9 b9)) := by
  have m3 := (i_fl (a := v_rowsOf) (b := v_columnsOf) (by omega) (by omega) (by omega) (by omega)).2
  have n1z : (1 : Int32).toInt = 1 := by decide
  have hx1 : x1.toInt < 2147483648 := Int32.toInt_lt x1
  have hx2 : x2.toInt < 2147483648 := Int32.toInt_lt x2
  refine wp_of (uf_X9_beside _ _ _ _ _ _ _ _ _ _ _ _ _ _ _ _ _ _ _ _ _ _ _ _ _ _ _ _ _ _ _ _ _ _ _ _) ?_
  have n_2 : (0 : Int32).toInt = 0 := by decide
  refine wp_if (fun c_1 => ?_) (fun c_1 => ?_)
  ·
    have dc_1 := i_lt c_1
    exact wp_so25 ⟨h_9, h_10, h_11, h_12, h_13, h_14, h_15, h_16, h_19, h_20, h_21, h_22, h_23, h_26, h_27, h_28, h_29⟩
  ·
    have dc_1 := i_nlt c_1
    have n_3 : (100 : Int32).toInt = 100 := by decide
    refine wp_ck (i_nz (by omega)) ?_
    generalize hz_z : (x2 / (100 : Int32)) = z
    have e_4 := i_divL (c := 100) (by decide) (by decide) hz_z
    refine wp_bd1 (sf_X9_isField hN h_0 h_1 h_2 h_3) (fun r_3 q_5 => ?_)
    rcases q_5 with ⟨rfl, q_5⟩ | ⟨rfl, q_5⟩
    ·
      refine wp_ifn (by decide) ?_
      refine wp_ck (i_nz (by omega)) ?_
      generalize hz_z__6 : (mm_rem x2 (100 : Int32)) = z__6
      have e_7 := i_remL (c := 100) (by decide) (by decide) hz_z__6
      refine wp_bd1 (sf_X9_isField hN h_0 h_1 h_2 h_3) (fun r_7 q_8 => ?_)
      rcases q_8 with ⟨rfl, q_8⟩ | ⟨rfl, q_8⟩
      ·
        refine wp_ifn (by decide) ?_
        refine wp_ck (i_nz (by omega)) ?_
        refine wp_ck (i_nz (by omega)) ?_
        refine wp_if (fun c_9 => ?_) (fun c_9 => ?_)
        ·
          have dc_9 := i_eq c_9
          exact wp_so25 ⟨h_9, h_10, h_11, h_12, h_13, h_14, h_15, h_16, h_19, h_20, h_21, h_22, h_23, h_26, h_27, h_28, h_29⟩
        ·
          have dc_9 := i_ne c_9
          refine wp_bd25 (sf_X9_isBehind (u_row := u_row) (u_col := u_col) (u_sR := u_sR) (u_sC := u_sC) (A := A) (B9 := B9) (a9 := a9) (b9 := b9) hN h_0 h_1 h_2 h_3 h_4 h_5 h_6 h_7 h_8 h_9 h_10 h_11 h_12 h_13 h_14 h_15 h_16 h_17 h_18 h_19 h_20 h_21 h_22 h_23 h_24 h_25 h_26 h_27 h_28 h_29 h_30 h_31 h_32 h_33) (fun r_13 w_14 w_15 w_16 w_17 w_18 w_19 w_20 w_21 w_22 w_23 w_24 w_25 w_26 w_27 w_28 w_29 w_30 w_31 w_32 w_33 w_34 w_35 w_36 w_37 ⟨q_10, q_11, q_12, q_13, q_14, q_15, q_16, q_17, q_18, q_19, q_20, q_21, q_22, q_23, q_24, q_25, q_26⟩ => ?_)
          refine wp_if (fun c_27 => ?_) (fun c_27 => ?_)
          ·
            exact wp_so25 ⟨q_10, q_11, q_12, q_13, q_14, q_15, q_16, q_17, q_18, q_19, q_20, q_21, q_22, q_23, q_24, q_25, q_26⟩
          ·
            refine wp_ck (i_nz (by omega)) ?_
            have n_28 : (32 : Int32).toInt = 32 := by decide
            generalize hz_z__29 : ((32 : Int32) + z) = z__29
            first | have e_30 := i_addE hz_z__29 (by omega) (by omega) | obtain ⟨k_30, e_30, e1_30, e2_30⟩ := i_addY hz_z__29
            refine wp_ck (i_inb (by omega) (by omega)) ?_
            refine wp_ck (i_nz (by omega)) ?_
            generalize hz_z__31 : ((32 : Int32) + z__6) = z__31
            first | have e_32 := i_addE hz_z__31 (by omega) (by omega) | obtain ⟨k_32, e_32, e1_32, e2_32⟩ := i_addY hz_z__31
            refine wp_ck (i_inb (by omega) (by omega)) ?_
            refine wp_nm (fun y_44 _ => ?_)
            refine wp_ck (i_nz (by omega)) ?_
            refine wp_ck (i_inb (by omega) (by omega)) ?_
            refine wp_ck (i_nz (by omega)) ?_
            refine wp_ck (i_inb (by omega) (by omega)) ?_
            refine wp_nm (fun y_49 _ => ?_)
            generalize hz_z__34 : ((y_44 * y_44) + (y_49 * y_49)) = z__34
            first | have e_35 := i_addE hz_z__34 (by omega) (by omega) | obtain ⟨k_35, e_35, e1_35, e2_35⟩ := i_addY hz_z__34
            have n_36 : (1 : Int32).toInt = 1 := by decide
            refine wp_if (fun c_33 => ?_) (fun c_33 => ?_)
            ·
              have dc_33 := i_eq c_33
              refine wp_ck (i_nz (by omega)) ?_
              refine wp_bd1 (sf_X9_isOnTop hN h_0 h_1 h_2 h_3 q_12 q_13 q_14 (by omega) (by omega) (by omega) (by omega)) (fun r_52 _ => ?_)
              refine wp_if (fun c_37 => ?_) (fun c_37 => ?_)
              ·
                exact wp_so25 ⟨q_10, q_11, q_12, q_13, q_14, q_15, q_16, q_17, q_18, q_19, q_20, q_21, q_22, q_23, q_24, q_25, q_26⟩
              ·
                refine wp_ck (i_nz (by omega)) ?_
                refine wp_bd1 (sf_X9_isOnTop hN h_0 h_1 h_2 h_3 q_12 q_13 q_14 (by omega) (by omega) (by omega) (by omega)) (fun r_56 _ => ?_)
                refine wp_if (fun c_38 => ?_) (fun c_38 => ?_)
                ·
                  exact wp_so25 ⟨q_10, q_11, q_12, q_13, q_14, q_15, q_16, q_17, q_18, q_19, q_20, q_21, q_22, q_23, q_24, q_25, q_26⟩
                ·
                  exact wp_so25 ⟨q_10, q_11, q_12, q_13, q_14, q_15, q_16, q_17, q_18, q_19, q_20, q_21, q_22, q_23, q_24, q_25, q_26⟩
            ·
              have dc_33 := i_ne c_33
              exact wp_so25 ⟨q_10, q_11, q_12, q_13, q_14, q_15, q_16, q_17, q_18, q_19, q_20, q_21, q_22, q_23, q_24, q_25, q_26⟩
      ·
        refine wp_ifp (by decide) ?_
        exact wp_so25 ⟨h_9, h_10, h_11, h_12, h_13, h_14, h_15, h_16, h_19, h_20, h_21, h_22, h_23, h_26, h_27, h_28, h_29⟩
    ·
      refine wp_ifp (by decide) ?_
      exact wp_so25 ⟨h_9, h_10, h_11, h_12, h_13, h_14, h_15, h_16, h_19, h_20, h_21, h_22, h_23, h_26, h_27, h_28, h_29⟩

theorem uf_X9_wind_53 (N : Nat) (n : Nat) (x2 : Int32) (x3 : Int32) (x4 : Int32) (x5 : Int32) (v_rowsOf : Int32) (v_columnsOf : Int32) (v_textMany : Int32) (v_base : Int32) (v_at : Int32) (v_ends : Int32) (v_fault : Int32) (v_opened : Int32) (v_bentMany : Int32) (v_bentWrong : Int32) (v_moreWorn : Int32) (v_planned : Int32) (v_allWrong : Int32) (v_allWorn : Int32) (v_z : Int32) (v_limit : List Int32) (v_shapeRows : List Int32) (v_shapeColumns : List Int32) (v_row : List Int32) (v_column : List Int32) (v_below : List Int32) (v_face : List Int32) (v_worn : List Int32) (v_lastBend : List Int32) (v_tape : List Int32) (v_text : List Int32) (v_names : List Int32) (v_bends : List Int32) (v_high : List Int32) (v_to : List Int32) (v_pileSize : List Int32) (v_planLine : List Int32) (v_planWay : List Int32) : fX9_wind_53 N (n + 1) x2 x3 x4 x5 v_rowsOf v_columnsOf v_textMany v_base v_at v_ends v_fault v_opened v_bentMany v_bentWrong v_moreWorn v_planned v_allWrong v_allWorn v_z v_limit v_shapeRows v_shapeColumns v_row v_column v_below v_face v_worn v_lastBend v_tape v_text v_names v_bends v_high v_to v_pileSize v_planLine v_planWay = 
    mm_ck (mm_nz (1000 : Int32)) (if (x2 / (1000 : Int32)) ≤ x5 then
    (mm_ck (mm_nz (1000 : Int32)) (mm_ck (mm_nz (x2 / (1000 : Int32))) (some ((x4 / (x2 / (1000 : Int32))), v_base, v_at, v_ends, v_fault, v_opened, v_bentMany, v_bentWrong, v_moreWorn, v_allWrong, v_allWorn, v_z, v_shapeRows, v_shapeColumns, v_row, v_column, v_below, v_face, v_worn, v_lastBend, v_names, v_bends, v_high, v_to, v_pileSize))))
    else (mm_ck (mm_nz (1000 : Int32)) (mm_bd25 (fX9_goesPlan N (12 : Int32) (mm_rem x2 (1000 : Int32)) v_rowsOf v_columnsOf v_textMany v_base v_at v_ends v_fault v_opened v_bentMany v_bentWrong v_moreWorn v_planned v_allWrong v_allWorn v_z v_limit v_shapeRows v_shapeColumns v_row v_column v_below v_face v_worn v_lastBend v_tape v_text v_names v_bends v_high v_to v_pileSize v_planLine v_planWay) (fun (r_16 : Int32) (w_17 : Int32) (w_18 : Int32) (w_19 : Int32) (w_20 : Int32) (w_21 : Int32) (w_22 : Int32) (w_23 : Int32) (w_24 : Int32) (w_25 : Int32) (w_26 : Int32) (w_27 : Int32) (w_28 : List Int32) (w_29 : List Int32) (w_30 : List Int32) (w_31 : List Int32) (w_32 : List Int32) (w_33 : List Int32) (w_34 : List Int32) (w_35 : List Int32) (w_36 : List Int32) (w_37 : List Int32) (w_38 : List Int32) (w_39 : List Int32) (w_40 : List Int32) =>
    if x3 = 0 then
    (fX9_wind_93 N (fX9_wind_53 N n) x2 x3 x5 w_25 x4 v_rowsOf v_columnsOf v_textMany w_17 w_18 w_19 w_20 w_21 w_22 w_23 w_24 v_planned w_25 w_26 w_27 v_limit w_28 w_29 w_30 w_31 w_32 w_33 w_34 w_35 v_tape v_text w_36 w_37 w_38 w_39 w_40 v_planLine v_planWay)
    else (fX9_wind_93 N (fX9_wind_53 N n) x2 x3 x5 w_26 x4 v_rowsOf v_columnsOf v_textMany w_17 w_18 w_19 w_20 w_21 w_22 w_23 w_24 v_planned w_25 w_26 w_27 v_limit w_28 w_29 w_30 w_31 w_32 w_33 w_34 w_35 v_tape v_text w_36 w_37 w_38 w_39 w_40 v_planLine v_planWay))))) := rfl

theorem uf_X9_wind_93 (N : Nat) (k_53 : Int32 → Int32 → Int32 → Int32 → Int32 → Int32 → Int32 → Int32 → Int32 → Int32 → Int32 → Int32 → Int32 → Int32 → Int32 → Int32 → Int32 → Int32 → Int32 → List Int32 → List Int32 → List Int32 → List Int32 → List Int32 → List Int32 → List Int32 → List Int32 → List Int32 → List Int32 → List Int32 → List Int32 → List Int32 → List Int32 → List Int32 → List Int32 → List Int32 → List Int32 → Option (Int32 × Int32 × Int32 × Int32 × Int32 × Int32 × Int32 × Int32 × Int32 × Int32 × Int32 × Int32 × List Int32 × List Int32 × List Int32 × List Int32 × List Int32 × List Int32 × List Int32 × List Int32 × List Int32 × List Int32 × List Int32 × List Int32 × List Int32)) (x2 : Int32) (x3 : Int32) (x5 : Int32) (s0 : Int32) (s1 : Int32) (v_rowsOf : Int32) (v_columnsOf : Int32) (v_textMany : Int32) (v_base : Int32) (v_at : Int32) (v_ends : Int32) (v_fault : Int32) (v_opened : Int32) (v_bentMany : Int32) (v_bentWrong : Int32) (v_moreWorn : Int32) (v_planned : Int32) (v_allWrong : Int32) (v_allWorn : Int32) (v_z : Int32) (v_limit : List Int32) (v_shapeRows : List Int32) (v_shapeColumns : List Int32) (v_row : List Int32) (v_column : List Int32) (v_below : List Int32) (v_face : List Int32) (v_worn : List Int32) (v_lastBend : List Int32) (v_tape : List Int32) (v_text : List Int32) (v_names : List Int32) (v_bends : List Int32) (v_high : List Int32) (v_to : List Int32) (v_pileSize : List Int32) (v_planLine : List Int32) (v_planWay : List Int32) : fX9_wind_93 N k_53 x2 x3 x5 s0 s1 v_rowsOf v_columnsOf v_textMany v_base v_at v_ends v_fault v_opened v_bentMany v_bentWrong v_moreWorn v_planned v_allWrong v_allWorn v_z v_limit v_shapeRows v_shapeColumns v_row v_column v_below v_face v_worn v_lastBend v_tape v_text v_names v_bends v_high v_to v_pileSize v_planLine v_planWay = mm_nm ((s1 + s0)) (fun (y_43 : Int32) =>
    mm_nm (x5 + (1 : Int32)) (fun (y_44 : Int32) =>
    k_53 x2 x3 y_43 y_44 v_rowsOf v_columnsOf v_textMany v_base v_at v_ends v_fault v_opened v_bentMany v_bentWrong v_moreWorn v_planned v_allWrong v_allWorn v_z v_limit v_shapeRows v_shapeColumns v_row v_column v_below v_face v_worn v_lastBend v_tape v_text v_names v_bends v_high v_to v_pileSize v_planLine v_planWay)) := rfl

set_option maxHeartbeats 4000000 in
set_option maxRecDepth 20000 in
theorem sf_X9_wind_53 {N : Nat} (hN : 700 ≤ N) {u_row : List Int32} {u_col : List Int32} {u_sR : List Int32} {u_sC : List Int32} {A : Int} {B9 : Int} {a9 : Int} {b9 : Int} : ∀ (n : Nat) (x2 : Int32) (x3 : Int32) (x4 : Int32) (x5 : Int32) (v_rowsOf : Int32) (v_columnsOf : Int32) (v_textMany : Int32) (v_base : Int32) (v_at : Int32) (v_ends : Int32) (v_fault : Int32) (v_opened : Int32) (v_bentMany : Int32) (v_bentWrong : Int32) (v_moreWorn : Int32) (v_planned : Int32) (v_allWrong : Int32) (v_allWorn : Int32) (v_z : Int32) (v_limit : List Int32) (v_shapeRows : List Int32) (v_shapeColumns : List Int32) (v_row : List Int32) (v_column : List Int32) (v_below : List Int32) (v_face : List Int32) (v_worn : List Int32) (v_lastBend : List Int32) (v_tape : List Int32) (v_text : List Int32) (v_names : List Int32) (v_bends : List Int32) (v_high : List Int32) (v_to : List Int32) (v_pileSize : List Int32) (v_planLine : List Int32) (v_planWay : List Int32), 1 ≤ v_rowsOf.toInt → v_rowsOf.toInt ≤ 4 → 1 ≤ v_columnsOf.toInt → v_columnsOf.toInt ≤ 8 → -1 ≤ v_textMany.toInt → v_textMany.toInt ≤ 120 → 0 ≤ v_planned.toInt → v_planned.toInt ≤ 12 → v_limit.length = 1 → v_shapeRows.length = 6 → v_shapeColumns.length = 6 → v_row.length = 192 → v_column.length = 192 → v_below.length = 192 → v_face.length = 192 → v_worn.length = 384 → v_lastBend.length = 384 → v_tape.length = 120 → v_text.length = 120 → v_names.length = 6 → v_bends.length = 64 → v_high.length = 32 → v_to.length = 32 → v_pileSize.length = 64 → v_planLine.length = 12 → v_planWay.length = 12 → fr u_row v_row A B9 → fr u_col v_column A B9 → fr u_sR v_shapeRows a9 b9 → fr u_sC v_shapeColumns a9 b9 → A ≤ 32 * (1 : Int32).toInt → 32 * (1 : Int32).toInt + 32 ≤ B9 → a9 ≤ (1 : Int32).toInt → (1 : Int32).toInt < b9 → 1000 ≤ x2.toInt → x2.toInt ≤ 20999 → 0 ≤ x5.toInt → x5.toInt ≤ 21 → (22 - x5.toInt).toNat < n → wp (fX9_wind_53 N n x2 x3 x4 x5 v_rowsOf v_columnsOf v_textMany v_base v_at v_ends v_fault v_opened v_bentMany v_bentWrong v_moreWorn v_planned v_allWrong v_allWorn v_z v_limit v_shapeRows v_shapeColumns v_row v_column v_below v_face v_worn v_lastBend v_tape v_text v_names v_bends v_high v_to v_pileSize v_planLine v_planWay) (cu25 (fun (r : Int32) (wv_base : Int32) (wv_at : Int32) (wv_ends : Int32) (wv_fault : Int32) (wv_opened : Int32) (wv_bentMany : Int32) (wv_bentWrong : Int32) (wv_moreWorn : Int32) (wv_allWrong : Int32) (wv_allWorn : Int32) (wv_z : Int32) (wv_shapeRows : List Int32) (wv_shapeColumns : List Int32) (wv_row : List Int32) (wv_column : List Int32) (wv_below : List Int32) (wv_face : List Int32) (wv_worn : List Int32) (wv_lastBend : List Int32) (wv_names : List Int32) (wv_bends : List Int32) (wv_high : List Int32) (wv_to : List Int32) (wv_pileSize : List Int32) => wv_shapeRows.length = 6 ∧ wv_shapeColumns.length = 6 ∧ wv_row.length = 192 ∧ wv_column.length = 192 ∧ wv_below.length = 192 ∧ wv_face.length = 192 ∧ wv_worn.length = 384 ∧ wv_lastBend.length = 384 ∧ wv_names.length = 6 ∧ wv_bends.length = 64 ∧ wv_high.length = 32 ∧ wv_to.length = 32 ∧ wv_pileSize.length = 64 ∧ fr u_row wv_row A B9 ∧ fr u_col wv_column A B9 ∧ fr u_sR wv_shapeRows a9 b9 ∧ fr u_sC wv_shapeColumns a9 b9)) := by
  intro n
  induction n with
  | zero =>
    intro x2 x3 x4 x5 v_rowsOf v_columnsOf v_textMany v_base v_at v_ends v_fault v_opened v_bentMany v_bentWrong v_moreWorn v_planned v_allWrong v_allWorn v_z v_limit v_shapeRows v_shapeColumns v_row v_column v_below v_face v_worn v_lastBend v_tape v_text v_names v_bends v_high v_to v_pileSize v_planLine v_planWay h_0 h_1 h_2 h_3 h_4 h_5 h_6 h_7 h_8 h_9 h_10 h_11 h_12 h_13 h_14 h_15 h_16 h_17 h_18 h_19 h_20 h_21 h_22 h_23 h_24 h_25 h_26 h_27 h_28 h_29 h_30 h_31 h_32 h_33 h_34 h_35 h_36 h_37 hm
    exact absurd hm (by omega)
  | succ n ih =>
    intro x2 x3 x4 x5 v_rowsOf v_columnsOf v_textMany v_base v_at v_ends v_fault v_opened v_bentMany v_bentWrong v_moreWorn v_planned v_allWrong v_allWorn v_z v_limit v_shapeRows v_shapeColumns v_row v_column v_below v_face v_worn v_lastBend v_tape v_text v_names v_bends v_high v_to v_pileSize v_planLine v_planWay h_0 h_1 h_2 h_3 h_4 h_5 h_6 h_7 h_8 h_9 h_10 h_11 h_12 h_13 h_14 h_15 h_16 h_17 h_18 h_19 h_20 h_21 h_22 h_23 h_24 h_25 h_26 h_27 h_28 h_29 h_30 h_31 h_32 h_33 h_34 h_35 h_36 h_37 hm
    refine wp_of (uf_X9_wind_53 _ _ _ _ _ _ _ _ _ _ _ _ _ _ _ _ _ _ _ _ _ _ _ _ _ _ _ _ _ _ _ _ _ _ _ _ _ _ _) ?_
    have n_1 : (1000 : Int32).toInt = 1000 := by decide
    refine wp_ck (i_nz (by omega)) ?_
    generalize hz_z : (x2 / (1000 : Int32)) = z
    have e_3 := i_divE (c := 1000) (by decide) (by decide) hz_z (by omega)
    refine wp_if (fun c_2 => ?_) (fun c_2 => ?_)
    ·
      have dc_2 := i_le c_2
      refine wp_ck (i_nz (by omega)) ?_
      refine wp_ck (i_nz (by omega)) ?_
      exact wp_so25 ⟨h_9, h_10, h_11, h_12, h_13, h_14, h_15, h_16, h_19, h_20, h_21, h_22, h_23, h_26, h_27, h_28, h_29⟩
    ·
      have dc_2 := i_nle c_2
      refine wp_ck (i_nz (by omega)) ?_
      refine wp_bd25 (sf_X9_goesPlan (u_row := u_row) (u_col := u_col) (u_sR := u_sR) (u_sC := u_sC) (A := A) (B9 := B9) (a9 := a9) (b9 := b9) hN h_0 h_1 h_2 h_3 h_4 h_5 h_6 h_7 h_8 h_9 h_10 h_11 h_12 h_13 h_14 h_15 h_16 h_17 h_18 h_19 h_20 h_21 h_22 h_23 h_24 h_25 h_26 h_27 h_28 h_29 h_30 h_31 h_32 h_33) (fun r_16 w_17 w_18 w_19 w_20 w_21 w_22 w_23 w_24 w_25 w_26 w_27 w_28 w_29 w_30 w_31 w_32 w_33 w_34 w_35 w_36 w_37 w_38 w_39 w_40 ⟨q_4, q_5, q_6, q_7, q_8, q_9, q_10, q_11, q_12, q_13, q_14, q_15, q_16, q_17, q_18, q_19, q_20, q_21⟩ => ?_)
      have n_23 : (0 : Int32).toInt = 0 := by decide
      refine wp_if (fun c_22 => ?_) (fun c_22 => ?_)
      ·
        have dc_22 := i_eq c_22
        refine wp_of (uf_X9_wind_93 _ _ _ _ _ _ _ _ _ _ _ _ _ _ _ _ _ _ _ _ _ _ _ _ _ _ _ _ _ _ _ _ _ _ _ _ _ _ _ _) ?_
        refine wp_nm (fun y_43 _ => ?_)
        have n_24 : (1 : Int32).toInt = 1 := by decide
        refine wp_nm (fun y_44 h_y_44 => ?_)
        have e_25 := i_addE h_y_44.symm (by omega) (by omega)
        exact ih _ _ _ _ _ _ _ _ _ _ _ _ _ _ _ _ _ _ _ _ _ _ _ _ _ _ _ _ _ _ _ _ _ _ _ _ _ h_0 h_1 h_2 h_3 h_4 h_5 h_6 h_7 h_8 q_4 q_5 q_6 q_7 q_8 q_9 q_10 q_11 h_17 h_18 q_12 q_13 q_14 q_15 q_16 h_24 h_25 q_17 q_18 q_19 q_20 h_30 h_31 h_32 h_33 h_34 h_35 (by omega) (by omega) (by omega)
      ·
        have dc_22 := i_ne c_22
        refine wp_of (uf_X9_wind_93 _ _ _ _ _ _ _ _ _ _ _ _ _ _ _ _ _ _ _ _ _ _ _ _ _ _ _ _ _ _ _ _ _ _ _ _ _ _ _ _) ?_
        refine wp_nm (fun y_43__26 _ => ?_)
        have n_28 : (1 : Int32).toInt = 1 := by decide
        refine wp_nm (fun y_44__27 h_y_44__27 => ?_)
        have e_29 := i_addE h_y_44__27.symm (by omega) (by omega)
        exact ih _ _ _ _ _ _ _ _ _ _ _ _ _ _ _ _ _ _ _ _ _ _ _ _ _ _ _ _ _ _ _ _ _ _ _ _ _ h_0 h_1 h_2 h_3 h_4 h_5 h_6 h_7 h_8 q_4 q_5 q_6 q_7 q_8 q_9 q_10 q_11 h_17 h_18 q_12 q_13 q_14 q_15 q_16 h_24 h_25 q_17 q_18 q_19 q_20 h_30 h_31 h_32 h_33 h_34 h_35 (by omega) (by omega) (by omega)

theorem uf_X9_wind (N : Nat) (x1 : Int32) (x2 : Int32) (x3 : Int32) (v_rowsOf : Int32) (v_columnsOf : Int32) (v_textMany : Int32) (v_base : Int32) (v_at : Int32) (v_ends : Int32) (v_fault : Int32) (v_opened : Int32) (v_bentMany : Int32) (v_bentWrong : Int32) (v_moreWorn : Int32) (v_planned : Int32) (v_allWrong : Int32) (v_allWorn : Int32) (v_z : Int32) (v_limit : List Int32) (v_shapeRows : List Int32) (v_shapeColumns : List Int32) (v_row : List Int32) (v_column : List Int32) (v_below : List Int32) (v_face : List Int32) (v_worn : List Int32) (v_lastBend : List Int32) (v_tape : List Int32) (v_text : List Int32) (v_names : List Int32) (v_bends : List Int32) (v_high : List Int32) (v_to : List Int32) (v_pileSize : List Int32) (v_planLine : List Int32) (v_planWay : List Int32) : fX9_wind N x1 x2 x3 v_rowsOf v_columnsOf v_textMany v_base v_at v_ends v_fault v_opened v_bentMany v_bentWrong v_moreWorn v_planned v_allWrong v_allWorn v_z v_limit v_shapeRows v_shapeColumns v_row v_column v_below v_face v_worn v_lastBend v_tape v_text v_names v_bends v_high v_to v_pileSize v_planLine v_planWay = if x2 < 0 then
    (some ((-1 : Int32), v_base, v_at, v_ends, v_fault, v_opened, v_bentMany, v_bentWrong, v_moreWorn, v_allWrong, v_allWorn, v_z, v_shapeRows, v_shapeColumns, v_row, v_column, v_below, v_face, v_worn, v_lastBend, v_names, v_bends, v_high, v_to, v_pileSize))
    else (mm_ck (mm_nz (1000 : Int32)) (mm_bd1 (fX9_within N ((x2 / (1000 : Int32)).toInt64) (1 : Int64) (20 : Int64)) (fun (r_3 : Bool) =>
    if r_3 = false then
    (some ((-1 : Int32), v_base, v_at, v_ends, v_fault, v_opened, v_bentMany, v_bentWrong, v_moreWorn, v_allWrong, v_allWorn, v_z, v_shapeRows, v_shapeColumns, v_row, v_column, v_below, v_face, v_worn, v_lastBend, v_names, v_bends, v_high, v_to, v_pileSize))
    else (mm_ck (mm_nz (1000 : Int32)) (if (100 : Int32) < (mm_rem x2 (1000 : Int32)) then
    (some ((-1 : Int32), v_base, v_at, v_ends, v_fault, v_opened, v_bentMany, v_bentWrong, v_moreWorn, v_allWrong, v_allWorn, v_z, v_shapeRows, v_shapeColumns, v_row, v_column, v_below, v_face, v_worn, v_lastBend, v_names, v_bends, v_high, v_to, v_pileSize))
    else (mm_bd1 (fX9_within N ((x3).toInt64) (0 : Int64) (1 : Int64)) (fun (r_8 : Bool) =>
    if r_8 = false then
    (some ((-1 : Int32), v_base, v_at, v_ends, v_fault, v_opened, v_bentMany, v_bentWrong, v_moreWorn, v_allWrong, v_allWorn, v_z, v_shapeRows, v_shapeColumns, v_row, v_column, v_below, v_face, v_worn, v_lastBend, v_names, v_bends, v_high, v_to, v_pileSize))
    else (fX9_wind_53 N N x2 x3 (0 : Int32) (0 : Int32) v_rowsOf v_columnsOf v_textMany v_base v_at v_ends v_fault v_opened v_bentMany v_bentWrong v_moreWorn v_planned v_allWrong v_allWorn x1 v_limit v_shapeRows v_shapeColumns v_row v_column v_below v_face v_worn v_lastBend v_tape v_text v_names v_bends v_high v_to v_pileSize v_planLine v_planWay)))))))) := rfl

set_option maxHeartbeats 4000000 in
set_option maxRecDepth 20000 in
theorem sf_X9_wind {N : Nat} (hN : 700 ≤ N) {u_row : List Int32} {u_col : List Int32} {u_sR : List Int32} {u_sC : List Int32} {A : Int} {B9 : Int} {a9 : Int} {b9 : Int} {x1 : Int32} {x2 : Int32} {x3 : Int32} {v_rowsOf : Int32} {v_columnsOf : Int32} {v_textMany : Int32} {v_base : Int32} {v_at : Int32} {v_ends : Int32} {v_fault : Int32} {v_opened : Int32} {v_bentMany : Int32} {v_bentWrong : Int32} {v_moreWorn : Int32} {v_planned : Int32} {v_allWrong : Int32} {v_allWorn : Int32} {v_z : Int32} {v_limit : List Int32} {v_shapeRows : List Int32} {v_shapeColumns : List Int32} {v_row : List Int32} {v_column : List Int32} {v_below : List Int32} {v_face : List Int32} {v_worn : List Int32} {v_lastBend : List Int32} {v_tape : List Int32} {v_text : List Int32} {v_names : List Int32} {v_bends : List Int32} {v_high : List Int32} {v_to : List Int32} {v_pileSize : List Int32} {v_planLine : List Int32} {v_planWay : List Int32} (h_0 : 1 ≤ v_rowsOf.toInt) (h_1 : v_rowsOf.toInt ≤ 4) (h_2 : 1 ≤ v_columnsOf.toInt) (h_3 : v_columnsOf.toInt ≤ 8) (h_4 : -1 ≤ v_textMany.toInt) (h_5 : v_textMany.toInt ≤ 120) (h_6 : 0 ≤ v_planned.toInt) (h_7 : v_planned.toInt ≤ 12) (h_8 : v_limit.length = 1) (h_9 : v_shapeRows.length = 6) (h_10 : v_shapeColumns.length = 6) (h_11 : v_row.length = 192) (h_12 : v_column.length = 192) (h_13 : v_below.length = 192) (h_14 : v_face.length = 192) (h_15 : v_worn.length = 384) (h_16 : v_lastBend.length = 384) (h_17 : v_tape.length = 120) (h_18 : v_text.length = 120) (h_19 : v_names.length = 6) (h_20 : v_bends.length = 64) (h_21 : v_high.length = 32) (h_22 : v_to.length = 32) (h_23 : v_pileSize.length = 64) (h_24 : v_planLine.length = 12) (h_25 : v_planWay.length = 12) (h_26 : fr u_row v_row A B9) (h_27 : fr u_col v_column A B9) (h_28 : fr u_sR v_shapeRows a9 b9) (h_29 : fr u_sC v_shapeColumns a9 b9) (h_30 : A ≤ 32 * (1 : Int32).toInt) (h_31 : 32 * (1 : Int32).toInt + 32 ≤ B9) (h_32 : a9 ≤ (1 : Int32).toInt) (h_33 : (1 : Int32).toInt < b9) : wp (fX9_wind N x1 x2 x3 v_rowsOf v_columnsOf v_textMany v_base v_at v_ends v_fault v_opened v_bentMany v_bentWrong v_moreWorn v_planned v_allWrong v_allWorn v_z v_limit v_shapeRows v_shapeColumns v_row v_column v_below v_face v_worn v_lastBend v_tape v_text v_names v_bends v_high v_to v_pileSize v_planLine v_planWay) (cu25 (fun (r : Int32) (wv_base : Int32) (wv_at : Int32) (wv_ends : Int32) (wv_fault : Int32) (wv_opened : Int32) (wv_bentMany : Int32) (wv_bentWrong : Int32) (wv_moreWorn : Int32) (wv_allWrong : Int32) (wv_allWorn : Int32) (wv_z : Int32) (wv_shapeRows : List Int32) (wv_shapeColumns : List Int32) (wv_row : List Int32) (wv_column : List Int32) (wv_below : List Int32) (wv_face : List Int32) (wv_worn : List Int32) (wv_lastBend : List Int32) (wv_names : List Int32) (wv_bends : List Int32) (wv_high : List Int32) (wv_to : List Int32) (wv_pileSize : List Int32) => wv_shapeRows.length = 6 ∧ wv_shapeColumns.length = 6 ∧ wv_row.length = 192 ∧ wv_column.length = 192 ∧ wv_below.length = 192 ∧ wv_face.length = 192 ∧ wv_worn.length = 384 ∧ wv_lastBend.length = 384 ∧ wv_names.length = 6 ∧ wv_bends.length = 64 ∧ wv_high.length = 32 ∧ wv_to.length = 32 ∧ wv_pileSize.length = 64 ∧ fr u_row wv_row A B9 ∧ fr u_col wv_column A B9 ∧ fr u_sR wv_shapeRows a9 b9 ∧ fr u_sC wv_shapeColumns a9 b9)) := by
  refine wp_of (uf_X9_wind _ _ _ _ _ _ _ _ _ _ _ _ _ _ _ _ _ _ _ _ _ _ _ _ _ _ _ _ _ _ _ _ _ _ _ _ _) ?_
  have n_2 : (0 : Int32).toInt = 0 := by decide
  refine wp_if (fun c_1 => ?_) (fun c_1 => ?_)
  ·
    have dc_1 := i_lt c_1
    exact wp_so25 ⟨h_9, h_10, h_11, h_12, h_13, h_14, h_15, h_16, h_19, h_20, h_21, h_22, h_23, h_26, h_27, h_28, h_29⟩
  ·
    have dc_1 := i_nlt c_1
    have n_3 : (1000 : Int32).toInt = 1000 := by decide
    refine wp_ck (i_nz (by omega)) ?_
    generalize hz_z : (x2 / (1000 : Int32)) = z
    have e_4 := i_divL (c := 1000) (by decide) (by decide) hz_z
    have n_5 := i_64 z
    have n_6 : (1 : Int64).toInt = 1 := by decide
    have n_7 : (20 : Int64).toInt = 20 := by decide
    refine wp_bd1 (sf_X9_within hN ) (fun r_3 q_8 => ?_)
    rcases q_8 with ⟨rfl, q_8⟩ | ⟨rfl, q_8⟩
    ·
      refine wp_ifn (by decide) ?_
      refine wp_ck (i_nz (by omega)) ?_
      have n_10 : (100 : Int32).toInt = 100 := by decide
      generalize hz_z__11 : (mm_rem x2 (1000 : Int32)) = z__11
      have e_12 := i_remL (c := 1000) (by decide) (by decide) hz_z__11
      refine wp_if (fun c_9 => ?_) (fun c_9 => ?_)
      ·
        have dc_9 := i_lt c_9
        exact wp_so25 ⟨h_9, h_10, h_11, h_12, h_13, h_14, h_15, h_16, h_19, h_20, h_21, h_22, h_23, h_26, h_27, h_28, h_29⟩
      ·
        have dc_9 := i_nlt c_9
        have n_13 := i_64 x3
        have n_14 : (0 : Int64).toInt = 0 := by decide
        refine wp_bd1 (sf_X9_within hN ) (fun r_8 q_15 => ?_)
        rcases q_15 with ⟨rfl, q_15⟩ | ⟨rfl, q_15⟩
        ·
          refine wp_ifn (by decide) ?_
          exact sf_X9_wind_53 (u_row := u_row) (u_col := u_col) (u_sR := u_sR) (u_sC := u_sC) (A := A) (B9 := B9) (a9 := a9) (b9 := b9) hN _ _ _ _ _ _ _ _ _ _ _ _ _ _ _ _ _ _ _ _ _ _ _ _ _ _ _ _ _ _ _ _ _ _ _ _ _ _ h_0 h_1 h_2 h_3 h_4 h_5 h_6 h_7 h_8 h_9 h_10 h_11 h_12 h_13 h_14 h_15 h_16 h_17 h_18 h_19 h_20 h_21 h_22 h_23 h_24 h_25 h_26 h_27 h_28 h_29 h_30 h_31 h_32 h_33 (by omega) (by omega) (by omega) (by omega) (by omega)
        ·
          refine wp_ifp (by decide) ?_
          exact wp_so25 ⟨h_9, h_10, h_11, h_12, h_13, h_14, h_15, h_16, h_19, h_20, h_21, h_22, h_23, h_26, h_27, h_28, h_29⟩
    ·
      refine wp_ifp (by decide) ?_
      exact wp_so25 ⟨h_9, h_10, h_11, h_12, h_13, h_14, h_15, h_16, h_19, h_20, h_21, h_22, h_23, h_26, h_27, h_28, h_29⟩
