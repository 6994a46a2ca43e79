/-! safe -/
theorem uf_X9_searches (N : Nat) (x1 : Int32) (v_rowsOf : Int32) (v_columnsOf : Int32) (v_textMany : Int32) (v_base : Int32) (v_at : Int32) (v_ends : Int32) (v_fault : Int32) (v_opened : Int32) (v_bentMany : Int32) (v_bentWrong : Int32) (v_moreWorn : Int32) (v_wishedField : Int32) (v_isFound : Bool) (v_bestWrong : Int32) (v_bestWorn : Int32) (v_bestMany : Int32) (v_limit : List Int32) (v_shapeRows : List Int32) (v_shapeColumns : List Int32) (v_row : List Int32) (v_column : List Int32) (v_below : List Int32) (v_face : List Int32) (v_worn : List Int32) (v_lastBend : List Int32) (v_tape : List Int32) (v_text : List Int32) (v_names : List Int32) (v_bends : List Int32) (v_high : List Int32) (v_to : List Int32) (v_pileSize : List Int32) (v_way1 : List Int32) (v_bestWay : List Int32) : fX9_searches N x1 v_rowsOf v_columnsOf v_textMany v_base v_at v_ends v_fault v_opened v_bentMany v_bentWrong v_moreWorn v_wishedField v_isFound v_bestWrong v_bestWorn v_bestMany v_limit v_shapeRows v_shapeColumns v_row v_column v_below v_face v_worn v_lastBend v_tape v_text v_names v_bends v_high v_to v_pileSize v_way1 v_bestWay = mm_bd8 (fX9_startsAt N (1 : Int32) v_rowsOf v_columnsOf v_shapeRows v_shapeColumns v_row v_column v_below v_face v_worn v_lastBend) (fun (w_1 : List Int32) (w_2 : List Int32) (w_3 : List Int32) (w_4 : List Int32) (w_5 : List Int32) (w_6 : List Int32) (w_7 : List Int32) (w_8 : List Int32) =>
    mm_bd27 (fX9_goesDeeper N 5 (0 : Int32) (0 : Int32) (0 : Int32) v_rowsOf v_columnsOf v_textMany v_base v_at v_ends v_fault v_opened v_bentMany v_bentWrong v_moreWorn x1 false (0 : Int32) (0 : Int32) (0 : Int32) v_limit w_1 w_2 w_3 w_4 w_5 w_6 w_7 w_8 v_tape v_text v_names v_bends v_high v_to v_pileSize v_way1 v_bestWay) (fun (w_10 : Int32) (w_11 : Int32) (w_12 : Int32) (w_13 : Int32) (w_14 : Int32) (w_15 : Int32) (w_16 : Int32) (w_17 : Int32) (w_18 : Bool) (w_19 : Int32) (w_20 : Int32) (w_21 : Int32) (w_22 : List Int32) (w_23 : List Int32) (w_24 : List Int32) (w_25 : List Int32) (w_26 : List Int32) (w_27 : List Int32) (w_28 : List Int32) (w_29 : List Int32) (w_30 : List Int32) (w_31 : List Int32) (w_32 : List Int32) (w_33 : List Int32) (w_34 : List Int32) (w_35 : List Int32) (w_36 : List Int32) =>
    some (w_10, w_11, w_12, w_13, w_14, w_15, w_16, w_17, x1, w_18, w_19, w_20, w_21, w_22, w_23, w_24, w_25, w_26, w_27, w_28, w_29, w_30, w_31, w_32, w_33, w_34, w_35, w_36))) := rfl

set_option maxHeartbeats 4000000 in
set_option maxRecDepth 20000 in
theorem sf_X9_searches {N : Nat} (hN : 700 ≤ N) {u_row : List Int32} {u_col : List Int32} {u_sR : List Int32} {u_sC : List Int32} {A : Int} {B9 : Int} {a9 : Int} {b9 : Int} {x1 : Int32} {v_rowsOf : Int32} {v_columnsOf : Int32} {v_textMany : Int32} {v_base : Int32} {v_at : Int32} {v_ends : Int32} {v_fault : Int32} {v_opened : Int32} {v_bentMany : Int32} {v_bentWrong : Int32} {v_moreWorn : Int32} {v_wishedField : Int32} {v_isFound : Bool} {v_bestWrong : Int32} {v_bestWorn : Int32} {v_bestMany : Int32} {v_limit : List Int32} {v_shapeRows : List Int32} {v_shapeColumns : List Int32} {v_row : List Int32} {v_column : List Int32} {v_below : List Int32} {v_face : List Int32} {v_worn : List Int32} {v_lastBend : List Int32} {v_tape : List Int32} {v_text : List Int32} {v_names : List Int32} {v_bends : List Int32} {v_high : List Int32} {v_to : List Int32} {v_pileSize : List Int32} {v_way1 : List Int32} {v_bestWay : List Int32} (h_0 : 1 ≤ v_rowsOf.toInt) (h_1 : v_rowsOf.toInt ≤ 4) (h_2 : 1 ≤ v_columnsOf.toInt) (h_3 : v_columnsOf.toInt ≤ 8) (h_4 : -1 ≤ v_textMany.toInt) (h_5 : v_textMany.toInt ≤ 120) (h_6 : 0 ≤ v_bestMany.toInt) (h_7 : v_bestMany.toInt ≤ 3) (h_8 : v_limit.length = 1) (h_9 : v_shapeRows.length = 6) (h_10 : v_shapeColumns.length = 6) (h_11 : v_row.length = 192) (h_12 : v_column.length = 192) (h_13 : v_below.length = 192) (h_14 : v_face.length = 192) (h_15 : v_worn.length = 384) (h_16 : v_lastBend.length = 384) (h_17 : v_tape.length = 120) (h_18 : v_text.length = 120) (h_19 : v_names.length = 6) (h_20 : v_bends.length = 64) (h_21 : v_high.length = 32) (h_22 : v_to.length = 32) (h_23 : v_pileSize.length = 64) (h_24 : v_way1.length = 3) (h_25 : v_bestWay.length = 3) (h_26 : fr u_row v_row A B9) (h_27 : fr u_col v_column A B9) (h_28 : fr u_sR v_shapeRows a9 b9) (h_29 : fr u_sC v_shapeColumns a9 b9) (h_30 : A ≤ 32) (h_31 : 160 ≤ B9) (h_32 : a9 ≤ 1) (h_33 : 5 ≤ b9) : wp (fX9_searches N x1 v_rowsOf v_columnsOf v_textMany v_base v_at v_ends v_fault v_opened v_bentMany v_bentWrong v_moreWorn v_wishedField v_isFound v_bestWrong v_bestWorn v_bestMany v_limit v_shapeRows v_shapeColumns v_row v_column v_below v_face v_worn v_lastBend v_tape v_text v_names v_bends v_high v_to v_pileSize v_way1 v_bestWay) (cu28 (fun (wv_base : Int32) (wv_at : Int32) (wv_ends : Int32) (wv_fault : Int32) (wv_opened : Int32) (wv_bentMany : Int32) (wv_bentWrong : Int32) (wv_moreWorn : Int32) (wv_wishedField : Int32) (wv_isFound : Bool) (wv_bestWrong : Int32) (wv_bestWorn : Int32) (wv_bestMany : Int32) (wv_shapeRows : List Int32) (wv_shapeColumns : List Int32) (wv_row : List Int32) (wv_column : List Int32) (wv_below : List Int32) (wv_face : List Int32) (wv_worn : List Int32) (wv_lastBend : List Int32) (wv_names : List Int32) (wv_bends : List Int32) (wv_high : List Int32) (wv_to : List Int32) (wv_pileSize : List Int32) (wv_way1 : List Int32) (wv_bestWay : List Int32) => 0 ≤ wv_bestMany.toInt ∧ wv_bestMany.toInt ≤ 3 ∧ wv_shapeRows.length = 6 ∧ wv_shapeColumns.length = 6 ∧ wv_row.length = 192 ∧ wv_column.length = 192 ∧ wv_below.length = 192 ∧ wv_face.length = 192 ∧ wv_worn.length = 384 ∧ wv_lastBend.length = 384 ∧ wv_names.length = 6 ∧ wv_bends.length = 64 ∧ wv_high.length = 32 ∧ wv_to.length = 32 ∧ wv_pileSize.length = 64 ∧ wv_way1.length = 3 ∧ wv_bestWay.length = 3 ∧ fr u_row wv_row A B9 ∧ fr u_col wv_column A B9 ∧ fr u_sR wv_shapeRows a9 b9 ∧ fr u_sC wv_shapeColumns a9 b9)) := by
  have n1z : (1 : Int32).toInt = 1 := by decide
  refine wp_of (uf_X9_searches _ _ _ _ _ _ _ _ _ _ _ _ _ _ _ _ _ _ _ _ _ _ _ _ _ _ _ _ _ _ _ _ _ _ _ _) ?_
  have n_1 : (1 : Int32).toInt = 1 := by decide
  refine wp_bd8 (sf_X9_startsAt (u_row := u_row) (u_col := u_col) (u_sR := u_sR) (u_sC := u_sC) (A := A) (B9 := B9) (a9 := a9) (b9 := b9) hN h_0 h_1 h_2 h_3 h_9 h_10 h_11 h_12 h_13 h_14 h_15 h_16 (by omega) (by omega) h_26 h_27 h_28 h_29 (by omega) (by omega) (by omega) (by omega)) (fun w_1 w_2 w_3 w_4 w_5 w_6 w_7 w_8 ⟨q_2, q_3, q_4, q_5, q_6, q_7, q_8, q_9, q_10, q_11, q_12, q_13, q_14⟩ => ?_)
  have n_15 : (0 : Int32).toInt = 0 := by decide
  refine wp_bd27 (sf_X9_goesDeeper_at (M := 5) (u_row := u_row) (u_col := u_col) (u_sR := u_sR) (u_sC := u_sC) (A := A) (B9 := B9) (a9 := a9) (b9 := b9) hN h_0 h_1 h_2 h_3 h_4 h_5 (by omega) (by omega) h_8 q_2 q_3 q_4 q_5 q_6 q_7 q_8 q_9 h_17 h_18 h_19 h_20 h_21 h_22 h_23 h_24 h_25 (by omega) (by omega) q_10 q_11 q_12 q_13 (by omega) h_31 (by omega) h_33 (by first | assumption | exact lvI_of q_14 (by omega)) (by omega)) (fun w_10 w_11 w_12 w_13 w_14 w_15 w_16 w_17 w_18 w_19 w_20 w_21 w_22 w_23 w_24 w_25 w_26 w_27 w_28 w_29 w_30 w_31 w_32 w_33 w_34 w_35 w_36 ⟨q_16, q_17, q_18, q_19, q_20, q_21, q_22, q_23, q_24, q_25, q_26, q_27, q_28, q_29, q_30, q_31, q_32, q_33, q_34, q_35, q_36⟩ => ?_)
  exact wp_so28 ⟨q_16, q_17, q_18, q_19, q_20, q_21, q_22, q_23, q_24, q_25, q_26, q_27, q_28, q_29, q_30, q_31, q_32, q_33, q_34, q_35, q_36⟩

theorem uf_X9_wished (N : Nat) (x1 : Int32) (x2 : Int32) (v_rowsOf : Int32) (v_columnsOf : Int32) (v_textMany : Int32) (v_base : Int32) (v_at : Int32) (v_ends : Int32) (v_fault : Int32) (v_opened : Int32) (v_bentMany : Int32) (v_bentWrong : Int32) (v_moreWorn : Int32) (v_wishedField : Int32) (v_isFound : Bool) (v_bestWrong : Int32) (v_bestWorn : Int32) (v_bestMany : Int32) (v_limit : List Int32) (v_shapeRows : List Int32) (v_shapeColumns : List Int32) (v_row : List Int32) (v_column : List Int32) (v_below : List Int32) (v_face : List Int32) (v_worn : List Int32) (v_lastBend : List Int32) (v_tape : List Int32) (v_text : List Int32) (v_names : List Int32) (v_bends : List Int32) (v_high : List Int32) (v_to : List Int32) (v_pileSize : List Int32) (v_way1 : List Int32) (v_bestWay : List Int32) : fX9_wished N x1 x2 v_rowsOf v_columnsOf v_textMany v_base v_at v_ends v_fault v_opened v_bentMany v_bentWrong v_moreWorn v_wishedField v_isFound v_bestWrong v_bestWorn v_bestMany v_limit v_shapeRows v_shapeColumns v_row v_column v_below v_face v_worn v_lastBend v_tape v_text v_names v_bends v_high v_to v_pileSize v_way1 v_bestWay = mm_bd1 (fX9_isField N x1 v_rowsOf v_columnsOf) (fun (r_1 : Bool) =>
    if r_1 = false then
    (some ((-1 : Int32), v_base, v_at, v_ends, v_fault, v_opened, v_bentMany, v_bentWrong, v_moreWorn, v_wishedField, v_isFound, v_bestWrong, v_bestWorn, v_bestMany, v_shapeRows, v_shapeColumns, v_row, v_column, v_below, v_face, v_worn, v_lastBend, v_names, v_bends, v_high, v_to, v_pileSize, v_way1, v_bestWay))
    else (if (-1 : Int32) ≤ x2 then
    (mm_bd1 (fX9_fields N v_rowsOf v_columnsOf) (fun (r_5 : Int32) =>
    if r_5 ≤ (16 : Int32) then
    (mm_bd28 (fX9_searches N x1 v_rowsOf v_columnsOf v_textMany v_base v_at v_ends v_fault v_opened v_bentMany v_bentWrong v_moreWorn v_wishedField v_isFound v_bestWrong v_bestWorn v_bestMany v_limit v_shapeRows v_shapeColumns v_row v_column v_below v_face v_worn v_lastBend v_tape v_text v_names v_bends v_high v_to v_pileSize v_way1 v_bestWay) (fun (w_8 : Int32) (w_9 : Int32) (w_10 : Int32) (w_11 : Int32) (w_12 : Int32) (w_13 : Int32) (w_14 : Int32) (w_15 : Int32) (w_16 : Int32) (w_17 : Bool) (w_18 : Int32) (w_19 : Int32) (w_20 : Int32) (w_21 : List Int32) (w_22 : List Int32) (w_23 : List Int32) (w_24 : List Int32) (w_25 : List Int32) (w_26 : List Int32) (w_27 : List Int32) (w_28 : List Int32) (w_29 : List Int32) (w_30 : List Int32) (w_31 : List Int32) (w_32 : List Int32) (w_33 : List Int32) (w_34 : List Int32) (w_35 : List Int32) =>
    if w_17 = false then
    (some ((-2 : Int32), w_8, w_9, w_10, w_11, w_12, w_13, w_14, w_15, w_16, w_17, w_18, w_19, w_20, w_21, w_22, w_23, w_24, w_25, w_26, w_27, w_28, w_29, w_30, w_31, w_32, w_33, w_34, w_35))
    else (if x2 = (-1 : Int32) then
    (some (w_20, w_8, w_9, w_10, w_11, w_12, w_13, w_14, w_15, w_16, w_17, w_18, w_19, w_20, w_21, w_22, w_23, w_24, w_25, w_26, w_27, w_28, w_29, w_30, w_31, w_32, w_33, w_34, w_35))
    else (if w_20 ≤ x2 then
    (some ((-1 : Int32), w_8, w_9, w_10, w_11, w_12, w_13, w_14, w_15, w_16, w_17, w_18, w_19, w_20, w_21, w_22, w_23, w_24, w_25, w_26, w_27, w_28, w_29, w_30, w_31, w_32, w_33, w_34, w_35))
    else (mm_ck (mm_inb x2 w_35.length) (some ((mm_ig w_35 x2), w_8, w_9, w_10, w_11, w_12, w_13, w_14, w_15, w_16, w_17, w_18, w_19, w_20, w_21, w_22, w_23, w_24, w_25, w_26, w_27, w_28, w_29, w_30, w_31, w_32, w_33, w_34, w_35)))))))
    else (some ((-5 : Int32), v_base, v_at, v_ends, v_fault, v_opened, v_bentMany, v_bentWrong, v_moreWorn, v_wishedField, v_isFound, v_bestWrong, v_bestWorn, v_bestMany, v_shapeRows, v_shapeColumns, v_row, v_column, v_below, v_face, v_worn, v_lastBend, v_names, v_bends, v_high, v_to, v_pileSize, v_way1, v_bestWay))))
    else (some ((-1 : Int32), v_base, v_at, v_ends, v_fault, v_opened, v_bentMany, v_bentWrong, v_moreWorn, v_wishedField, v_isFound, v_bestWrong, v_bestWorn, v_bestMany, v_shapeRows, v_shapeColumns, v_row, v_column, v_below, v_face, v_worn, v_lastBend, v_names, v_bends, v_high, v_to, v_pileSize, v_way1, v_bestWay)))) := rfl

set_option maxHeartbeats 4000000 in
set_option maxRecDepth 20000 in
theorem sf_X9_wished {N : Nat} (hN : 700 ≤ N) {u_row : List Int32} {u_col : List Int32} {u_sR : List Int32} {u_sC : List Int32} {A : Int} {B9 : Int} {a9 : Int} {b9 : Int} {x1 : Int32} {x2 : Int32} {v_rowsOf : Int32} {v_columnsOf : Int32} {v_textMany : Int32} {v_base : Int32} {v_at : Int32} {v_ends : Int32} {v_fault : Int32} {v_opened : Int32} {v_bentMany : Int32} {v_bentWrong : Int32} {v_moreWorn : Int32} {v_wishedField : Int32} {v_isFound : Bool} {v_bestWrong : Int32} {v_bestWorn : Int32} {v_bestMany : Int32} {v_limit : List Int32} {v_shapeRows : List Int32} {v_shapeColumns : List Int32} {v_row : List Int32} {v_column : List Int32} {v_below : List Int32} {v_face : List Int32} {v_worn : List Int32} {v_lastBend : List Int32} {v_tape : List Int32} {v_text : List Int32} {v_names : List Int32} {v_bends : List Int32} {v_high : List Int32} {v_to : List Int32} {v_pileSize : List Int32} {v_way1 : List Int32} {v_bestWay : List Int32} (h_0 : 1 ≤ v_rowsOf.toInt) (h_1 : v_rowsOf.toInt ≤ 4) (h_2 : 1 ≤ v_columnsOf.toInt) (h_3 : v_columnsOf.toInt ≤ 8) (h_4 : -1 ≤ v_textMany.toInt) (h_5 : v_textMany.toInt ≤ 120) (h_6 : 0 ≤ v_bestMany.toInt) (h_7 : v_bestMany.toInt ≤ 3) (h_8 : v_limit.length = 1) (h_9 : v_shapeRows.length = 6) (h_10 : v_shapeColumns.length = 6) (h_11 : v_row.length = 192) (h_12 : v_column.length = 192) (h_13 : v_below.length = 192) (h_14 : v_face.length = 192) (h_15 : v_worn.length = 384) (h_16 : v_lastBend.length = 384) (h_17 : v_tape.length = 120) (h_18 : v_text.length = 120) (h_19 : v_names.length = 6) (h_20 : v_bends.length = 64) (h_21 : v_high.length = 32) (h_22 : v_to.length = 32) (h_23 : v_pileSize.length = 64) (h_24 : v_way1.length = 3) (h_25 : v_bestWay.length = 3) (h_26 : fr u_row v_row A B9) (h_27 : fr u_col v_column A B9) (h_28 : fr u_sR v_shapeRows a9 b9) (h_29 : fr u_sC v_shapeColumns a9 b9) (h_30 : A ≤ 32) (h_31 : 160 ≤ B9) (h_32 : a9 ≤ 1) (h_33 : 5 ≤ b9) : wp (fX9_wished N x1 x2 v_rowsOf v_columnsOf v_textMany v_base v_at v_ends v_fault v_opened v_bentMany v_bentWrong v_moreWorn v_wishedField v_isFound v_bestWrong v_bestWorn v_bestMany v_limit v_shapeRows v_shapeColumns v_row v_column v_below v_face v_worn v_lastBend v_tape v_text v_names v_bends v_high v_to v_pileSize v_way1 v_bestWay) (cu29 (fun (r : Int32) (wv_base : Int32) (wv_at : Int32) (wv_ends : Int32) (wv_fault : Int32) (wv_opened : Int32) (wv_bentMany : Int32) (wv_bentWrong : Int32) (wv_moreWorn : Int32) (wv_wishedField : Int32) (wv_isFound : Bool) (wv_bestWrong : Int32) (wv_bestWorn : Int32) (wv_bestMany : Int32) (wv_shapeRows : List Int32) (wv_shapeColumns : List Int32) (wv_row : List Int32) (wv_column : List Int32) (wv_below : List Int32) (wv_face : List Int32) (wv_worn : List Int32) (wv_lastBend : List Int32) (wv_names : List Int32) (wv_bends : List Int32) (wv_high : List Int32) (wv_to : List Int32) (wv_pileSize : List Int32) (wv_way1 : List Int32) (wv_bestWay : List Int32) => 0 ≤ wv_bestMany.toInt ∧ wv_bestMany.toInt ≤ 3 ∧ wv_shapeRows.length = 6 ∧ wv_shapeColumns.length = 6 ∧ wv_row.length = 192 ∧ wv_column.length = 192 ∧ wv_below.length = 192 ∧ wv_face.length = 192 ∧ wv_worn.length = 384 ∧ wv_lastBend.length = 384 ∧ wv_names.length = 6 ∧ wv_bends.length = 64 ∧ wv_high.length = 32 ∧ wv_to.length = 32 ∧ wv_pileSize.length = 64 ∧ wv_way1.length = 3 ∧ wv_bestWay.length = 3 ∧ fr u_row wv_row A B9 ∧ fr u_col wv_column A B9 ∧ fr u_sR wv_shapeRows a9 b9 ∧ fr u_sC wv_shapeColumns a9 b9)) := by
  have m3 := (i_fl (a := v_rowsOf) (b := v_columnsOf) (by omega) (by omega) (by omega) (by omega)).2
  refine wp_of (uf_X9_wished _ _ _ _ _ _ _ _ _ _ _ _ _ _ _ _ _ _ _ _ _ _ _ _ _ _ _ _ _ _ _ _ _ _ _ _ _) ?_
  refine wp_bd1 (sf_X9_isField hN h_0 h_1 h_2 h_3) (fun r_1 q_1 => ?_)
  rcases q_1 with ⟨rfl, q_1⟩ | ⟨rfl, q_1⟩
  ·
    refine wp_ifn (by decide) ?_
    have n_3 : (-1 : Int32).toInt = -1 := by decide
    refine wp_if (fun c_2 => ?_) (fun c_2 => ?_)
    ·
      have dc_2 := i_le c_2
      refine wp_bd1 (sf_X9_fields hN h_0 h_1 h_2 h_3) (fun r_5 ⟨q_4, q_5, q_6⟩ => ?_)
      have n_8 : (16 : Int32).toInt = 16 := by decide
      refine wp_if (fun c_7 => ?_) (fun c_7 => ?_)
      ·
        have dc_7 := i_le c_7
        refine wp_bd28 (sf_X9_searches (u_row := u_row) (u_col := u_col) (u_sR := u_sR) (u_sC := u_sC) (A := A) (B9 := B9) (a9 := a9) (b9 := b9) hN h_0 h_1 h_2 h_3 h_4 h_5 h_6 h_7 h_8 h_9 h_10 h_11 h_12 h_13 h_14 h_15 h_16 h_17 h_18 h_19 h_20 h_21 h_22 h_23 h_24 h_25 h_26 h_27 h_28 h_29 h_30 h_31 h_32 h_33) (fun w_8 w_9 w_10 w_11 w_12 w_13 w_14 w_15 w_16 w_17 w_18 w_19 w_20 w_21 w_22 w_23 w_24 w_25 w_26 w_27 w_28 w_29 w_30 w_31 w_32 w_33 w_34 w_35 ⟨q_9, q_10, q_11, q_12, q_13, q_14, q_15, q_16, q_17, q_18, q_19, q_20, q_21, q_22, q_23, q_24, q_25, q_26, q_27, q_28, q_29⟩ => ?_)
        refine wp_if (fun c_30 => ?_) (fun c_30 => ?_)
        ·
          exact wp_so29 ⟨q_9, q_10, q_11, q_12, q_13, q_14, q_15, q_16, q_17, q_18, q_19, q_20, q_21, q_22, q_23, q_24, q_25, q_26, q_27, q_28, q_29⟩
        ·
          refine wp_if (fun c_31 => ?_) (fun c_31 => ?_)
          ·
            have dc_31 := i_eq c_31
            exact wp_so29 ⟨q_9, q_10, q_11, q_12, q_13, q_14, q_15, q_16, q_17, q_18, q_19, q_20, q_21, q_22, q_23, q_24, q_25, q_26, q_27, q_28, q_29⟩
          ·
            have dc_31 := i_ne c_31
            refine wp_if (fun c_32 => ?_) (fun c_32 => ?_)
            ·
              have dc_32 := i_le c_32
              exact wp_so29 ⟨q_9, q_10, q_11, q_12, q_13, q_14, q_15, q_16, q_17, q_18, q_19, q_20, q_21, q_22, q_23, q_24, q_25, q_26, q_27, q_28, q_29⟩
            ·
              have dc_32 := i_nle c_32
              refine wp_ck (i_inb (by omega) (by omega)) ?_
              exact wp_so29 ⟨q_9, q_10, q_11, q_12, q_13, q_14, q_15, q_16, q_17, q_18, q_19, q_20, q_21, q_22, q_23, q_24, q_25, q_26, q_27, q_28, q_29⟩
      ·
        have dc_7 := i_nle c_7
        exact wp_so29 ⟨h_6, h_7, h_9, h_10, h_11, h_12, h_13, h_14, h_15, h_16, h_19, h_20, h_21, h_22, h_23, h_24, h_25, h_26, h_27, h_28, h_29⟩
    ·
      have dc_2 := i_nle c_2
      exact wp_so29 ⟨h_6, h_7, h_9, h_10, h_11, h_12, h_13, h_14, h_15, h_16, h_19, h_20, h_21, h_22, h_23, h_24, h_25, h_26, h_27, h_28, h_29⟩
  ·
    refine wp_ifp (by decide) ?_
    exact wp_so29 ⟨h_6, h_7, h_9, h_10, h_11, h_12, h_13, h_14, h_15, h_16, h_19, h_20, h_21, h_22, h_23, h_24, h_25, h_26, h_27, h_28, h_29⟩

theorem uf_X9_right (N : Nat) (x1 : Int32) (v_rowsOf : Int32) (v_columnsOf : Int32) (v_textMany : Int32) (v_base : Int32) (v_at : Int32) (v_ends : Int32) (v_fault : Int32) (v_opened : Int32) (v_bentMany : Int32) (v_bentWrong : Int32) (v_moreWorn : Int32) (v_wishedField : Int32) (v_isFound : Bool) (v_bestWrong : Int32) (v_bestWorn : Int32) (v_bestMany : Int32) (v_limit : List Int32) (v_shapeRows : List Int32) (v_shapeColumns : List Int32) (v_row : List Int32) (v_column : List Int32) (v_below : List Int32) (v_face : List Int32) (v_worn : List Int32) (v_lastBend : List Int32) (v_tape : List Int32) (v_text : List Int32) (v_names : List Int32) (v_bends : List Int32) (v_high : List Int32) (v_to : List Int32) (v_pileSize : List Int32) (v_way1 : List Int32) (v_bestWay : List Int32) : fX9_right N x1 v_rowsOf v_columnsOf v_textMany v_base v_at v_ends v_fault v_opened v_bentMany v_bentWrong v_moreWorn v_wishedField v_isFound v_bestWrong v_bestWorn v_bestMany v_limit v_shapeRows v_shapeColumns v_row v_column v_below v_face v_worn v_lastBend v_tape v_text v_names v_bends v_high v_to v_pileSize v_way1 v_bestWay = if (-3 : Int32) ≤ x1 then
    (mm_bd1 (fX9_fields N v_rowsOf v_columnsOf) (fun (r_2 : Int32) =>
    if r_2 ≤ (16 : Int32) then
    (mm_bd28 (fX9_searches N (-1 : Int32) v_rowsOf v_columnsOf v_textMany v_base v_at v_ends v_fault v_opened v_bentMany v_bentWrong v_moreWorn v_wishedField v_isFound v_bestWrong v_bestWorn v_bestMany v_limit v_shapeRows v_shapeColumns v_row v_column v_below v_face v_worn v_lastBend v_tape v_text v_names v_bends v_high v_to v_pileSize v_way1 v_bestWay) (fun (w_5 : Int32) (w_6 : Int32) (w_7 : Int32) (w_8 : Int32) (w_9 : Int32) (w_10 : Int32) (w_11 : Int32) (w_12 : Int32) (w_13 : Int32) (w_14 : Bool) (w_15 : Int32) (w_16 : Int32) (w_17 : Int32) (w_18 : List Int32) (w_19 : List Int32) (w_20 : List Int32) (w_21 : List Int32) (w_22 : List Int32) (w_23 : List Int32) (w_24 : List Int32) (w_25 : List Int32) (w_26 : List Int32) (w_27 : List Int32) (w_28 : List Int32) (w_29 : List Int32) (w_30 : List Int32) (w_31 : List Int32) (w_32 : List Int32) =>
    if w_14 = false then
    (some ((-2 : Int32), w_5, w_6, w_7, w_8, w_9, w_10, w_11, w_12, w_13, w_14, w_15, w_16, w_17, w_18, w_19, w_20, w_21, w_22, w_23, w_24, w_25, w_26, w_27, w_28, w_29, w_30, w_31, w_32))
    else (if x1 = (-3 : Int32) then
    (some (w_17, w_5, w_6, w_7, w_8, w_9, w_10, w_11, w_12, w_13, w_14, w_15, w_16, w_17, w_18, w_19, w_20, w_21, w_22, w_23, w_24, w_25, w_26, w_27, w_28, w_29, w_30, w_31, w_32))
    else (if x1 = (-2 : Int32) then
    (some (w_16, w_5, w_6, w_7, w_8, w_9, w_10, w_11, w_12, w_13, w_14, w_15, w_16, w_17, w_18, w_19, w_20, w_21, w_22, w_23, w_24, w_25, w_26, w_27, w_28, w_29, w_30, w_31, w_32))
    else (if x1 = (-1 : Int32) then
    (some (w_15, w_5, w_6, w_7, w_8, w_9, w_10, w_11, w_12, w_13, w_14, w_15, w_16, w_17, w_18, w_19, w_20, w_21, w_22, w_23, w_24, w_25, w_26, w_27, w_28, w_29, w_30, w_31, w_32))
    else (if w_17 ≤ x1 then
    (some ((-1 : Int32), w_5, w_6, w_7, w_8, w_9, w_10, w_11, w_12, w_13, w_14, w_15, w_16, w_17, w_18, w_19, w_20, w_21, w_22, w_23, w_24, w_25, w_26, w_27, w_28, w_29, w_30, w_31, w_32))
    else (mm_ck (mm_inb x1 w_32.length) (some ((mm_ig w_32 x1), w_5, w_6, w_7, w_8, w_9, w_10, w_11, w_12, w_13, w_14, w_15, w_16, w_17, w_18, w_19, w_20, w_21, w_22, w_23, w_24, w_25, w_26, w_27, w_28, w_29, w_30, w_31, w_32)))))))))
    else (some ((-5 : Int32), v_base, v_at, v_ends, v_fault, v_opened, v_bentMany, v_bentWrong, v_moreWorn, v_wishedField, v_isFound, v_bestWrong, v_bestWorn, v_bestMany, v_shapeRows, v_shapeColumns, v_row, v_column, v_below, v_face, v_worn, v_lastBend, v_names, v_bends, v_high, v_to, v_pileSize, v_way1, v_bestWay))))
    else (some ((-1 : Int32), v_base, v_at, v_ends, v_fault, v_opened, v_bentMany, v_bentWrong, v_moreWorn, v_wishedField, v_isFound, v_bestWrong, v_bestWorn, v_bestMany, v_shapeRows, v_shapeColumns, v_row, v_column, v_below, v_face, v_worn, v_lastBend, v_names, v_bends, v_high, v_to, v_pileSize, v_way1, v_bestWay)) := rfl

set_option maxHeartbeats 4000000 in
set_option maxRecDepth 20000 in
theorem sf_X9_right {N : Nat} (hN : 700 ≤ N) {u_row : List Int32} {u_col : List Int32} {u_sR : List Int32} {u_sC : List Int32} {A : Int} {B9 : Int} {a9 : Int} {b9 : Int} {x1 : Int32} {v_rowsOf : Int32} {v_columnsOf : Int32} {v_textMany : Int32} {v_base : Int32} {v_at : Int32} {v_ends : Int32} {v_fault : Int32} {v_opened : Int32} {v_bentMany : Int32} {v_bentWrong : Int32} {v_moreWorn : Int32} {v_wishedField : Int32} {v_isFound : Bool} {v_bestWrong : Int32} {v_bestWorn : Int32} {v_bestMany : Int32} {v_limit : List Int32} {v_shapeRows : List Int32} {v_shapeColumns : List Int32} {v_row : List Int32} {v_column : List Int32} {v_below : List Int32} {v_face : List Int32} {v_worn : List Int32} {v_lastBend : List Int32} {v_tape : List Int32} {v_text : List Int32} {v_names : List Int32} {v_bends : List Int32} {v_high : List Int32} {v_to : List Int32} {v_pileSize : List Int32} {v_way1 : List Int32} {v_bestWay : List Int32} (h_0 : 1 ≤ v_rowsOf.toInt) (h_1 : v_rowsOf.toInt ≤ 4) (h_2 : 1 ≤ v_columnsOf.toInt) (h_3 : v_columnsOf.toInt ≤ 8) (h_4 : -1 ≤ v_textMany.toInt) (h_5 : v_textMany.toInt ≤ 120) (h_6 : 0 ≤ v_bestMany.toInt) (h_7 : v_bestMany.toInt ≤ 3) (h_8 : v_limit.length = 1) (h_9 : v_shapeRows.length = 6) (h_10 : v_shapeColumns.length = 6) (h_11 : v_row.length = 192) (h_12 : v_column.length = 192) (h_13 : v_below.length = 192) (h_14 : v_face.length = 192) (h_15 : v_worn.length = 384) (h_16 : v_lastBend.length = 384) (h_17 : v_tape.length = 120) (h_18 : v_text.length = 120) (h_19 : v_names.length = 6) (h_20 : v_bends.length = 64) (h_21 : v_high.length = 32) (h_22 : v_to.length = 32) (h_23 : v_pileSize.length = 64) (h_24 : v_way1.length = 3) (h_25 : v_bestWay.length = 3) (h_26 : fr u_row v_row A B9) (h_27 : fr u_col v_column A B9) (h_28 : fr u_sR v_shapeRows a9 b9) (h_29 : fr u_sC v_shapeColumns a9 b9) (h_30 : A ≤ 32) (h_31 : 160 ≤ B9) (h_32 : a9 ≤ 1) (h_33 : 5 ≤ b9) : wp (fX9_right N x1 v_rowsOf v_columnsOf v_textMany v_base v_at v_ends v_fault v_opened v_bentMany v_bentWrong v_moreWorn v_wishedField v_isFound v_bestWrong v_bestWorn v_bestMany v_limit v_shapeRows v_shapeColumns v_row v_column v_below v_face v_worn v_lastBend v_tape v_text v_names v_bends v_high v_to v_pileSize v_way1 v_bestWay) (cu29 (fun (r : Int32) (wv_base : Int32) (wv_at : Int32) (wv_ends : Int32) (wv_fault : Int32) (wv_opened : Int32) (wv_bentMany : Int32) (wv_bentWrong : Int32) (wv_moreWorn : Int32) (wv_wishedField : Int32) (wv_isFound : Bool) (wv_bestWrong : Int32) (wv_bestWorn : Int32) (wv_bestMany : Int32) (wv_shapeRows : List Int32) (wv_shapeColumns : List Int32) (wv_row : List Int32) (wv_column : List Int32) (wv_below : List Int32) (wv_face : List Int32) (wv_worn : List Int32) (wv_lastBend : List Int32) (wv_names : List Int32) (wv_bends : List Int32) (wv_high : List Int32) (wv_to : List Int32) (wv_pileSize : List Int32) (wv_way1 : List Int32) (wv_bestWay : List Int32) => 0 ≤ wv_bestMany.toInt ∧ wv_bestMany.toInt ≤ 3 ∧ wv_shapeRows.length = 6 ∧ wv_shapeColumns.length = 6 ∧ wv_row.length = 192 ∧ wv_column.length = 192 ∧ wv_below.length = 192 ∧ wv_face.length = 192 ∧ wv_worn.length = 384 ∧ wv_lastBend.length = 384 ∧ wv_names.length = 6 ∧ wv_bends.length = 64 ∧ wv_high.length = 32 ∧ wv_to.length = 32 ∧ wv_pileSize.length = 64 ∧ wv_way1.length = 3 ∧ wv_bestWay.length = 3 ∧ fr u_row wv_row A B9 ∧ fr u_col wv_column A B9 ∧ fr u_sR wv_shapeRows a9 b9 ∧ fr u_sC wv_shapeColumns a9 b9)) := by
  have m3 := (i_fl (a := v_rowsOf) (b := v_columnsOf) (by omega) (by omega) (by omega) (by omega)).2
  refine wp_of (uf_X9_right _ _ _ _ _ _ _ _ _ _ _ _ _ _ _ _ _ _ _ _ _ _ _ _ _ _ _ _ _ _ _ _ _ _ _ _) ?_
  have n_2 : (-3 : Int32).toInt = -3 := by decide
  refine wp_if (fun c_1 => ?_) (fun c_1 => ?_)
  ·
    have dc_1 := i_le c_1
    refine wp_bd1 (sf_X9_fields hN h_0 h_1 h_2 h_3) (fun r_2 ⟨q_3, q_4, q_5⟩ => ?_)
    have n_7 : (16 : Int32).toInt = 16 := by decide
    refine wp_if (fun c_6 => ?_) (fun c_6 => ?_)
    ·
      have dc_6 := i_le c_6
      refine wp_bd28 (sf_X9_searches (u_row := u_row) (u_col := u_col) (u_sR := u_sR) (u_sC := u_sC) (A := A) (B9 := B9) (a9 := a9) (b9 := b9) hN h_0 h_1 h_2 h_3 h_4 h_5 h_6 h_7 h_8 h_9 h_10 h_11 h_12 h_13 h_14 h_15 h_16 h_17 h_18 h_19 h_20 h_21 h_22 h_23 h_24 h_25 h_26 h_27 h_28 h_29 h_30 h_31 h_32 h_33) (fun w_5 w_6 w_7 w_8 w_9 w_10 w_11 w_12 w_13 w_14 w_15 w_16 w_17 w_18 w_19 w_20 w_21 w_22 w_23 w_24 w_25 w_26 w_27 w_28 w_29 w_30 w_31 w_32 ⟨q_8, q_9, q_10, q_11, q_12, q_13, q_14, q_15, q_16, q_17, q_18, q_19, q_20, q_21, q_22, q_23, q_24, q_25, q_26, q_27, q_28⟩ => ?_)
      refine wp_if (fun c_29 => ?_) (fun c_29 => ?_)
      ·
        exact wp_so29 ⟨q_8, q_9, q_10, q_11, q_12, q_13, q_14, q_15, q_16, q_17, q_18, q_19, q_20, q_21, q_22, q_23, q_24, q_25, q_26, q_27, q_28⟩
      ·
        refine wp_if (fun c_30 => ?_) (fun c_30 => ?_)
        ·
          have dc_30 := i_eq c_30
          exact wp_so29 ⟨q_8, q_9, q_10, q_11, q_12, q_13, q_14, q_15, q_16, q_17, q_18, q_19, q_20, q_21, q_22, q_23, q_24, q_25, q_26, q_27, q_28⟩
        ·
          have dc_30 := i_ne c_30
          have n_32 : (-2 : Int32).toInt = -2 := by decide
          refine wp_if (fun c_31 => ?_) (fun c_31 => ?_)
          ·
            have dc_31 := i_eq c_31
            exact wp_so29 ⟨q_8, q_9, q_10, q_11, q_12, q_13, q_14, q_15, q_16, q_17, q_18, q_19, q_20, q_21, q_22, q_23, q_24, q_25, q_26, q_27, q_28⟩
          ·
            have dc_31 := i_ne c_31
            have n_34 : (-1 : Int32).toInt = -1 := by decide
            refine wp_if (fun c_33 => ?_) (fun c_33 => ?_)
            ·
              have dc_33 := i_eq c_33
              exact wp_so29 ⟨q_8, q_9, q_10, q_11, q_12, q_13, q_14, q_15, q_16, q_17, q_18, q_19, q_20, q_21, q_22, q_23, q_24, q_25, q_26, q_27, q_28⟩
            ·
              have dc_33 := i_ne c_33
              refine wp_if (fun c_35 => ?_) (fun c_35 => ?_)
              ·
                have dc_35 := i_le c_35
                exact wp_so29 ⟨q_8, q_9, q_10, q_11, q_12, q_13, q_14, q_15, q_16, q_17, q_18, q_19, q_20, q_21, q_22, q_23, q_24, q_25, q_26, q_27, q_28⟩
              ·
                have dc_35 := i_nle c_35
                refine wp_ck (i_inb (by omega) (by omega)) ?_
                exact wp_so29 ⟨q_8, q_9, q_10, q_11, q_12, q_13, q_14, q_15, q_16, q_17, q_18, q_19, q_20, q_21, q_22, q_23, q_24, q_25, q_26, q_27, q_28⟩
    ·
      have dc_6 := i_nle c_6
      exact wp_so29 ⟨h_6, h_7, h_9, h_10, h_11, h_12, h_13, h_14, h_15, h_16, h_19, h_20, h_21, h_22, h_23, h_24, h_25, h_26, h_27, h_28, h_29⟩
  ·
    have dc_1 := i_nle c_1
    exact wp_so29 ⟨h_6, h_7, h_9, h_10, h_11, h_12, h_13, h_14, h_15, h_16, h_19, h_20, h_21, h_22, h_23, h_24, h_25, h_26, h_27, h_28, h_29⟩
