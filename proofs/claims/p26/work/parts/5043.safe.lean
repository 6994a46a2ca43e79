section
/-! safe -/
theorem uf_X8_wished (N : Nat) (x1 : Int32) (x2 : Int32) (v_now_rows : Int32) (v_now_cols : Int32) (v_now_high : Int32) (v_now_wide : Int32) (v_now_folds : Int32) (v_now_wrong : Int32) (v_now_more : Int32) (v_now_rowOf : List Int32) (v_now_colOf : List Int32) (v_now_below : List Int32) (v_now_face : List Int32) (v_now_worn : List Int32) (v_now_last : List Int32) (v_search_found : Bool) (v_search_wrong : Int32) (v_search_more : Int32) (v_search_folds : Int32) (v_search_wanted : Int32) (v_search_levels0_rows : Int32) (v_search_levels0_cols : Int32) (v_search_levels0_high : Int32) (v_search_levels0_wide : Int32) (v_search_levels0_folds : Int32) (v_search_levels0_wrong : Int32) (v_search_levels0_more : Int32) (v_search_levels0_rowOf : List Int32) (v_search_levels0_colOf : List Int32) (v_search_levels0_below : List Int32) (v_search_levels0_face : List Int32) (v_search_levels0_worn : List Int32) (v_search_levels0_last : List Int32) (v_search_levels1_rows : Int32) (v_search_levels1_cols : Int32) (v_search_levels1_high : Int32) (v_search_levels1_wide : Int32) (v_search_levels1_folds : Int32) (v_search_levels1_wrong : Int32) (v_search_levels1_more : Int32) (v_search_levels1_rowOf : List Int32) (v_search_levels1_colOf : List Int32) (v_search_levels1_below : List Int32) (v_search_levels1_face : List Int32) (v_search_levels1_worn : List Int32) (v_search_levels1_last : List Int32) (v_search_levels1_tall : List Int32) (v_search_levels2_rows : Int32) (v_search_levels2_cols : Int32) (v_search_levels2_high : Int32) (v_search_levels2_wide : Int32) (v_search_levels2_folds : Int32) (v_search_levels2_wrong : Int32) (v_search_levels2_more : Int32) (v_search_levels2_rowOf : List Int32) (v_search_levels2_colOf : List Int32) (v_search_levels2_below : List Int32) (v_search_levels2_face : List Int32) (v_search_levels2_worn : List Int32) (v_search_levels2_last : List Int32) (v_search_levels2_tall : List Int32) (v_search_levels3_rows : Int32) (v_search_levels3_cols : Int32) (v_search_levels3_high : Int32) (v_search_levels3_wide : Int32) (v_search_levels3_folds : Int32) (v_search_levels3_wrong : Int32) (v_search_levels3_more : Int32) (v_search_levels3_rowOf : List Int32) (v_search_levels3_colOf : List Int32) (v_search_levels3_below : List Int32) (v_search_levels3_face : List Int32) (v_search_levels3_worn : List Int32) (v_search_levels3_last : List Int32) (v_search_levels3_tall : List Int32) (v_search_path : List Int32) (v_search_best : List Int32) : fX8_wished N x1 x2 v_now_rows v_now_cols v_now_high v_now_wide v_now_folds v_now_wrong v_now_more v_now_rowOf v_now_colOf v_now_below v_now_face v_now_worn v_now_last v_search_found v_search_wrong v_search_more v_search_folds v_search_wanted v_search_levels0_rows v_search_levels0_cols v_search_levels0_high v_search_levels0_wide v_search_levels0_folds v_search_levels0_wrong v_search_levels0_more v_search_levels0_rowOf v_search_levels0_colOf v_search_levels0_below v_search_levels0_face v_search_levels0_worn v_search_levels0_last v_search_levels1_rows v_search_levels1_cols v_search_levels1_high v_search_levels1_wide v_search_levels1_folds v_search_levels1_wrong v_search_levels1_more v_search_levels1_rowOf v_search_levels1_colOf v_search_levels1_below v_search_levels1_face v_search_levels1_worn v_search_levels1_last v_search_levels1_tall v_search_levels2_rows v_search_levels2_cols v_search_levels2_high v_search_levels2_wide v_search_levels2_folds v_search_levels2_wrong v_search_levels2_more v_search_levels2_rowOf v_search_levels2_colOf v_search_levels2_below v_search_levels2_face v_search_levels2_worn v_search_levels2_last v_search_levels2_tall v_search_levels3_rows v_search_levels3_cols v_search_levels3_high v_search_levels3_wide v_search_levels3_folds v_search_levels3_wrong v_search_levels3_more v_search_levels3_rowOf v_search_levels3_colOf v_search_levels3_below v_search_levels3_face v_search_levels3_worn v_search_levels3_last v_search_levels3_tall v_search_path v_search_best = mm_bd1 (fX5_hasField N x1 v_now_rows v_now_cols) (fun (r_1 : Bool) =>
    if r_1 = false then
    (some ((-1 : Int32), v_search_found, v_search_wrong, v_search_more, v_search_folds, v_search_wanted, v_search_levels0_rows, v_search_levels0_cols, v_search_levels0_high, v_search_levels0_wide, v_search_levels0_folds, v_search_levels0_wrong, v_search_levels0_more, v_search_levels0_rowOf, v_search_levels0_colOf, v_search_levels0_below, v_search_levels0_face, v_search_levels0_worn, v_search_levels0_last, v_search_levels1_rows, v_search_levels1_cols, v_search_levels1_high, v_search_levels1_wide, v_search_levels1_folds, v_search_levels1_wrong, v_search_levels1_more, v_search_levels1_rowOf, v_search_levels1_colOf, v_search_levels1_below, v_search_levels1_face, v_search_levels1_worn, v_search_levels1_last, v_search_levels1_tall, v_search_levels2_rows, v_search_levels2_cols, v_search_levels2_high, v_search_levels2_wide, v_search_levels2_folds, v_search_levels2_wrong, v_search_levels2_more, v_search_levels2_rowOf, v_search_levels2_colOf, v_search_levels2_below, v_search_levels2_face, v_search_levels2_worn, v_search_levels2_last, v_search_levels2_tall, v_search_levels3_rows, v_search_levels3_cols, v_search_levels3_high, v_search_levels3_wide, v_search_levels3_folds, v_search_levels3_wrong, v_search_levels3_more, v_search_levels3_rowOf, v_search_levels3_colOf, v_search_levels3_below, v_search_levels3_face, v_search_levels3_worn, v_search_levels3_last, v_search_levels3_tall, v_search_path, v_search_best))
    else (if x2 < (-1 : Int32) then
    (some ((-1 : Int32), v_search_found, v_search_wrong, v_search_more, v_search_folds, v_search_wanted, v_search_levels0_rows, v_search_levels0_cols, v_search_levels0_high, v_search_levels0_wide, v_search_levels0_folds, v_search_levels0_wrong, v_search_levels0_more, v_search_levels0_rowOf, v_search_levels0_colOf, v_search_levels0_below, v_search_levels0_face, v_search_levels0_worn, v_search_levels0_last, v_search_levels1_rows, v_search_levels1_cols, v_search_levels1_high, v_search_levels1_wide, v_search_levels1_folds, v_search_levels1_wrong, v_search_levels1_more, v_search_levels1_rowOf, v_search_levels1_colOf, v_search_levels1_below, v_search_levels1_face, v_search_levels1_worn, v_search_levels1_last, v_search_levels1_tall, v_search_levels2_rows, v_search_levels2_cols, v_search_levels2_high, v_search_levels2_wide, v_search_levels2_folds, v_search_levels2_wrong, v_search_levels2_more, v_search_levels2_rowOf, v_search_levels2_colOf, v_search_levels2_below, v_search_levels2_face, v_search_levels2_worn, v_search_levels2_last, v_search_levels2_tall, v_search_levels3_rows, v_search_levels3_cols, v_search_levels3_high, v_search_levels3_wide, v_search_levels3_folds, v_search_levels3_wrong, v_search_levels3_more, v_search_levels3_rowOf, v_search_levels3_colOf, v_search_levels3_below, v_search_levels3_face, v_search_levels3_worn, v_search_levels3_last, v_search_levels3_tall, v_search_path, v_search_best))
    else (if x2 < (3 : Int32) then
    (mm_bd1 (fX5_fields N v_now_rows v_now_cols) (fun (r_6 : Int32) =>
    if r_6 ≤ (16 : Int32) then
    (mm_bd62 (fX4_seekTop N x1 v_search_found v_search_wrong v_search_more v_search_folds v_search_wanted v_search_levels0_rows v_search_levels0_cols v_search_levels0_high v_search_levels0_wide v_search_levels0_folds v_search_levels0_wrong v_search_levels0_more v_search_levels0_rowOf v_search_levels0_colOf v_search_levels0_below v_search_levels0_face v_search_levels0_worn v_search_levels0_last v_search_levels1_rows v_search_levels1_cols v_search_levels1_high v_search_levels1_wide v_search_levels1_folds v_search_levels1_wrong v_search_levels1_more v_search_levels1_rowOf v_search_levels1_colOf v_search_levels1_below v_search_levels1_face v_search_levels1_worn v_search_levels1_last v_search_levels1_tall v_search_levels2_rows v_search_levels2_cols v_search_levels2_high v_search_levels2_wide v_search_levels2_folds v_search_levels2_wrong v_search_levels2_more v_search_levels2_rowOf v_search_levels2_colOf v_search_levels2_below v_search_levels2_face v_search_levels2_worn v_search_levels2_last v_search_levels2_tall v_search_levels3_rows v_search_levels3_cols v_search_levels3_high v_search_levels3_wide v_search_levels3_folds v_search_levels3_wrong v_search_levels3_more v_search_levels3_rowOf v_search_levels3_colOf v_search_levels3_below v_search_levels3_face v_search_levels3_worn v_search_levels3_last v_search_levels3_tall v_search_path v_search_best v_now_rows v_now_cols v_now_high v_now_wide v_now_folds v_now_wrong v_now_more v_now_rowOf v_now_colOf v_now_below v_now_face v_now_worn v_now_last) (fun (w_9 : Bool) (w_10 : Int32) (w_11 : Int32) (w_12 : Int32) (w_13 : Int32) (w_14 : Int32) (w_15 : Int32) (w_16 : Int32) (w_17 : Int32) (w_18 : Int32) (w_19 : Int32) (w_20 : Int32) (w_21 : List Int32) (w_22 : List Int32) (w_23 : List Int32) (w_24 : List Int32) (w_25 : List Int32) (w_26 : List Int32) (w_27 : Int32) (w_28 : Int32) (w_29 : Int32) (w_30 : Int32) (w_31 : Int32) (w_32 : Int32) (w_33 : Int32) (w_34 : List Int32) (w_35 : List Int32) (w_36 : List Int32) (w_37 : List Int32) (w_38 : List Int32) (w_39 : List Int32) (w_40 : List Int32) (w_41 : Int32) (w_42 : Int32) (w_43 : Int32) (w_44 : Int32) (w_45 : Int32) (w_46 : Int32) (w_47 : Int32) (w_48 : List Int32) (w_49 : List Int32) (w_50 : List Int32) (w_51 : List Int32) (w_52 : List Int32) (w_53 : List Int32) (w_54 : List Int32) (w_55 : Int32) (w_56 : Int32) (w_57 : Int32) (w_58 : Int32) (w_59 : Int32) (w_60 : Int32) (w_61 : Int32) (w_62 : List Int32) (w_63 : List Int32) (w_64 : List Int32) (w_65 : List Int32) (w_66 : List Int32) (w_67 : List Int32) (w_68 : List Int32) (w_69 : List Int32) (w_70 : List Int32) =>
    if w_9 = false then
    (some ((-2 : Int32), w_9, w_10, w_11, w_12, w_13, w_14, w_15, w_16, w_17, w_18, w_19, w_20, w_21, w_22, w_23, w_24, w_25, w_26, w_27, w_28, w_29, w_30, w_31, w_32, w_33, w_34, w_35, w_36, w_37, w_38, w_39, w_40, w_41, w_42, w_43, w_44, w_45, w_46, w_47, w_48, w_49, w_50, w_51, w_52, w_53, w_54, w_55, w_56, w_57, w_58, w_59, w_60, w_61, w_62, w_63, w_64, w_65, w_66, w_67, w_68, w_69, w_70))
    else (if x2 = (-1 : Int32) then
    (some (w_12, w_9, w_10, w_11, w_12, w_13, w_14, w_15, w_16, w_17, w_18, w_19, w_20, w_21, w_22, w_23, w_24, w_25, w_26, w_27, w_28, w_29, w_30, w_31, w_32, w_33, w_34, w_35, w_36, w_37, w_38, w_39, w_40, w_41, w_42, w_43, w_44, w_45, w_46, w_47, w_48, w_49, w_50, w_51, w_52, w_53, w_54, w_55, w_56, w_57, w_58, w_59, w_60, w_61, w_62, w_63, w_64, w_65, w_66, w_67, w_68, w_69, w_70))
    else (mm_bd1 (fX4_soughtFold N x2 w_12 w_70) (fun (r_74 : Int32) =>
    some (r_74, w_9, w_10, w_11, w_12, w_13, w_14, w_15, w_16, w_17, w_18, w_19, w_20, w_21, w_22, w_23, w_24, w_25, w_26, w_27, w_28, w_29, w_30, w_31, w_32, w_33, w_34, w_35, w_36, w_37, w_38, w_39, w_40, w_41, w_42, w_43, w_44, w_45, w_46, w_47, w_48, w_49, w_50, w_51, w_52, w_53, w_54, w_55, w_56, w_57, w_58, w_59, w_60, w_61, w_62, w_63, w_64, w_65, w_66, w_67, w_68, w_69, w_70))))))
    else (some ((-5 : Int32), v_search_found, v_search_wrong, v_search_more, v_search_folds, v_search_wanted, v_search_levels0_rows, v_search_levels0_cols, v_search_levels0_high, v_search_levels0_wide, v_search_levels0_folds, v_search_levels0_wrong, v_search_levels0_more, v_search_levels0_rowOf, v_search_levels0_colOf, v_search_levels0_below, v_search_levels0_face, v_search_levels0_worn, v_search_levels0_last, v_search_levels1_rows, v_search_levels1_cols, v_search_levels1_high, v_search_levels1_wide, v_search_levels1_folds, v_search_levels1_wrong, v_search_levels1_more, v_search_levels1_rowOf, v_search_levels1_colOf, v_search_levels1_below, v_search_levels1_face, v_search_levels1_worn, v_search_levels1_last, v_search_levels1_tall, v_search_levels2_rows, v_search_levels2_cols, v_search_levels2_high, v_search_levels2_wide, v_search_levels2_folds, v_search_levels2_wrong, v_search_levels2_more, v_search_levels2_rowOf, v_search_levels2_colOf, v_search_levels2_below, v_search_levels2_face, v_search_levels2_worn, v_search_levels2_last, v_search_levels2_tall, v_search_levels3_rows, v_search_levels3_cols, v_search_levels3_high, v_search_levels3_wide, v_search_levels3_folds, v_search_levels3_wrong, v_search_levels3_more, v_search_levels3_rowOf, v_search_levels3_colOf, v_search_levels3_below, v_search_levels3_face, v_search_levels3_worn, v_search_levels3_last, v_search_levels3_tall, v_search_path, v_search_best))))
    else (some ((-1 : Int32), v_search_found, v_search_wrong, v_search_more, v_search_folds, v_search_wanted, v_search_levels0_rows, v_search_levels0_cols, v_search_levels0_high, v_search_levels0_wide, v_search_levels0_folds, v_search_levels0_wrong, v_search_levels0_more, v_search_levels0_rowOf, v_search_levels0_colOf, v_search_levels0_below, v_search_levels0_face, v_search_levels0_worn, v_search_levels0_last, v_search_levels1_rows, v_search_levels1_cols, v_search_levels1_high, v_search_levels1_wide, v_search_levels1_folds, v_search_levels1_wrong, v_search_levels1_more, v_search_levels1_rowOf, v_search_levels1_colOf, v_search_levels1_below, v_search_levels1_face, v_search_levels1_worn, v_search_levels1_last, v_search_levels1_tall, v_search_levels2_rows, v_search_levels2_cols, v_search_levels2_high, v_search_levels2_wide, v_search_levels2_folds, v_search_levels2_wrong, v_search_levels2_more, v_search_levels2_rowOf, v_search_levels2_colOf, v_search_levels2_below, v_search_levels2_face, v_search_levels2_worn, v_search_levels2_last, v_search_levels2_tall, v_search_levels3_rows, v_search_levels3_cols, v_search_levels3_high, v_search_levels3_wide, v_search_levels3_folds, v_search_levels3_wrong, v_search_levels3_more, v_search_levels3_rowOf, v_search_levels3_colOf, v_search_levels3_below, v_search_levels3_face, v_search_levels3_worn, v_search_levels3_last, v_search_levels3_tall, v_search_path, v_search_best))))) := rfl

set_option maxHeartbeats 4000000 in
set_option maxRecDepth 20000 in
theorem sf_X8_wished {N : Nat} (hN : 700 ≤ N) {x1 : Int32} {x2 : Int32} {v_now_rows : Int32} {v_now_cols : Int32} {v_now_high : Int32} {v_now_wide : Int32} {v_now_folds : Int32} {v_now_wrong : Int32} {v_now_more : Int32} {v_now_rowOf : List Int32} {v_now_colOf : List Int32} {v_now_below : List Int32} {v_now_face : List Int32} {v_now_worn : List Int32} {v_now_last : List Int32} {v_search_found : Bool} {v_search_wrong : Int32} {v_search_more : Int32} {v_search_folds : Int32} {v_search_wanted : Int32} {v_search_levels0_rows : Int32} {v_search_levels0_cols : Int32} {v_search_levels0_high : Int32} {v_search_levels0_wide : Int32} {v_search_levels0_folds : Int32} {v_search_levels0_wrong : Int32} {v_search_levels0_more : Int32} {v_search_levels0_rowOf : List Int32} {v_search_levels0_colOf : List Int32} {v_search_levels0_below : List Int32} {v_search_levels0_face : List Int32} {v_search_levels0_worn : List Int32} {v_search_levels0_last : List Int32} {v_search_levels1_rows : Int32} {v_search_levels1_cols : Int32} {v_search_levels1_high : Int32} {v_search_levels1_wide : Int32} {v_search_levels1_folds : Int32} {v_search_levels1_wrong : Int32} {v_search_levels1_more : Int32} {v_search_levels1_rowOf : List Int32} {v_search_levels1_colOf : List Int32} {v_search_levels1_below : List Int32} {v_search_levels1_face : List Int32} {v_search_levels1_worn : List Int32} {v_search_levels1_last : List Int32} {v_search_levels1_tall : List Int32} {v_search_levels2_rows : Int32} {v_search_levels2_cols : Int32} {v_search_levels2_high : Int32} {v_search_levels2_wide : Int32} {v_search_levels2_folds : Int32} {v_search_levels2_wrong : Int32} {v_search_levels2_more : Int32} {v_search_levels2_rowOf : List Int32} {v_search_levels2_colOf : List Int32} {v_search_levels2_below : List Int32} {v_search_levels2_face : List Int32} {v_search_levels2_worn : List Int32} {v_search_levels2_last : List Int32} {v_search_levels2_tall : List Int32} {v_search_levels3_rows : Int32} {v_search_levels3_cols : Int32} {v_search_levels3_high : Int32} {v_search_levels3_wide : Int32} {v_search_levels3_folds : Int32} {v_search_levels3_wrong : Int32} {v_search_levels3_more : Int32} {v_search_levels3_rowOf : List Int32} {v_search_levels3_colOf : List Int32} {v_search_levels3_below : List Int32} {v_search_levels3_face : List Int32} {v_search_levels3_worn : List Int32} {v_search_levels3_last : List Int32} {v_search_levels3_tall : List Int32} {v_search_path : List Int32} {v_search_best : List Int32} (h_0 : 1 ≤ v_now_rows.toInt) (h_1 : v_now_rows.toInt ≤ 4) (h_2 : 1 ≤ v_now_cols.toInt) (h_3 : v_now_cols.toInt ≤ 8) (h_4 : 1 ≤ v_now_high.toInt) (h_5 : v_now_high.toInt ≤ 4) (h_6 : 1 ≤ v_now_wide.toInt) (h_7 : v_now_wide.toInt ≤ 8) (h_8 : v_now_rowOf.length = 32) (h_9 : v_now_colOf.length = 32) (h_10 : v_now_below.length = 32) (h_11 : v_now_face.length = 32) (h_12 : v_now_worn.length = 64) (h_13 : v_now_last.length = 64) (h_14 : zn v_now_rowOf 0 (v_now_rows.toInt * v_now_cols.toInt) 0 v_now_high.toInt) (h_15 : zn v_now_colOf 0 (v_now_rows.toInt * v_now_cols.toInt) 0 v_now_wide.toInt) (h_16 : 0 ≤ v_search_folds.toInt) (h_17 : v_search_folds.toInt ≤ 3) (h_18 : v_search_path.length = 3) (h_19 : v_search_best.length = 3) (h_20 : 1 ≤ v_search_levels0_rows.toInt) (h_21 : v_search_levels0_rows.toInt ≤ 4) (h_22 : 1 ≤ v_search_levels0_cols.toInt) (h_23 : v_search_levels0_cols.toInt ≤ 8) (h_24 : 1 ≤ v_search_levels0_high.toInt) (h_25 : v_search_levels0_high.toInt ≤ 4) (h_26 : 1 ≤ v_search_levels0_wide.toInt) (h_27 : v_search_levels0_wide.toInt ≤ 8) (h_28 : v_search_levels0_rowOf.length = 32) (h_29 : v_search_levels0_colOf.length = 32) (h_30 : v_search_levels0_below.length = 32) (h_31 : v_search_levels0_face.length = 32) (h_32 : v_search_levels0_worn.length = 64) (h_33 : v_search_levels0_last.length = 64) (h_34 : zn v_search_levels0_rowOf 0 (v_search_levels0_rows.toInt * v_search_levels0_cols.toInt) 0 v_search_levels0_high.toInt) (h_35 : zn v_search_levels0_colOf 0 (v_search_levels0_rows.toInt * v_search_levels0_cols.toInt) 0 v_search_levels0_wide.toInt) (h_36 : 1 ≤ v_search_levels1_rows.toInt) (h_37 : v_search_levels1_rows.toInt ≤ 4) (h_38 : 1 ≤ v_search_levels1_cols.toInt) (h_39 : v_search_levels1_cols.toInt ≤ 8) (h_40 : 1 ≤ v_search_levels1_high.toInt) (h_41 : v_search_levels1_high.toInt ≤ 4) (h_42 : 1 ≤ v_search_levels1_wide.toInt) (h_43 : v_search_levels1_wide.toInt ≤ 8) (h_44 : v_search_levels1_rowOf.length = 32) (h_45 : v_search_levels1_colOf.length = 32) (h_46 : v_search_levels1_below.length = 32) (h_47 : v_search_levels1_face.length = 32) (h_48 : v_search_levels1_worn.length = 64) (h_49 : v_search_levels1_last.length = 64) (h_50 : v_search_levels1_tall.length = 32) (h_51 : zn v_search_levels1_rowOf 0 (v_search_levels1_rows.toInt * v_search_levels1_cols.toInt) 0 v_search_levels1_high.toInt) (h_52 : zn v_search_levels1_colOf 0 (v_search_levels1_rows.toInt * v_search_levels1_cols.toInt) 0 v_search_levels1_wide.toInt) (h_53 : 1 ≤ v_search_levels2_rows.toInt) (h_54 : v_search_levels2_rows.toInt ≤ 4) (h_55 : 1 ≤ v_search_levels2_cols.toInt) (h_56 : v_search_levels2_cols.toInt ≤ 8) (h_57 : 1 ≤ v_search_levels2_high.toInt) (h_58 : v_search_levels2_high.toInt ≤ 4) (h_59 : 1 ≤ v_search_levels2_wide.toInt) (h_60 : v_search_levels2_wide.toInt ≤ 8) (h_61 : v_search_levels2_rowOf.length = 32) (h_62 : v_search_levels2_colOf.length = 32) (h_63 : v_search_levels2_below.length = 32) (h_64 : v_search_levels2_face.length = 32) (h_65 : v_search_levels2_worn.length = 64) (h_66 : v_search_levels2_last.length = 64) (h_67 : v_search_levels2_tall.length = 32) (h_68 : zn v_search_levels2_rowOf 0 (v_search_levels2_rows.toInt * v_search_levels2_cols.toInt) 0 v_search_levels2_high.toInt) (h_69 : zn v_search_levels2_colOf 0 (v_search_levels2_rows.toInt * v_search_levels2_cols.toInt) 0 v_search_levels2_wide.toInt) (h_70 : 1 ≤ v_search_levels3_rows.toInt) (h_71 : v_search_levels3_rows.toInt ≤ 4) (h_72 : 1 ≤ v_search_levels3_cols.toInt) (h_73 : v_search_levels3_cols.toInt ≤ 8) (h_74 : 1 ≤ v_search_levels3_high.toInt) (h_75 : v_search_levels3_high.toInt ≤ 4) (h_76 : 1 ≤ v_search_levels3_wide.toInt) (h_77 : v_search_levels3_wide.toInt ≤ 8) (h_78 : v_search_levels3_rowOf.length = 32) (h_79 : v_search_levels3_colOf.length = 32) (h_80 : v_search_levels3_below.length = 32) (h_81 : v_search_levels3_face.length = 32) (h_82 : v_search_levels3_worn.length = 64) (h_83 : v_search_levels3_last.length = 64) (h_84 : v_search_levels3_tall.length = 32) (h_85 : zn v_search_levels3_rowOf 0 (v_search_levels3_rows.toInt * v_search_levels3_cols.toInt) 0 v_search_levels3_high.toInt) (h_86 : zn v_search_levels3_colOf 0 (v_search_levels3_rows.toInt * v_search_levels3_cols.toInt) 0 v_search_levels3_wide.toInt) : wp (fX8_wished N x1 x2 v_now_rows v_now_cols v_now_high v_now_wide v_now_folds v_now_wrong v_now_more v_now_rowOf v_now_colOf v_now_below v_now_face v_now_worn v_now_last v_search_found v_search_wrong v_search_more v_search_folds v_search_wanted v_search_levels0_rows v_search_levels0_cols v_search_levels0_high v_search_levels0_wide v_search_levels0_folds v_search_levels0_wrong v_search_levels0_more v_search_levels0_rowOf v_search_levels0_colOf v_search_levels0_below v_search_levels0_face v_search_levels0_worn v_search_levels0_last v_search_levels1_rows v_search_levels1_cols v_search_levels1_high v_search_levels1_wide v_search_levels1_folds v_search_levels1_wrong v_search_levels1_more v_search_levels1_rowOf v_search_levels1_colOf v_search_levels1_below v_search_levels1_face v_search_levels1_worn v_search_levels1_last v_search_levels1_tall v_search_levels2_rows v_search_levels2_cols v_search_levels2_high v_search_levels2_wide v_search_levels2_folds v_search_levels2_wrong v_search_levels2_more v_search_levels2_rowOf v_search_levels2_colOf v_search_levels2_below v_search_levels2_face v_search_levels2_worn v_search_levels2_last v_search_levels2_tall v_search_levels3_rows v_search_levels3_cols v_search_levels3_high v_search_levels3_wide v_search_levels3_folds v_search_levels3_wrong v_search_levels3_more v_search_levels3_rowOf v_search_levels3_colOf v_search_levels3_below v_search_levels3_face v_search_levels3_worn v_search_levels3_last v_search_levels3_tall v_search_path v_search_best) (cu63 (fun (r : Int32) (wv_search_found : Bool) (wv_search_wrong : Int32) (wv_search_more : Int32) (wv_search_folds : Int32) (wv_search_wanted : Int32) (wv_search_levels0_rows : Int32) (wv_search_levels0_cols : Int32) (wv_search_levels0_high : Int32) (wv_search_levels0_wide : Int32) (wv_search_levels0_folds : Int32) (wv_search_levels0_wrong : Int32) (wv_search_levels0_more : Int32) (wv_search_levels0_rowOf : List Int32) (wv_search_levels0_colOf : List Int32) (wv_search_levels0_below : List Int32) (wv_search_levels0_face : List Int32) (wv_search_levels0_worn : List Int32) (wv_search_levels0_last : List Int32) (wv_search_levels1_rows : Int32) (wv_search_levels1_cols : Int32) (wv_search_levels1_high : Int32) (wv_search_levels1_wide : Int32) (wv_search_levels1_folds : Int32) (wv_search_levels1_wrong : Int32) (wv_search_levels1_more : Int32) (wv_search_levels1_rowOf : List Int32) (wv_search_levels1_colOf : List Int32) (wv_search_levels1_below : List Int32) (wv_search_levels1_face : List Int32) (wv_search_levels1_worn : List Int32) (wv_search_levels1_last : List Int32) (wv_search_levels1_tall : List Int32) (wv_search_levels2_rows : Int32) (wv_search_levels2_cols : Int32) (wv_search_levels2_high : Int32) (wv_search_levels2_wide : Int32) (wv_search_levels2_folds : Int32) (wv_search_levels2_wrong : Int32) (wv_search_levels2_more : Int32) (wv_search_levels2_rowOf : List Int32) (wv_search_levels2_colOf : List Int32) (wv_search_levels2_below : List Int32) (wv_search_levels2_face : List Int32) (wv_search_levels2_worn : List Int32) (wv_search_levels2_last : List Int32) (wv_search_levels2_tall : List Int32) (wv_search_levels3_rows : Int32) (wv_search_levels3_cols : Int32) (wv_search_levels3_high : Int32) (wv_search_levels3_wide : Int32) (wv_search_levels3_folds : Int32) (wv_search_levels3_wrong : Int32) (wv_search_levels3_more : Int32) (wv_search_levels3_rowOf : List Int32) (wv_search_levels3_colOf : List Int32) (wv_search_levels3_below : List Int32) (wv_search_levels3_face : List Int32) (wv_search_levels3_worn : List Int32) (wv_search_levels3_last : List Int32) (wv_search_levels3_tall : List Int32) (wv_search_path : List Int32) (wv_search_best : List Int32) => 0 ≤ wv_search_folds.toInt ∧ wv_search_folds.toInt ≤ 3 ∧ wv_search_path.length = 3 ∧ wv_search_best.length = 3 ∧ 1 ≤ wv_search_levels0_rows.toInt ∧ wv_search_levels0_rows.toInt ≤ 4 ∧ 1 ≤ wv_search_levels0_cols.toInt ∧ wv_search_levels0_cols.toInt ≤ 8 ∧ 1 ≤ wv_search_levels0_high.toInt ∧ wv_search_levels0_high.toInt ≤ 4 ∧ 1 ≤ wv_search_levels0_wide.toInt ∧ wv_search_levels0_wide.toInt ≤ 8 ∧ wv_search_levels0_rowOf.length = 32 ∧ wv_search_levels0_colOf.length = 32 ∧ wv_search_levels0_below.length = 32 ∧ wv_search_levels0_face.length = 32 ∧ wv_search_levels0_worn.length = 64 ∧ wv_search_levels0_last.length = 64 ∧ zn wv_search_levels0_rowOf 0 (wv_search_levels0_rows.toInt * wv_search_levels0_cols.toInt) 0 wv_search_levels0_high.toInt ∧ zn wv_search_levels0_colOf 0 (wv_search_levels0_rows.toInt * wv_search_levels0_cols.toInt) 0 wv_search_levels0_wide.toInt ∧ 1 ≤ wv_search_levels1_rows.toInt ∧ wv_search_levels1_rows.toInt ≤ 4 ∧ 1 ≤ wv_search_levels1_cols.toInt ∧ wv_search_levels1_cols.toInt ≤ 8 ∧ 1 ≤ wv_search_levels1_high.toInt ∧ wv_search_levels1_high.toInt ≤ 4 ∧ 1 ≤ wv_search_levels1_wide.toInt ∧ wv_search_levels1_wide.toInt ≤ 8 ∧ wv_search_levels1_rowOf.length = 32 ∧ wv_search_levels1_colOf.length = 32 ∧ wv_search_levels1_below.length = 32 ∧ wv_search_levels1_face.length = 32 ∧ wv_search_levels1_worn.length = 64 ∧ wv_search_levels1_last.length = 64 ∧ wv_search_levels1_tall.length = 32 ∧ zn wv_search_levels1_rowOf 0 (wv_search_levels1_rows.toInt * wv_search_levels1_cols.toInt) 0 wv_search_levels1_high.toInt ∧ zn wv_search_levels1_colOf 0 (wv_search_levels1_rows.toInt * wv_search_levels1_cols.toInt) 0 wv_search_levels1_wide.toInt ∧ 1 ≤ wv_search_levels2_rows.toInt ∧ wv_search_levels2_rows.toInt ≤ 4 ∧ 1 ≤ wv_search_levels2_cols.toInt ∧ wv_search_levels2_cols.toInt ≤ 8 ∧ 1 ≤ wv_search_levels2_high.toInt ∧ wv_search_levels2_high.toInt ≤ 4 ∧ 1 ≤ wv_search_levels2_wide.toInt ∧ wv_search_levels2_wide.toInt ≤ 8 ∧ wv_search_levels2_rowOf.length = 32 ∧ wv_search_levels2_colOf.length = 32 ∧ wv_search_levels2_below.length = 32 ∧ wv_search_levels2_face.length = 32 ∧ wv_search_levels2_worn.length = 64 ∧ wv_search_levels2_last.length = 64 ∧ wv_search_levels2_tall.length = 32 ∧ zn wv_search_levels2_rowOf 0 (wv_search_levels2_rows.toInt * wv_search_levels2_cols.toInt) 0 wv_search_levels2_high.toInt ∧ zn wv_search_levels2_colOf 0 (wv_search_levels2_rows.toInt * wv_search_levels2_cols.toInt) 0 wv_search_levels2_wide.toInt ∧ 1 ≤ wv_search_levels3_rows.toInt ∧ wv_search_levels3_rows.toInt ≤ 4 ∧ 1 ≤ wv_search_levels3_cols.toInt ∧ wv_search_levels3_cols.toInt ≤ 8 ∧ 1 ≤ wv_search_levels3_high.toInt ∧ wv_search_levels3_high.toInt ≤ 4 ∧ 1 ≤ wv_search_levels3_wide.toInt ∧ wv_search_levels3_wide.toInt ≤ 8 ∧ wv_search_levels3_rowOf.length = 32 ∧ wv_search_levels3_colOf.length = 32 ∧ wv_search_levels3_below.length = 32 ∧ wv_search_levels3_face.length = 32 ∧ wv_search_levels3_worn.length = 64 ∧ wv_search_levels3_last.length = 64 ∧ wv_search_levels3_tall.length = 32 ∧ zn wv_search_levels3_rowOf 0 (wv_search_levels3_rows.toInt * wv_search_levels3_cols.toInt) 0 wv_search_levels3_high.toInt ∧ zn wv_search_levels3_colOf 0 (wv_search_levels3_rows.toInt * wv_search_levels3_cols.toInt) 0 wv_search_levels3_wide.toInt)) := by
  have m3 := (i_fl (a := v_now_rows) (b := v_now_cols) (by omega) (by omega) (by omega) (by omega)).2
  refine wp_of (uf_X8_wished _ _ _ _ _ _ _ _ _ _ _ _ _ _ _ _ _ _ _ _ _ _ _ _ _ _ _ _ _ _ _ _ _ _ _ _ _ _ _ _ _ _ _ _ _ _ _ _ _ _ _ _ _ _ _ _ _ _ _ _ _ _ _ _ _ _ _ _ _ _ _ _ _ _ _ _ _ _) ?_
  refine wp_bd1 (sf_X5_hasField hN h_0 h_1 h_2 h_3) (fun r_1 q_1 => ?_)
  rcases q_1 with ⟨rfl, q_1⟩ | ⟨rfl, q_1⟩
  ·
    refine wp_ifn (by decide) ?_
    have n_3 : (-1 : Int32).toInt = -1 := by decide
    refine wp_if (fun c_2 => ?_) (fun c_2 => ?_)
    ·
      have dc_2 := i_lt c_2
      exact wp_so63 ⟨h_16, h_17, h_18, h_19, h_20, h_21, h_22, h_23, h_24, h_25, h_26, h_27, h_28, h_29, h_30, h_31, h_32, h_33, h_34, h_35, h_36, h_37, h_38, h_39, h_40, h_41, h_42, h_43, h_44, h_45, h_46, h_47, h_48, h_49, h_50, h_51, h_52, h_53, h_54, h_55, h_56, h_57, h_58, h_59, h_60, h_61, h_62, h_63, h_64, h_65, h_66, h_67, h_68, h_69, h_70, h_71, h_72, h_73, h_74, h_75, h_76, h_77, h_78, h_79, h_80, h_81, h_82, h_83, h_84, h_85, h_86⟩
    ·
      have dc_2 := i_nlt c_2
      have n_5 : (3 : Int32).toInt = 3 := by decide
      refine wp_if (fun c_4 => ?_) (fun c_4 => ?_)
      ·
        have dc_4 := i_lt c_4
        refine wp_bd1 (sf_X5_fields hN h_0 h_1 h_2 h_3) (fun r_6 ⟨q_6, q_7, q_8⟩ => ?_)
        have n_10 : (16 : Int32).toInt = 16 := by decide
        refine wp_if (fun c_9 => ?_) (fun c_9 => ?_)
        ·
          have dc_9 := i_le c_9
          refine wp_bd62 (sf_X4_seekTop hN h_16 h_17 h_18 h_19 h_20 h_21 h_22 h_23 h_24 h_25 h_26 h_27 h_28 h_29 h_30 h_31 h_32 h_33 h_36 h_37 h_38 h_39 h_40 h_41 h_42 h_43 h_44 h_45 h_46 h_47 h_48 h_49 h_50 h_51 h_52 h_53 h_54 h_55 h_56 h_57 h_58 h_59 h_60 h_61 h_62 h_63 h_64 h_65 h_66 h_67 h_68 h_69 h_70 h_71 h_72 h_73 h_74 h_75 h_76 h_77 h_78 h_79 h_80 h_81 h_82 h_83 h_84 h_85 h_86 h_0 h_1 h_2 h_3 h_4 h_5 h_6 h_7 h_8 h_9 h_10 h_11 h_12 h_13 h_14 h_15 (by omega)) (fun w_9 w_10 w_11 w_12 w_13 w_14 w_15 w_16 w_17 w_18 w_19 w_20 w_21 w_22 w_23 w_24 w_25 w_26 w_27 w_28 w_29 w_30 w_31 w_32 w_33 w_34 w_35 w_36 w_37 w_38 w_39 w_40 w_41 w_42 w_43 w_44 w_45 w_46 w_47 w_48 w_49 w_50 w_51 w_52 w_53 w_54 w_55 w_56 w_57 w_58 w_59 w_60 w_61 w_62 w_63 w_64 w_65 w_66 w_67 w_68 w_69 w_70 ⟨q_11, q_12, q_13, q_14, q_15, q_16, q_17, q_18, q_19, q_20, q_21, q_22, q_23, q_24, q_25, q_26, q_27, q_28, q_29, q_30, q_31, q_32, q_33, q_34, q_35, q_36, q_37, q_38, q_39, q_40, q_41, q_42, q_43, q_44, q_45, q_46, q_47, q_48, q_49, q_50, q_51, q_52, q_53, q_54, q_55, q_56, q_57, q_58, q_59, q_60, q_61, q_62, q_63, q_64, q_65, q_66, q_67, q_68, q_69, q_70, q_71, q_72, q_73, q_74, q_75, q_76, q_77, q_78, q_79, q_80, q_81⟩ => ?_)
          refine wp_if (fun c_82 => ?_) (fun c_82 => ?_)
          ·
            exact wp_so63 ⟨q_11, q_12, q_13, q_14, q_15, q_16, q_17, q_18, q_19, q_20, q_21, q_22, q_23, q_24, q_25, q_26, q_27, q_28, q_29, q_30, q_31, q_32, q_33, q_34, q_35, q_36, q_37, q_38, q_39, q_40, q_41, q_42, q_43, q_44, q_45, q_46, q_47, q_48, q_49, q_50, q_51, q_52, q_53, q_54, q_55, q_56, q_57, q_58, q_59, q_60, q_61, q_62, q_63, q_64, q_65, q_66, q_67, q_68, q_69, q_70, q_71, q_72, q_73, q_74, q_75, q_76, q_77, q_78, q_79, q_80, q_81⟩
          ·
            refine wp_if (fun c_83 => ?_) (fun c_83 => ?_)
            ·
              have dc_83 := i_eq c_83
              exact wp_so63 ⟨q_11, q_12, q_13, q_14, q_15, q_16, q_17, q_18, q_19, q_20, q_21, q_22, q_23, q_24, q_25, q_26, q_27, q_28, q_29, q_30, q_31, q_32, q_33, q_34, q_35, q_36, q_37, q_38, q_39, q_40, q_41, q_42, q_43, q_44, q_45, q_46, q_47, q_48, q_49, q_50, q_51, q_52, q_53, q_54, q_55, q_56, q_57, q_58, q_59, q_60, q_61, q_62, q_63, q_64, q_65, q_66, q_67, q_68, q_69, q_70, q_71, q_72, q_73, q_74, q_75, q_76, q_77, q_78, q_79, q_80, q_81⟩
            ·
              have dc_83 := i_ne c_83
              refine wp_bd1 (sf_X4_soughtFold hN q_11 q_12 q_14) (fun r_74 _ => ?_)
              exact wp_so63 ⟨q_11, q_12, q_13, q_14, q_15, q_16, q_17, q_18, q_19, q_20, q_21, q_22, q_23, q_24, q_25, q_26, q_27, q_28, q_29, q_30, q_31, q_32, q_33, q_34, q_35, q_36, q_37, q_38, q_39, q_40, q_41, q_42, q_43, q_44, q_45, q_46, q_47, q_48, q_49, q_50, q_51, q_52, q_53, q_54, q_55, q_56, q_57, q_58, q_59, q_60, q_61, q_62, q_63, q_64, q_65, q_66, q_67, q_68, q_69, q_70, q_71, q_72, q_73, q_74, q_75, q_76, q_77, q_78, q_79, q_80, q_81⟩
        ·
          have dc_9 := i_nle c_9
          exact wp_so63 ⟨h_16, h_17, h_18, h_19, h_20, h_21, h_22, h_23, h_24, h_25, h_26, h_27, h_28, h_29, h_30, h_31, h_32, h_33, h_34, h_35, h_36, h_37, h_38, h_39, h_40, h_41, h_42, h_43, h_44, h_45, h_46, h_47, h_48, h_49, h_50, h_51, h_52, h_53, h_54, h_55, h_56, h_57, h_58, h_59, h_60, h_61, h_62, h_63, h_64, h_65, h_66, h_67, h_68, h_69, h_70, h_71, h_72, h_73, h_74, h_75, h_76, h_77, h_78, h_79, h_80, h_81, h_82, h_83, h_84, h_85, h_86⟩
      ·
        have dc_4 := i_nlt c_4
        exact wp_so63 ⟨h_16, h_17, h_18, h_19, h_20, h_21, h_22, h_23, h_24, h_25, h_26, h_27, h_28, h_29, h_30, h_31, h_32, h_33, h_34, h_35, h_36, h_37, h_38, h_39, h_40, h_41, h_42, h_43, h_44, h_45, h_46, h_47, h_48, h_49, h_50, h_51, h_52, h_53, h_54, h_55, h_56, h_57, h_58, h_59, h_60, h_61, h_62, h_63, h_64, h_65, h_66, h_67, h_68, h_69, h_70, h_71, h_72, h_73, h_74, h_75, h_76, h_77, h_78, h_79, h_80, h_81, h_82, h_83, h_84, h_85, h_86⟩
  ·
    refine wp_ifp (by decide) ?_
    exact wp_so63 ⟨h_16, h_17, h_18, h_19, h_20, h_21, h_22, h_23, h_24, h_25, h_26, h_27, h_28, h_29, h_30, h_31, h_32, h_33, h_34, h_35, h_36, h_37, h_38, h_39, h_40, h_41, h_42, h_43, h_44, h_45, h_46, h_47, h_48, h_49, h_50, h_51, h_52, h_53, h_54, h_55, h_56, h_57, h_58, h_59, h_60, h_61, h_62, h_63, h_64, h_65, h_66, h_67, h_68, h_69, h_70, h_71, h_72, h_73, h_74, h_75, h_76, h_77, h_78, h_79, h_80, h_81, h_82, h_83, h_84, h_85, h_86⟩
end
section
/-! safe -/
theorem uf_X8_right (N : Nat) (x1 : Int32) (v_now_rows : Int32) (v_now_cols : Int32) (v_now_high : Int32) (v_now_wide : Int32) (v_now_folds : Int32) (v_now_wrong : Int32) (v_now_more : Int32) (v_now_rowOf : List Int32) (v_now_colOf : List Int32) (v_now_below : List Int32) (v_now_face : List Int32) (v_now_worn : List Int32) (v_now_last : List Int32) (v_wearing_stepCount : Int32) (v_wearing_stacked : Int32) (v_wearing_steps : List Int32) (v_wearing_stack : List Int32) (v_search_found : Bool) (v_search_wrong : Int32) (v_search_more : Int32) (v_search_folds : Int32) (v_search_wanted : Int32) (v_search_levels0_rows : Int32) (v_search_levels0_cols : Int32) (v_search_levels0_high : Int32) (v_search_levels0_wide : Int32) (v_search_levels0_folds : Int32) (v_search_levels0_wrong : Int32) (v_search_levels0_more : Int32) (v_search_levels0_rowOf : List Int32) (v_search_levels0_colOf : List Int32) (v_search_levels0_below : List Int32) (v_search_levels0_face : List Int32) (v_search_levels0_worn : List Int32) (v_search_levels0_last : List Int32) (v_search_levels1_rows : Int32) (v_search_levels1_cols : Int32) (v_search_levels1_high : Int32) (v_search_levels1_wide : Int32) (v_search_levels1_folds : Int32) (v_search_levels1_wrong : Int32) (v_search_levels1_more : Int32) (v_search_levels1_rowOf : List Int32) (v_search_levels1_colOf : List Int32) (v_search_levels1_below : List Int32) (v_search_levels1_face : List Int32) (v_search_levels1_worn : List Int32) (v_search_levels1_last : List Int32) (v_search_levels1_bend : List Int32) (v_search_levels1_tall : List Int32) (v_search_levels2_rows : Int32) (v_search_levels2_cols : Int32) (v_search_levels2_high : Int32) (v_search_levels2_wide : Int32) (v_search_levels2_folds : Int32) (v_search_levels2_wrong : Int32) (v_search_levels2_more : Int32) (v_search_levels2_rowOf : List Int32) (v_search_levels2_colOf : List Int32) (v_search_levels2_below : List Int32) (v_search_levels2_face : List Int32) (v_search_levels2_worn : List Int32) (v_search_levels2_last : List Int32) (v_search_levels2_bend : List Int32) (v_search_levels2_tall : List Int32) (v_search_levels3_rows : Int32) (v_search_levels3_cols : Int32) (v_search_levels3_high : Int32) (v_search_levels3_wide : Int32) (v_search_levels3_folds : Int32) (v_search_levels3_wrong : Int32) (v_search_levels3_more : Int32) (v_search_levels3_rowOf : List Int32) (v_search_levels3_colOf : List Int32) (v_search_levels3_below : List Int32) (v_search_levels3_face : List Int32) (v_search_levels3_worn : List Int32) (v_search_levels3_last : List Int32) (v_search_levels3_bend : List Int32) (v_search_levels3_tall : List Int32) (v_search_path : List Int32) (v_search_best : List Int32) (v_changes_value : Int32) : fX8_right N x1 v_now_rows v_now_cols v_now_high v_now_wide v_now_folds v_now_wrong v_now_more v_now_rowOf v_now_colOf v_now_below v_now_face v_now_worn v_now_last v_wearing_stepCount v_wearing_stacked v_wearing_steps v_wearing_stack v_search_found v_search_wrong v_search_more v_search_folds v_search_wanted v_search_levels0_rows v_search_levels0_cols v_search_levels0_high v_search_levels0_wide v_search_levels0_folds v_search_levels0_wrong v_search_levels0_more v_search_levels0_rowOf v_search_levels0_colOf v_search_levels0_below v_search_levels0_face v_search_levels0_worn v_search_levels0_last v_search_levels1_rows v_search_levels1_cols v_search_levels1_high v_search_levels1_wide v_search_levels1_folds v_search_levels1_wrong v_search_levels1_more v_search_levels1_rowOf v_search_levels1_colOf v_search_levels1_below v_search_levels1_face v_search_levels1_worn v_search_levels1_last v_search_levels1_bend v_search_levels1_tall v_search_levels2_rows v_search_levels2_cols v_search_levels2_high v_search_levels2_wide v_search_levels2_folds v_search_levels2_wrong v_search_levels2_more v_search_levels2_rowOf v_search_levels2_colOf v_search_levels2_below v_search_levels2_face v_search_levels2_worn v_search_levels2_last v_search_levels2_bend v_search_levels2_tall v_search_levels3_rows v_search_levels3_cols v_search_levels3_high v_search_levels3_wide v_search_levels3_folds v_search_levels3_wrong v_search_levels3_more v_search_levels3_rowOf v_search_levels3_colOf v_search_levels3_below v_search_levels3_face v_search_levels3_worn v_search_levels3_last v_search_levels3_bend v_search_levels3_tall v_search_path v_search_best v_changes_value = if x1 < (-3 : Int32) then
    (some ((-1 : Int32), v_wearing_stacked, v_wearing_stack, v_search_found, v_search_wrong, v_search_more, v_search_folds, v_search_wanted, v_search_levels0_rows, v_search_levels0_cols, v_search_levels0_high, v_search_levels0_wide, v_search_levels0_folds, v_search_levels0_wrong, v_search_levels0_more, v_search_levels0_rowOf, v_search_levels0_colOf, v_search_levels0_below, v_search_levels0_face, v_search_levels0_worn, v_search_levels0_last, v_search_levels1_rows, v_search_levels1_cols, v_search_levels1_high, v_search_levels1_wide, v_search_levels1_folds, v_search_levels1_wrong, v_search_levels1_more, v_search_levels1_rowOf, v_search_levels1_colOf, v_search_levels1_below, v_search_levels1_face, v_search_levels1_worn, v_search_levels1_last, v_search_levels1_bend, v_search_levels1_tall, v_search_levels2_rows, v_search_levels2_cols, v_search_levels2_high, v_search_levels2_wide, v_search_levels2_folds, v_search_levels2_wrong, v_search_levels2_more, v_search_levels2_rowOf, v_search_levels2_colOf, v_search_levels2_below, v_search_levels2_face, v_search_levels2_worn, v_search_levels2_last, v_search_levels2_bend, v_search_levels2_tall, v_search_levels3_rows, v_search_levels3_cols, v_search_levels3_high, v_search_levels3_wide, v_search_levels3_folds, v_search_levels3_wrong, v_search_levels3_more, v_search_levels3_rowOf, v_search_levels3_colOf, v_search_levels3_below, v_search_levels3_face, v_search_levels3_worn, v_search_levels3_last, v_search_levels3_bend, v_search_levels3_tall, v_search_path, v_search_best))
    else (if x1 < (3 : Int32) then
    (mm_bd1 (fX5_fields N v_now_rows v_now_cols) (fun (r_3 : Int32) =>
    if r_3 ≤ (16 : Int32) then
    (mm_bd67 (fX4_seekLeastWrong N v_changes_value v_search_found v_search_wrong v_search_more v_search_folds v_search_wanted v_search_levels0_rows v_search_levels0_cols v_search_levels0_high v_search_levels0_wide v_search_levels0_folds v_search_levels0_wrong v_search_levels0_more v_search_levels0_rowOf v_search_levels0_colOf v_search_levels0_below v_search_levels0_face v_search_levels0_worn v_search_levels0_last v_search_levels1_rows v_search_levels1_cols v_search_levels1_high v_search_levels1_wide v_search_levels1_folds v_search_levels1_wrong v_search_levels1_more v_search_levels1_rowOf v_search_levels1_colOf v_search_levels1_below v_search_levels1_face v_search_levels1_worn v_search_levels1_last v_search_levels1_bend v_search_levels1_tall v_search_levels2_rows v_search_levels2_cols v_search_levels2_high v_search_levels2_wide v_search_levels2_folds v_search_levels2_wrong v_search_levels2_more v_search_levels2_rowOf v_search_levels2_colOf v_search_levels2_below v_search_levels2_face v_search_levels2_worn v_search_levels2_last v_search_levels2_bend v_search_levels2_tall v_search_levels3_rows v_search_levels3_cols v_search_levels3_high v_search_levels3_wide v_search_levels3_folds v_search_levels3_wrong v_search_levels3_more v_search_levels3_rowOf v_search_levels3_colOf v_search_levels3_below v_search_levels3_face v_search_levels3_worn v_search_levels3_last v_search_levels3_bend v_search_levels3_tall v_search_path v_search_best v_now_rows v_now_cols v_now_high v_now_wide v_now_folds v_now_wrong v_now_more v_now_rowOf v_now_colOf v_now_below v_now_face v_now_worn v_now_last v_wearing_stepCount v_wearing_stacked v_wearing_steps v_wearing_stack) (fun (w_6 : Bool) (w_7 : Int32) (w_8 : Int32) (w_9 : Int32) (w_10 : Int32) (w_11 : Int32) (w_12 : Int32) (w_13 : Int32) (w_14 : Int32) (w_15 : Int32) (w_16 : Int32) (w_17 : Int32) (w_18 : List Int32) (w_19 : List Int32) (w_20 : List Int32) (w_21 : List Int32) (w_22 : List Int32) (w_23 : List Int32) (w_24 : Int32) (w_25 : Int32) (w_26 : Int32) (w_27 : Int32) (w_28 : Int32) (w_29 : Int32) (w_30 : Int32) (w_31 : List Int32) (w_32 : List Int32) (w_33 : List Int32) (w_34 : List Int32) (w_35 : List Int32) (w_36 : List Int32) (w_37 : List Int32) (w_38 : List Int32) (w_39 : Int32) (w_40 : Int32) (w_41 : Int32) (w_42 : Int32) (w_43 : Int32) (w_44 : Int32) (w_45 : Int32) (w_46 : List Int32) (w_47 : List Int32) (w_48 : List Int32) (w_49 : List Int32) (w_50 : List Int32) (w_51 : List Int32) (w_52 : List Int32) (w_53 : List Int32) (w_54 : Int32) (w_55 : Int32) (w_56 : Int32) (w_57 : Int32) (w_58 : Int32) (w_59 : Int32) (w_60 : Int32) (w_61 : List Int32) (w_62 : List Int32) (w_63 : List Int32) (w_64 : List Int32) (w_65 : List Int32) (w_66 : List Int32) (w_67 : List Int32) (w_68 : List Int32) (w_69 : List Int32) (w_70 : List Int32) (w_71 : Int32) (w_72 : List Int32) =>
    if w_6 = false then
    (some ((-2 : Int32), w_71, w_72, w_6, w_7, w_8, w_9, w_10, w_11, w_12, w_13, w_14, w_15, w_16, w_17, w_18, w_19, w_20, w_21, w_22, w_23, w_24, w_25, w_26, w_27, w_28, w_29, w_30, w_31, w_32, w_33, w_34, w_35, w_36, w_37, w_38, w_39, w_40, w_41, w_42, w_43, w_44, w_45, w_46, w_47, w_48, w_49, w_50, w_51, w_52, w_53, w_54, w_55, w_56, w_57, w_58, w_59, w_60, w_61, w_62, w_63, w_64, w_65, w_66, w_67, w_68, w_69, w_70))
    else (if x1 = (-3 : Int32) then
    (some (w_9, w_71, w_72, w_6, w_7, w_8, w_9, w_10, w_11, w_12, w_13, w_14, w_15, w_16, w_17, w_18, w_19, w_20, w_21, w_22, w_23, w_24, w_25, w_26, w_27, w_28, w_29, w_30, w_31, w_32, w_33, w_34, w_35, w_36, w_37, w_38, w_39, w_40, w_41, w_42, w_43, w_44, w_45, w_46, w_47, w_48, w_49, w_50, w_51, w_52, w_53, w_54, w_55, w_56, w_57, w_58, w_59, w_60, w_61, w_62, w_63, w_64, w_65, w_66, w_67, w_68, w_69, w_70))
    else (if x1 = (-2 : Int32) then
    (some (w_8, w_71, w_72, w_6, w_7, w_8, w_9, w_10, w_11, w_12, w_13, w_14, w_15, w_16, w_17, w_18, w_19, w_20, w_21, w_22, w_23, w_24, w_25, w_26, w_27, w_28, w_29, w_30, w_31, w_32, w_33, w_34, w_35, w_36, w_37, w_38, w_39, w_40, w_41, w_42, w_43, w_44, w_45, w_46, w_47, w_48, w_49, w_50, w_51, w_52, w_53, w_54, w_55, w_56, w_57, w_58, w_59, w_60, w_61, w_62, w_63, w_64, w_65, w_66, w_67, w_68, w_69, w_70))
    else (if x1 = (-1 : Int32) then
    (some (w_7, w_71, w_72, w_6, w_7, w_8, w_9, w_10, w_11, w_12, w_13, w_14, w_15, w_16, w_17, w_18, w_19, w_20, w_21, w_22, w_23, w_24, w_25, w_26, w_27, w_28, w_29, w_30, w_31, w_32, w_33, w_34, w_35, w_36, w_37, w_38, w_39, w_40, w_41, w_42, w_43, w_44, w_45, w_46, w_47, w_48, w_49, w_50, w_51, w_52, w_53, w_54, w_55, w_56, w_57, w_58, w_59, w_60, w_61, w_62, w_63, w_64, w_65, w_66, w_67, w_68, w_69, w_70))
    else (mm_bd1 (fX4_soughtFold N x1 w_9 w_70) (fun (r_78 : Int32) =>
    some (r_78, w_71, w_72, w_6, w_7, w_8, w_9, w_10, w_11, w_12, w_13, w_14, w_15, w_16, w_17, w_18, w_19, w_20, w_21, w_22, w_23, w_24, w_25, w_26, w_27, w_28, w_29, w_30, w_31, w_32, w_33, w_34, w_35, w_36, w_37, w_38, w_39, w_40, w_41, w_42, w_43, w_44, w_45, w_46, w_47, w_48, w_49, w_50, w_51, w_52, w_53, w_54, w_55, w_56, w_57, w_58, w_59, w_60, w_61, w_62, w_63, w_64, w_65, w_66, w_67, w_68, w_69, w_70))))))))
    else (some ((-5 : Int32), v_wearing_stacked, v_wearing_stack, v_search_found, v_search_wrong, v_search_more, v_search_folds, v_search_wanted, v_search_levels0_rows, v_search_levels0_cols, v_search_levels0_high, v_search_levels0_wide, v_search_levels0_folds, v_search_levels0_wrong, v_search_levels0_more, v_search_levels0_rowOf, v_search_levels0_colOf, v_search_levels0_below, v_search_levels0_face, v_search_levels0_worn, v_search_levels0_last, v_search_levels1_rows, v_search_levels1_cols, v_search_levels1_high, v_search_levels1_wide, v_search_levels1_folds, v_search_levels1_wrong, v_search_levels1_more, v_search_levels1_rowOf, v_search_levels1_colOf, v_search_levels1_below, v_search_levels1_face, v_search_levels1_worn, v_search_levels1_last, v_search_levels1_bend, v_search_levels1_tall, v_search_levels2_rows, v_search_levels2_cols, v_search_levels2_high, v_search_levels2_wide, v_search_levels2_folds, v_search_levels2_wrong, v_search_levels2_more, v_search_levels2_rowOf, v_search_levels2_colOf, v_search_levels2_below, v_search_levels2_face, v_search_levels2_worn, v_search_levels2_last, v_search_levels2_bend, v_search_levels2_tall, v_search_levels3_rows, v_search_levels3_cols, v_search_levels3_high, v_search_levels3_wide, v_search_levels3_folds, v_search_levels3_wrong, v_search_levels3_more, v_search_levels3_rowOf, v_search_levels3_colOf, v_search_levels3_below, v_search_levels3_face, v_search_levels3_worn, v_search_levels3_last, v_search_levels3_bend, v_search_levels3_tall, v_search_path, v_search_best))))
    else (some ((-1 : Int32), v_wearing_stacked, v_wearing_stack, v_search_found, v_search_wrong, v_search_more, v_search_folds, v_search_wanted, v_search_levels0_rows, v_search_levels0_cols, v_search_levels0_high, v_search_levels0_wide, v_search_levels0_folds, v_search_levels0_wrong, v_search_levels0_more, v_search_levels0_rowOf, v_search_levels0_colOf, v_search_levels0_below, v_search_levels0_face, v_search_levels0_worn, v_search_levels0_last, v_search_levels1_rows, v_search_levels1_cols, v_search_levels1_high, v_search_levels1_wide, v_search_levels1_folds, v_search_levels1_wrong, v_search_levels1_more, v_search_levels1_rowOf, v_search_levels1_colOf, v_search_levels1_below, v_search_levels1_face, v_search_levels1_worn, v_search_levels1_last, v_search_levels1_bend, v_search_levels1_tall, v_search_levels2_rows, v_search_levels2_cols, v_search_levels2_high, v_search_levels2_wide, v_search_levels2_folds, v_search_levels2_wrong, v_search_levels2_more, v_search_levels2_rowOf, v_search_levels2_colOf, v_search_levels2_below, v_search_levels2_face, v_search_levels2_worn, v_search_levels2_last, v_search_levels2_bend, v_search_levels2_tall, v_search_levels3_rows, v_search_levels3_cols, v_search_levels3_high, v_search_levels3_wide, v_search_levels3_folds, v_search_levels3_wrong, v_search_levels3_more, v_search_levels3_rowOf, v_search_levels3_colOf, v_search_levels3_below, v_search_levels3_face, v_search_levels3_worn, v_search_levels3_last, v_search_levels3_bend, v_search_levels3_tall, v_search_path, v_search_best))) := rfl

set_option maxHeartbeats 4000000 in
set_option maxRecDepth 20000 in
theorem sf_X8_right {N : Nat} (hN : 700 ≤ N) {x1 : Int32} {v_now_rows : Int32} {v_now_cols : Int32} {v_now_high : Int32} {v_now_wide : Int32} {v_now_folds : Int32} {v_now_wrong : Int32} {v_now_more : Int32} {v_now_rowOf : List Int32} {v_now_colOf : List Int32} {v_now_below : List Int32} {v_now_face : List Int32} {v_now_worn : List Int32} {v_now_last : List Int32} {v_wearing_stepCount : Int32} {v_wearing_stacked : Int32} {v_wearing_steps : List Int32} {v_wearing_stack : List Int32} {v_search_found : Bool} {v_search_wrong : Int32} {v_search_more : Int32} {v_search_folds : Int32} {v_search_wanted : Int32} {v_search_levels0_rows : Int32} {v_search_levels0_cols : Int32} {v_search_levels0_high : Int32} {v_search_levels0_wide : Int32} {v_search_levels0_folds : Int32} {v_search_levels0_wrong : Int32} {v_search_levels0_more : Int32} {v_search_levels0_rowOf : List Int32} {v_search_levels0_colOf : List Int32} {v_search_levels0_below : List Int32} {v_search_levels0_face : List Int32} {v_search_levels0_worn : List Int32} {v_search_levels0_last : List Int32} {v_search_levels1_rows : Int32} {v_search_levels1_cols : Int32} {v_search_levels1_high : Int32} {v_search_levels1_wide : Int32} {v_search_levels1_folds : Int32} {v_search_levels1_wrong : Int32} {v_search_levels1_more : Int32} {v_search_levels1_rowOf : List Int32} {v_search_levels1_colOf : List Int32} {v_search_levels1_below : List Int32} {v_search_levels1_face : List Int32} {v_search_levels1_worn : List Int32} {v_search_levels1_last : List Int32} {v_search_levels1_bend : List Int32} {v_search_levels1_tall : List Int32} {v_search_levels2_rows : Int32} {v_search_levels2_cols : Int32} {v_search_levels2_high : Int32} {v_search_levels2_wide : Int32} {v_search_levels2_folds : Int32} {v_search_levels2_wrong : Int32} {v_search_levels2_more : Int32} {v_search_levels2_rowOf : List Int32} {v_search_levels2_colOf : List Int32} {v_search_levels2_below : List Int32} {v_search_levels2_face : List Int32} {v_search_levels2_worn : List Int32} {v_search_levels2_last : List Int32} {v_search_levels2_bend : List Int32} {v_search_levels2_tall : List Int32} {v_search_levels3_rows : Int32} {v_search_levels3_cols : Int32} {v_search_levels3_high : Int32} {v_search_levels3_wide : Int32} {v_search_levels3_folds : Int32} {v_search_levels3_wrong : Int32} {v_search_levels3_more : Int32} {v_search_levels3_rowOf : List Int32} {v_search_levels3_colOf : List Int32} {v_search_levels3_below : List Int32} {v_search_levels3_face : List Int32} {v_search_levels3_worn : List Int32} {v_search_levels3_last : List Int32} {v_search_levels3_bend : List Int32} {v_search_levels3_tall : List Int32} {v_search_path : List Int32} {v_search_best : List Int32} {v_changes_value : Int32} (h_0 : 1 ≤ v_now_rows.toInt) (h_1 : v_now_rows.toInt ≤ 4) (h_2 : 1 ≤ v_now_cols.toInt) (h_3 : v_now_cols.toInt ≤ 8) (h_4 : 1 ≤ v_now_high.toInt) (h_5 : v_now_high.toInt ≤ 4) (h_6 : 1 ≤ v_now_wide.toInt) (h_7 : v_now_wide.toInt ≤ 8) (h_8 : v_now_rowOf.length = 32) (h_9 : v_now_colOf.length = 32) (h_10 : v_now_below.length = 32) (h_11 : v_now_face.length = 32) (h_12 : v_now_worn.length = 64) (h_13 : v_now_last.length = 64) (h_14 : zn v_now_rowOf 0 (v_now_rows.toInt * v_now_cols.toInt) 0 v_now_high.toInt) (h_15 : zn v_now_colOf 0 (v_now_rows.toInt * v_now_cols.toInt) 0 v_now_wide.toInt) (h_16 : 0 ≤ v_wearing_stepCount.toInt) (h_17 : v_wearing_stepCount.toInt ≤ 121) (h_18 : v_wearing_steps.length = 121) (h_19 : v_wearing_stack.length = 121) (h_20 : 0 ≤ v_search_folds.toInt) (h_21 : v_search_folds.toInt ≤ 3) (h_22 : v_search_path.length = 3) (h_23 : v_search_best.length = 3) (h_24 : 1 ≤ v_search_levels0_rows.toInt) (h_25 : v_search_levels0_rows.toInt ≤ 4) (h_26 : 1 ≤ v_search_levels0_cols.toInt) (h_27 : v_search_levels0_cols.toInt ≤ 8) (h_28 : 1 ≤ v_search_levels0_high.toInt) (h_29 : v_search_levels0_high.toInt ≤ 4) (h_30 : 1 ≤ v_search_levels0_wide.toInt) (h_31 : v_search_levels0_wide.toInt ≤ 8) (h_32 : v_search_levels0_rowOf.length = 32) (h_33 : v_search_levels0_colOf.length = 32) (h_34 : v_search_levels0_below.length = 32) (h_35 : v_search_levels0_face.length = 32) (h_36 : v_search_levels0_worn.length = 64) (h_37 : v_search_levels0_last.length = 64) (h_38 : zn v_search_levels0_rowOf 0 (v_search_levels0_rows.toInt * v_search_levels0_cols.toInt) 0 v_search_levels0_high.toInt) (h_39 : zn v_search_levels0_colOf 0 (v_search_levels0_rows.toInt * v_search_levels0_cols.toInt) 0 v_search_levels0_wide.toInt) (h_40 : 1 ≤ v_search_levels1_rows.toInt) (h_41 : v_search_levels1_rows.toInt ≤ 4) (h_42 : 1 ≤ v_search_levels1_cols.toInt) (h_43 : v_search_levels1_cols.toInt ≤ 8) (h_44 : 1 ≤ v_search_levels1_high.toInt) (h_45 : v_search_levels1_high.toInt ≤ 4) (h_46 : 1 ≤ v_search_levels1_wide.toInt) (h_47 : v_search_levels1_wide.toInt ≤ 8) (h_48 : v_search_levels1_rowOf.length = 32) (h_49 : v_search_levels1_colOf.length = 32) (h_50 : v_search_levels1_below.length = 32) (h_51 : v_search_levels1_face.length = 32) (h_52 : v_search_levels1_worn.length = 64) (h_53 : v_search_levels1_last.length = 64) (h_54 : v_search_levels1_bend.length = 64) (h_55 : v_search_levels1_tall.length = 32) (h_56 : zn v_search_levels1_rowOf 0 (v_search_levels1_rows.toInt * v_search_levels1_cols.toInt) 0 v_search_levels1_high.toInt) (h_57 : zn v_search_levels1_colOf 0 (v_search_levels1_rows.toInt * v_search_levels1_cols.toInt) 0 v_search_levels1_wide.toInt) (h_58 : 1 ≤ v_search_levels2_rows.toInt) (h_59 : v_search_levels2_rows.toInt ≤ 4) (h_60 : 1 ≤ v_search_levels2_cols.toInt) (h_61 : v_search_levels2_cols.toInt ≤ 8) (h_62 : 1 ≤ v_search_levels2_high.toInt) (h_63 : v_search_levels2_high.toInt ≤ 4) (h_64 : 1 ≤ v_search_levels2_wide.toInt) (h_65 : v_search_levels2_wide.toInt ≤ 8) (h_66 : v_search_levels2_rowOf.length = 32) (h_67 : v_search_levels2_colOf.length = 32) (h_68 : v_search_levels2_below.length = 32) (h_69 : v_search_levels2_face.length = 32) (h_70 : v_search_levels2_worn.length = 64) (h_71 : v_search_levels2_last.length = 64) (h_72 : v_search_levels2_bend.length = 64) (h_73 : v_search_levels2_tall.length = 32) (h_74 : zn v_search_levels2_rowOf 0 (v_search_levels2_rows.toInt * v_search_levels2_cols.toInt) 0 v_search_levels2_high.toInt) (h_75 : zn v_search_levels2_colOf 0 (v_search_levels2_rows.toInt * v_search_levels2_cols.toInt) 0 v_search_levels2_wide.toInt) (h_76 : 1 ≤ v_search_levels3_rows.toInt) (h_77 : v_search_levels3_rows.toInt ≤ 4) (h_78 : 1 ≤ v_search_levels3_cols.toInt) (h_79 : v_search_levels3_cols.toInt ≤ 8) (h_80 : 1 ≤ v_search_levels3_high.toInt) (h_81 : v_search_levels3_high.toInt ≤ 4) (h_82 : 1 ≤ v_search_levels3_wide.toInt) (h_83 : v_search_levels3_wide.toInt ≤ 8) (h_84 : v_search_levels3_rowOf.length = 32) (h_85 : v_search_levels3_colOf.length = 32) (h_86 : v_search_levels3_below.length = 32) (h_87 : v_search_levels3_face.length = 32) (h_88 : v_search_levels3_worn.length = 64) (h_89 : v_search_levels3_last.length = 64) (h_90 : v_search_levels3_bend.length = 64) (h_91 : v_search_levels3_tall.length = 32) (h_92 : zn v_search_levels3_rowOf 0 (v_search_levels3_rows.toInt * v_search_levels3_cols.toInt) 0 v_search_levels3_high.toInt) (h_93 : zn v_search_levels3_colOf 0 (v_search_levels3_rows.toInt * v_search_levels3_cols.toInt) 0 v_search_levels3_wide.toInt) : wp (fX8_right N x1 v_now_rows v_now_cols v_now_high v_now_wide v_now_folds v_now_wrong v_now_more v_now_rowOf v_now_colOf v_now_below v_now_face v_now_worn v_now_last v_wearing_stepCount v_wearing_stacked v_wearing_steps v_wearing_stack v_search_found v_search_wrong v_search_more v_search_folds v_search_wanted v_search_levels0_rows v_search_levels0_cols v_search_levels0_high v_search_levels0_wide v_search_levels0_folds v_search_levels0_wrong v_search_levels0_more v_search_levels0_rowOf v_search_levels0_colOf v_search_levels0_below v_search_levels0_face v_search_levels0_worn v_search_levels0_last v_search_levels1_rows v_search_levels1_cols v_search_levels1_high v_search_levels1_wide v_search_levels1_folds v_search_levels1_wrong v_search_levels1_more v_search_levels1_rowOf v_search_levels1_colOf v_search_levels1_below v_search_levels1_face v_search_levels1_worn v_search_levels1_last v_search_levels1_bend v_search_levels1_tall v_search_levels2_rows v_search_levels2_cols v_search_levels2_high v_search_levels2_wide v_search_levels2_folds v_search_levels2_wrong v_search_levels2_more v_search_levels2_rowOf v_search_levels2_colOf v_search_levels2_below v_search_levels2_face v_search_levels2_worn v_search_levels2_last v_search_levels2_bend v_search_levels2_tall v_search_levels3_rows v_search_levels3_cols v_search_levels3_high v_search_levels3_wide v_search_levels3_folds v_search_levels3_wrong v_search_levels3_more v_search_levels3_rowOf v_search_levels3_colOf v_search_levels3_below v_search_levels3_face v_search_levels3_worn v_search_levels3_last v_search_levels3_bend v_search_levels3_tall v_search_path v_search_best v_changes_value) (cu68 (fun (r : Int32) (wv_wearing_stacked : Int32) (wv_wearing_stack : List Int32) (wv_search_found : Bool) (wv_search_wrong : Int32) (wv_search_more : Int32) (wv_search_folds : Int32) (wv_search_wanted : Int32) (wv_search_levels0_rows : Int32) (wv_search_levels0_cols : Int32) (wv_search_levels0_high : Int32) (wv_search_levels0_wide : Int32) (wv_search_levels0_folds : Int32) (wv_search_levels0_wrong : Int32) (wv_search_levels0_more : Int32) (wv_search_levels0_rowOf : List Int32) (wv_search_levels0_colOf : List Int32) (wv_search_levels0_below : List Int32) (wv_search_levels0_face : List Int32) (wv_search_levels0_worn : List Int32) (wv_search_levels0_last : List Int32) (wv_search_levels1_rows : Int32) (wv_search_levels1_cols : Int32) (wv_search_levels1_high : Int32) (wv_search_levels1_wide : Int32) (wv_search_levels1_folds : Int32) (wv_search_levels1_wrong : Int32) (wv_search_levels1_more : Int32) (wv_search_levels1_rowOf : List Int32) (wv_search_levels1_colOf : List Int32) (wv_search_levels1_below : List Int32) (wv_search_levels1_face : List Int32) (wv_search_levels1_worn : List Int32) (wv_search_levels1_last : List Int32) (wv_search_levels1_bend : List Int32) (wv_search_levels1_tall : List Int32) (wv_search_levels2_rows : Int32) (wv_search_levels2_cols : Int32) (wv_search_levels2_high : Int32) (wv_search_levels2_wide : Int32) (wv_search_levels2_folds : Int32) (wv_search_levels2_wrong : Int32) (wv_search_levels2_more : Int32) (wv_search_levels2_rowOf : List Int32) (wv_search_levels2_colOf : List Int32) (wv_search_levels2_below : List Int32) (wv_search_levels2_face : List Int32) (wv_search_levels2_worn : List Int32) (wv_search_levels2_last : List Int32) (wv_search_levels2_bend : List Int32) (wv_search_levels2_tall : List Int32) (wv_search_levels3_rows : Int32) (wv_search_levels3_cols : Int32) (wv_search_levels3_high : Int32) (wv_search_levels3_wide : Int32) (wv_search_levels3_folds : Int32) (wv_search_levels3_wrong : Int32) (wv_search_levels3_more : Int32) (wv_search_levels3_rowOf : List Int32) (wv_search_levels3_colOf : List Int32) (wv_search_levels3_below : List Int32) (wv_search_levels3_face : List Int32) (wv_search_levels3_worn : List Int32) (wv_search_levels3_last : List Int32) (wv_search_levels3_bend : List Int32) (wv_search_levels3_tall : List Int32) (wv_search_path : List Int32) (wv_search_best : List Int32) => wv_wearing_stack.length = 121 ∧ 0 ≤ wv_search_folds.toInt ∧ wv_search_folds.toInt ≤ 3 ∧ wv_search_path.length = 3 ∧ wv_search_best.length = 3 ∧ 1 ≤ wv_search_levels0_rows.toInt ∧ wv_search_levels0_rows.toInt ≤ 4 ∧ 1 ≤ wv_search_levels0_cols.toInt ∧ wv_search_levels0_cols.toInt ≤ 8 ∧ 1 ≤ wv_search_levels0_high.toInt ∧ wv_search_levels0_high.toInt ≤ 4 ∧ 1 ≤ wv_search_levels0_wide.toInt ∧ wv_search_levels0_wide.toInt ≤ 8 ∧ wv_search_levels0_rowOf.length = 32 ∧ wv_search_levels0_colOf.length = 32 ∧ wv_search_levels0_below.length = 32 ∧ wv_search_levels0_face.length = 32 ∧ wv_search_levels0_worn.length = 64 ∧ wv_search_levels0_last.length = 64 ∧ zn wv_search_levels0_rowOf 0 (wv_search_levels0_rows.toInt * wv_search_levels0_cols.toInt) 0 wv_search_levels0_high.toInt ∧ zn wv_search_levels0_colOf 0 (wv_search_levels0_rows.toInt * wv_search_levels0_cols.toInt) 0 wv_search_levels0_wide.toInt ∧ 1 ≤ wv_search_levels1_rows.toInt ∧ wv_search_levels1_rows.toInt ≤ 4 ∧ 1 ≤ wv_search_levels1_cols.toInt ∧ wv_search_levels1_cols.toInt ≤ 8 ∧ 1 ≤ wv_search_levels1_high.toInt ∧ wv_search_levels1_high.toInt ≤ 4 ∧ 1 ≤ wv_search_levels1_wide.toInt ∧ wv_search_levels1_wide.toInt ≤ 8 ∧ wv_search_levels1_rowOf.length = 32 ∧ wv_search_levels1_colOf.length = 32 ∧ wv_search_levels1_below.length = 32 ∧ wv_search_levels1_face.length = 32 ∧ wv_search_levels1_worn.length = 64 ∧ wv_search_levels1_last.length = 64 ∧ wv_search_levels1_bend.length = 64 ∧ wv_search_levels1_tall.length = 32 ∧ zn wv_search_levels1_rowOf 0 (wv_search_levels1_rows.toInt * wv_search_levels1_cols.toInt) 0 wv_search_levels1_high.toInt ∧ zn wv_search_levels1_colOf 0 (wv_search_levels1_rows.toInt * wv_search_levels1_cols.toInt) 0 wv_search_levels1_wide.toInt ∧ 1 ≤ wv_search_levels2_rows.toInt ∧ wv_search_levels2_rows.toInt ≤ 4 ∧ 1 ≤ wv_search_levels2_cols.toInt ∧ wv_search_levels2_cols.toInt ≤ 8 ∧ 1 ≤ wv_search_levels2_high.toInt ∧ wv_search_levels2_high.toInt ≤ 4 ∧ 1 ≤ wv_search_levels2_wide.toInt ∧ wv_search_levels2_wide.toInt ≤ 8 ∧ wv_search_levels2_rowOf.length = 32 ∧ wv_search_levels2_colOf.length = 32 ∧ wv_search_levels2_below.length = 32 ∧ wv_search_levels2_face.length = 32 ∧ wv_search_levels2_worn.length = 64 ∧ wv_search_levels2_last.length = 64 ∧ wv_search_levels2_bend.length = 64 ∧ wv_search_levels2_tall.length = 32 ∧ zn wv_search_levels2_rowOf 0 (wv_search_levels2_rows.toInt * wv_search_levels2_cols.toInt) 0 wv_search_levels2_high.toInt ∧ zn wv_search_levels2_colOf 0 (wv_search_levels2_rows.toInt * wv_search_levels2_cols.toInt) 0 wv_search_levels2_wide.toInt ∧ 1 ≤ wv_search_levels3_rows.toInt ∧ wv_search_levels3_rows.toInt ≤ 4 ∧ 1 ≤ wv_search_levels3_cols.toInt ∧ wv_search_levels3_cols.toInt ≤ 8 ∧ 1 ≤ wv_search_levels3_high.toInt ∧ wv_search_levels3_high.toInt ≤ 4 ∧ 1 ≤ wv_search_levels3_wide.toInt ∧ wv_search_levels3_wide.toInt ≤ 8 ∧ wv_search_levels3_rowOf.length = 32 ∧ wv_search_levels3_colOf.length = 32 ∧ wv_search_levels3_below.length = 32 ∧ wv_search_levels3_face.length = 32 ∧ wv_search_levels3_worn.length = 64 ∧ wv_search_levels3_last.length = 64 ∧ wv_search_levels3_bend.length = 64 ∧ wv_search_levels3_tall.length = 32 ∧ zn wv_search_levels3_rowOf 0 (wv_search_levels3_rows.toInt * wv_search_levels3_cols.toInt) 0 wv_search_levels3_high.toInt ∧ zn wv_search_levels3_colOf 0 (wv_search_levels3_rows.toInt * wv_search_levels3_cols.toInt) 0 wv_search_levels3_wide.toInt)) := by
  refine wp_of (uf_X8_right _ _ _ _ _ _ _ _ _ _ _ _ _ _ _ _ _ _ _ _ _ _ _ _ _ _ _ _ _ _ _ _ _ _ _ _ _ _ _ _ _ _ _ _ _ _ _ _ _ _ _ _ _ _ _ _ _ _ _ _ _ _ _ _ _ _ _ _ _ _ _ _ _ _ _ _ _ _ _ _ _ _ _ _ _) ?_
  have n_2 : (-3 : Int32).toInt = -3 := by decide
  refine wp_if (fun c_1 => ?_) (fun c_1 => ?_)
  ·
    have dc_1 := i_lt c_1
    exact wp_so68 ⟨h_19, h_20, h_21, h_22, h_23, h_24, h_25, h_26, h_27, h_28, h_29, h_30, h_31, h_32, h_33, h_34, h_35, h_36, h_37, h_38, h_39, h_40, h_41, h_42, h_43, h_44, h_45, h_46, h_47, h_48, h_49, h_50, h_51, h_52, h_53, h_54, h_55, h_56, h_57, h_58, h_59, h_60, h_61, h_62, h_63, h_64, h_65, h_66, h_67, h_68, h_69, h_70, h_71, h_72, h_73, h_74, h_75, h_76, h_77, h_78, h_79, h_80, h_81, h_82, h_83, h_84, h_85, h_86, h_87, h_88, h_89, h_90, h_91, h_92, h_93⟩
  ·
    have dc_1 := i_nlt c_1
    have n_4 : (3 : Int32).toInt = 3 := by decide
    refine wp_if (fun c_3 => ?_) (fun c_3 => ?_)
    ·
      have dc_3 := i_lt c_3
      refine wp_bd1 (sf_X5_fields hN h_0 h_1 h_2 h_3) (fun r_3 ⟨q_5, q_6, q_7⟩ => ?_)
      have n_9 : (16 : Int32).toInt = 16 := by decide
      refine wp_if (fun c_8 => ?_) (fun c_8 => ?_)
      ·
        have dc_8 := i_le c_8
        refine wp_bd67 (sf_X4_seekLeastWrong hN h_20 h_21 h_22 h_23 h_24 h_25 h_26 h_27 h_28 h_29 h_30 h_31 h_32 h_33 h_34 h_35 h_36 h_37 h_40 h_41 h_42 h_43 h_44 h_45 h_46 h_47 h_48 h_49 h_50 h_51 h_52 h_53 h_54 h_55 h_56 h_57 h_58 h_59 h_60 h_61 h_62 h_63 h_64 h_65 h_66 h_67 h_68 h_69 h_70 h_71 h_72 h_73 h_74 h_75 h_76 h_77 h_78 h_79 h_80 h_81 h_82 h_83 h_84 h_85 h_86 h_87 h_88 h_89 h_90 h_91 h_92 h_93 h_0 h_1 h_2 h_3 h_4 h_5 h_6 h_7 h_8 h_9 h_10 h_11 h_12 h_13 h_14 h_15 h_16 h_17 h_18 h_19) (fun w_6 w_7 w_8 w_9 w_10 w_11 w_12 w_13 w_14 w_15 w_16 w_17 w_18 w_19 w_20 w_21 w_22 w_23 w_24 w_25 w_26 w_27 w_28 w_29 w_30 w_31 w_32 w_33 w_34 w_35 w_36 w_37 w_38 w_39 w_40 w_41 w_42 w_43 w_44 w_45 w_46 w_47 w_48 w_49 w_50 w_51 w_52 w_53 w_54 w_55 w_56 w_57 w_58 w_59 w_60 w_61 w_62 w_63 w_64 w_65 w_66 w_67 w_68 w_69 w_70 w_71 w_72 ⟨q_10, q_11, q_12, q_13, q_14, q_15, q_16, q_17, q_18, q_19, q_20, q_21, q_22, q_23, q_24, q_25, q_26, q_27, q_28, q_29, q_30, q_31, q_32, q_33, q_34, q_35, q_36, q_37, q_38, q_39, q_40, q_41, q_42, q_43, q_44, q_45, q_46, q_47, q_48, q_49, q_50, q_51, q_52, q_53, q_54, q_55, q_56, q_57, q_58, q_59, q_60, q_61, q_62, q_63, q_64, q_65, q_66, q_67, q_68, q_69, q_70, q_71, q_72, q_73, q_74, q_75, q_76, q_77, q_78, q_79, q_80, q_81, q_82, q_83, q_84⟩ => ?_)
        refine wp_if (fun c_85 => ?_) (fun c_85 => ?_)
        ·
          exact wp_so68 ⟨q_84, q_10, q_11, q_12, q_13, q_14, q_15, q_16, q_17, q_18, q_19, q_20, q_21, q_22, q_23, q_24, q_25, q_26, q_27, q_28, q_29, q_30, q_31, q_32, q_33, q_34, q_35, q_36, q_37, q_38, q_39, q_40, q_41, q_42, q_43, q_44, q_45, q_46, q_47, q_48, q_49, q_50, q_51, q_52, q_53, q_54, q_55, q_56, q_57, q_58, q_59, q_60, q_61, q_62, q_63, q_64, q_65, q_66, q_67, q_68, q_69, q_70, q_71, q_72, q_73, q_74, q_75, q_76, q_77, q_78, q_79, q_80, q_81, q_82, q_83⟩
        ·
          refine wp_if (fun c_86 => ?_) (fun c_86 => ?_)
          ·
            have dc_86 := i_eq c_86
            exact wp_so68 ⟨q_84, q_10, q_11, q_12, q_13, q_14, q_15, q_16, q_17, q_18, q_19, q_20, q_21, q_22, q_23, q_24, q_25, q_26, q_27, q_28, q_29, q_30, q_31, q_32, q_33, q_34, q_35, q_36, q_37, q_38, q_39, q_40, q_41, q_42, q_43, q_44, q_45, q_46, q_47, q_48, q_49, q_50, q_51, q_52, q_53, q_54, q_55, q_56, q_57, q_58, q_59, q_60, q_61, q_62, q_63, q_64, q_65, q_66, q_67, q_68, q_69, q_70, q_71, q_72, q_73, q_74, q_75, q_76, q_77, q_78, q_79, q_80, q_81, q_82, q_83⟩
          ·
            have dc_86 := i_ne c_86
            have n_88 : (-2 : Int32).toInt = -2 := by decide
            refine wp_if (fun c_87 => ?_) (fun c_87 => ?_)
            ·
              have dc_87 := i_eq c_87
              exact wp_so68 ⟨q_84, q_10, q_11, q_12, q_13, q_14, q_15, q_16, q_17, q_18, q_19, q_20, q_21, q_22, q_23, q_24, q_25, q_26, q_27, q_28, q_29, q_30, q_31, q_32, q_33, q_34, q_35, q_36, q_37, q_38, q_39, q_40, q_41, q_42, q_43, q_44, q_45, q_46, q_47, q_48, q_49, q_50, q_51, q_52, q_53, q_54, q_55, q_56, q_57, q_58, q_59, q_60, q_61, q_62, q_63, q_64, q_65, q_66, q_67, q_68, q_69, q_70, q_71, q_72, q_73, q_74, q_75, q_76, q_77, q_78, q_79, q_80, q_81, q_82, q_83⟩
            ·
              have dc_87 := i_ne c_87
              have n_90 : (-1 : Int32).toInt = -1 := by decide
              refine wp_if (fun c_89 => ?_) (fun c_89 => ?_)
              ·
                have dc_89 := i_eq c_89
                exact wp_so68 ⟨q_84, q_10, q_11, q_12, q_13, q_14, q_15, q_16, q_17, q_18, q_19, q_20, q_21, q_22, q_23, q_24, q_25, q_26, q_27, q_28, q_29, q_30, q_31, q_32, q_33, q_34, q_35, q_36, q_37, q_38, q_39, q_40, q_41, q_42, q_43, q_44, q_45, q_46, q_47, q_48, q_49, q_50, q_51, q_52, q_53, q_54, q_55, q_56, q_57, q_58, q_59, q_60, q_61, q_62, q_63, q_64, q_65, q_66, q_67, q_68, q_69, q_70, q_71, q_72, q_73, q_74, q_75, q_76, q_77, q_78, q_79, q_80, q_81, q_82, q_83⟩
              ·
                have dc_89 := i_ne c_89
                refine wp_bd1 (sf_X4_soughtFold hN q_10 q_11 q_13) (fun r_78 _ => ?_)
                exact wp_so68 ⟨q_84, q_10, q_11, q_12, q_13, q_14, q_15, q_16, q_17, q_18, q_19, q_20, q_21, q_22, q_23, q_24, q_25, q_26, q_27, q_28, q_29, q_30, q_31, q_32, q_33, q_34, q_35, q_36, q_37, q_38, q_39, q_40, q_41, q_42, q_43, q_44, q_45, q_46, q_47, q_48, q_49, q_50, q_51, q_52, q_53, q_54, q_55, q_56, q_57, q_58, q_59, q_60, q_61, q_62, q_63, q_64, q_65, q_66, q_67, q_68, q_69, q_70, q_71, q_72, q_73, q_74, q_75, q_76, q_77, q_78, q_79, q_80, q_81, q_82, q_83⟩
      ·
        have dc_8 := i_nle c_8
        exact wp_so68 ⟨h_19, h_20, h_21, h_22, h_23, h_24, h_25, h_26, h_27, h_28, h_29, h_30, h_31, h_32, h_33, h_34, h_35, h_36, h_37, h_38, h_39, h_40, h_41, h_42, h_43, h_44, h_45, h_46, h_47, h_48, h_49, h_50, h_51, h_52, h_53, h_54, h_55, h_56, h_57, h_58, h_59, h_60, h_61, h_62, h_63, h_64, h_65, h_66, h_67, h_68, h_69, h_70, h_71, h_72, h_73, h_74, h_75, h_76, h_77, h_78, h_79, h_80, h_81, h_82, h_83, h_84, h_85, h_86, h_87, h_88, h_89, h_90, h_91, h_92, h_93⟩
    ·
      have dc_3 := i_nlt c_3
      exact wp_so68 ⟨h_19, h_20, h_21, h_22, h_23, h_24, h_25, h_26, h_27, h_28, h_29, h_30, h_31, h_32, h_33, h_34, h_35, h_36, h_37, h_38, h_39, h_40, h_41, h_42, h_43, h_44, h_45, h_46, h_47, h_48, h_49, h_50, h_51, h_52, h_53, h_54, h_55, h_56, h_57, h_58, h_59, h_60, h_61, h_62, h_63, h_64, h_65, h_66, h_67, h_68, h_69, h_70, h_71, h_72, h_73, h_74, h_75, h_76, h_77, h_78, h_79, h_80, h_81, h_82, h_83, h_84, h_85, h_86, h_87, h_88, h_89, h_90, h_91, h_92, h_93⟩
end
section
/-! safe -/
theorem uf_X8_crosses (N : Nat) (x1 : Int32) (x2 : Int32) (v_strip_at : List Int32) : fX8_crosses N x1 x2 v_strip_at = mm_bd1 (fX8_isStrip N x1) (fun (r_1 : Bool) =>
    if r_1 = false then
    (some ((-1 : Int32), v_strip_at))
    else (mm_bd2 (fX7_lay N x1 x2 v_strip_at) (fun (r_4 : Bool) (w_5 : List Int32) =>
    if r_4 = false then
    (some ((-1 : Int32), w_5))
    else (mm_bd1 (fX7_firstCross N x1 w_5) (fun (r_8 : Int32) =>
    if 0 ≤ r_8 then
    (some (r_8, w_5))
    else (some ((-2 : Int32), w_5))))))) := rfl

theorem uf_X8_isStrip (N : Nat) (x0 : Int32) : fX8_isStrip N x0 = if x0 < (2 : Int32) then
    (some (false))
    else (if (7 : Int32) < x0 then
    (some (false))
    else (some (true))) := rfl

set_option maxHeartbeats 4000000 in
set_option maxRecDepth 20000 in
theorem sf_X8_crosses {N : Nat} (hN : 700 ≤ N) {x1 : Int32} {x2 : Int32} {v_strip_at : List Int32} (h_0 : v_strip_at.length = 7) : wp (fX8_crosses N x1 x2 v_strip_at) (cu2 (fun (r : Int32) (wv_strip_at : List Int32) => wv_strip_at.length = 7)) := by
  refine wp_of (uf_X8_crosses _ _ _ _) ?_
  refine wp_in1 ?_
  refine wp_of (uf_X8_isStrip _ _) ?_
  have n_2 : (2 : Int32).toInt = 2 := by decide
  refine wp_if (fun c_1 => ?_) (fun c_1 => ?_)
  ·
    have dc_1 := i_lt c_1
    refine wp_so1 ?_
    show wp _ _
    refine wp_ifp (by decide) ?_
    exact wp_so2 h_0
  ·
    have dc_1 := i_nlt c_1
    have n_4 : (7 : Int32).toInt = 7 := by decide
    refine wp_if (fun c_3 => ?_) (fun c_3 => ?_)
    ·
      have dc_3 := i_lt c_3
      refine wp_so1 ?_
      show wp _ _
      refine wp_ifp (by decide) ?_
      exact wp_so2 h_0
    ·
      have dc_3 := i_nlt c_3
      refine wp_so1 ?_
      show wp _ _
      refine wp_ifn (by decide) ?_
      refine wp_bd2 (sf_X7_lay hN h_0 (by omega) (by omega)) (fun r_4 w_5 q_5 => ?_)
      refine wp_if (fun c_6 => ?_) (fun c_6 => ?_)
      ·
        exact wp_so2 q_5
      ·
        refine wp_bd1 (sf_X7_firstCross hN q_5 (by omega) (by omega)) (fun r_8 _ => ?_)
        have n_8 : (0 : Int32).toInt = 0 := by decide
        refine wp_if (fun c_7 => ?_) (fun c_7 => ?_)
        ·
          have dc_7 := i_le c_7
          exact wp_so2 q_5
        ·
          have dc_7 := i_nle c_7
          exact wp_so2 q_5

theorem uf_X8_orders (N : Nat) (x1 : Int32) (x2 : Int32) (v_strip_list : List Int32) (v_strip_found : List Int32) (v_strip_at : List Int32) : fX8_orders N x1 x2 v_strip_list v_strip_found v_strip_at = mm_bd1 (fX8_isStrip N x1) (fun (r_1 : Bool) =>
    if r_1 = false then
    (some ((-1 : Int32), v_strip_list, v_strip_found, v_strip_at))
    else (if x2 = (-1 : Int32) then
    (mm_bd4 (fX7_howMany N x1 v_strip_list v_strip_found v_strip_at) (fun (r_10 : Int32) (w_11 : List Int32) (w_12 : List Int32) (w_13 : List Int32) =>
    some (r_10, w_11, w_12, w_13)))
    else (mm_bd4 (fX7_orderAt N x1 x2 v_strip_list v_strip_found v_strip_at) (fun (r_5 : Int32) (w_6 : List Int32) (w_7 : List Int32) (w_8 : List Int32) =>
    some (r_5, w_6, w_7, w_8))))) := rfl

set_option maxHeartbeats 4000000 in
set_option maxRecDepth 20000 in
theorem sf_X8_orders {N : Nat} (hN : 700 ≤ N) {x1 : Int32} {x2 : Int32} {v_strip_list : List Int32} {v_strip_found : List Int32} {v_strip_at : List Int32} (h_0 : v_strip_list.length = 680) (h_1 : v_strip_found.length = 8) (h_2 : v_strip_at.length = 7) (h_3 : fnd v_strip_found) : wp (fX8_orders N x1 x2 v_strip_list v_strip_found v_strip_at) (cu4 (fun (r : Int32) (wv_strip_list : List Int32) (wv_strip_found : List Int32) (wv_strip_at : List Int32) => wv_strip_list.length = 680 ∧ wv_strip_found.length = 8 ∧ wv_strip_at.length = 7 ∧ fnd wv_strip_found)) := by
  refine wp_of (uf_X8_orders _ _ _ _ _ _) ?_
  refine wp_in1 ?_
  refine wp_of (uf_X8_isStrip _ _) ?_
  have n_2 : (2 : Int32).toInt = 2 := by decide
  refine wp_if (fun c_1 => ?_) (fun c_1 => ?_)
  ·
    have dc_1 := i_lt c_1
    refine wp_so1 ?_
    show wp _ _
    refine wp_ifp (by decide) ?_
    exact wp_so4 ⟨h_0, h_1, h_2, h_3⟩
  ·
    have dc_1 := i_nlt c_1
    have n_4 : (7 : Int32).toInt = 7 := by decide
    refine wp_if (fun c_3 => ?_) (fun c_3 => ?_)
    ·
      have dc_3 := i_lt c_3
      refine wp_so1 ?_
      show wp _ _
      refine wp_ifp (by decide) ?_
      exact wp_so4 ⟨h_0, h_1, h_2, h_3⟩
    ·
      have dc_3 := i_nlt c_3
      refine wp_so1 ?_
      show wp _ _
      refine wp_ifn (by decide) ?_
      have n_6 : (-1 : Int32).toInt = -1 := by decide
      refine wp_if (fun c_5 => ?_) (fun c_5 => ?_)
      ·
        have dc_5 := i_eq c_5
        refine wp_bd4 (sf_X7_howMany hN h_0 h_1 h_2 h_3 (by omega) (by omega)) (fun r_10 w_11 w_12 w_13 ⟨q_7, q_8, q_9, q_10, q_11, q_12⟩ => ?_)
        exact wp_so4 ⟨q_9, q_10, q_11, q_12⟩
      ·
        have dc_5 := i_ne c_5
        refine wp_bd4 (sf_X7_orderAt hN h_0 h_1 h_2 h_3 (by omega) (by omega)) (fun r_5 w_6 w_7 w_8 ⟨q_13, q_14, q_15, q_16⟩ => ?_)
        exact wp_so4 ⟨q_13, q_14, q_15, q_16⟩

theorem uf_X8_bends (N : Nat) (x1 : Int32) (x2 : Int32) (v_strip_at : List Int32) : fX8_bends N x1 x2 v_strip_at = mm_bd1 (fX8_isStrip N x1) (fun (r_1 : Bool) =>
    if r_1 = false then
    (some ((-1 : Int32), v_strip_at))
    else (mm_bd2 (fX7_lay N x1 x2 v_strip_at) (fun (r_4 : Bool) (w_5 : List Int32) =>
    if r_4 = false then
    (some ((-1 : Int32), w_5))
    else (mm_bd1 (fX7_firstCross N x1 w_5) (fun (r_8 : Int32) =>
    if r_8 < 0 then
    (mm_bd1 (fX7_bits N x1 w_5) (fun (r_11 : Int32) =>
    some (r_11, w_5)))
    else (some ((-5 : Int32), w_5))))))) := rfl

set_option maxHeartbeats 4000000 in
set_option maxRecDepth 20000 in
theorem sf_X8_bends {N : Nat} (hN : 700 ≤ N) {x1 : Int32} {x2 : Int32} {v_strip_at : List Int32} (h_0 : v_strip_at.length = 7) : wp (fX8_bends N x1 x2 v_strip_at) (cu2 (fun (r : Int32) (wv_strip_at : List Int32) => wv_strip_at.length = 7)) := by
  refine wp_of (uf_X8_bends _ _ _ _) ?_
  refine wp_in1 ?_
  refine wp_of (uf_X8_isStrip _ _) ?_
  have n_2 : (2 : Int32).toInt = 2 := by decide
  refine wp_if (fun c_1 => ?_) (fun c_1 => ?_)
  ·
    have dc_1 := i_lt c_1
    refine wp_so1 ?_
    show wp _ _
    refine wp_ifp (by decide) ?_
    exact wp_so2 h_0
  ·
    have dc_1 := i_nlt c_1
    have n_4 : (7 : Int32).toInt = 7 := by decide
    refine wp_if (fun c_3 => ?_) (fun c_3 => ?_)
    ·
      have dc_3 := i_lt c_3
      refine wp_so1 ?_
      show wp _ _
      refine wp_ifp (by decide) ?_
      exact wp_so2 h_0
    ·
      have dc_3 := i_nlt c_3
      refine wp_so1 ?_
      show wp _ _
      refine wp_ifn (by decide) ?_
      refine wp_bd2 (sf_X7_lay hN h_0 (by omega) (by omega)) (fun r_4 w_5 q_5 => ?_)
      refine wp_if (fun c_6 => ?_) (fun c_6 => ?_)
      ·
        exact wp_so2 q_5
      ·
        refine wp_bd1 (sf_X7_firstCross hN q_5 (by omega) (by omega)) (fun r_8 _ => ?_)
        have n_8 : (0 : Int32).toInt = 0 := by decide
        refine wp_if (fun c_7 => ?_) (fun c_7 => ?_)
        ·
          have dc_7 := i_lt c_7
          refine wp_bd1 (sf_X7_bits hN q_5 (by omega) (by omega)) (fun r_11 _ => ?_)
          exact wp_so2 q_5
        ·
          have dc_7 := i_nlt c_7
          exact wp_so2 q_5

theorem uf_X8_by (N : Nat) (x1 : Int32) (x2 : Int32) (x3 : Int32) (v_strip_list : List Int32) (v_strip_found : List Int32) (v_strip_at : List Int32) : fX8_by N x1 x2 x3 v_strip_list v_strip_found v_strip_at = mm_bd1 (fX8_isStrip N x1) (fun (r_1 : Bool) =>
    if r_1 = false then
    (some ((-1 : Int32), v_strip_list, v_strip_found, v_strip_at))
    else (if x2 < 0 then
    (some ((-1 : Int32), v_strip_list, v_strip_found, v_strip_at))
    else (if ((1 : Int32) <<< ((x1 - (1 : Int32)) &&& 31)) ≤ x2 then
    (some ((-1 : Int32), v_strip_list, v_strip_found, v_strip_at))
    else (if x3 < 0 then
    (some ((-1 : Int32), v_strip_list, v_strip_found, v_strip_at))
    else (if x3 ≤ (1 : Int32) then
    (if x3 = 0 then
    (mm_bd4 (fX7_howManyBent N x1 x2 v_strip_list v_strip_found v_strip_at) (fun (r_15 : Int32) (w_16 : List Int32) (w_17 : List Int32) (w_18 : List Int32) =>
    some (r_15, w_16, w_17, w_18)))
    else (mm_bd4 (fX7_firstBent N x1 x2 v_strip_list v_strip_found v_strip_at) (fun (r_9 : Int32) (w_10 : List Int32) (w_11 : List Int32) (w_12 : List Int32) =>
    if 0 ≤ r_9 then
    (some (r_9, w_10, w_11, w_12))
    else (some ((-2 : Int32), w_10, w_11, w_12)))))
    else (some ((-1 : Int32), v_strip_list, v_strip_found, v_strip_at))))))) := rfl

set_option maxHeartbeats 4000000 in
set_option maxRecDepth 20000 in
theorem sf_X8_by {N : Nat} (hN : 700 ≤ N) {x1 : Int32} {x2 : Int32} {x3 : Int32} {v_strip_list : List Int32} {v_strip_found : List Int32} {v_strip_at : List Int32} (h_0 : v_strip_list.length = 680) (h_1 : v_strip_found.length = 8) (h_2 : v_strip_at.length = 7) (h_3 : fnd v_strip_found) : wp (fX8_by N x1 x2 x3 v_strip_list v_strip_found v_strip_at) (cu4 (fun (r : Int32) (wv_strip_list : List Int32) (wv_strip_found : List Int32) (wv_strip_at : List Int32) => wv_strip_list.length = 680 ∧ wv_strip_found.length = 8 ∧ wv_strip_at.length = 7 ∧ fnd wv_strip_found)) := by
  refine wp_of (uf_X8_by _ _ _ _ _ _ _) ?_
  refine wp_in1 ?_
  refine wp_of (uf_X8_isStrip _ _) ?_
  have n_2 : (2 : Int32).toInt = 2 := by decide
  refine wp_if (fun c_1 => ?_) (fun c_1 => ?_)
  ·
    have dc_1 := i_lt c_1
    refine wp_so1 ?_
    show wp _ _
    refine wp_ifp (by decide) ?_
    exact wp_so4 ⟨h_0, h_1, h_2, h_3⟩
  ·
    have dc_1 := i_nlt c_1
    have n_4 : (7 : Int32).toInt = 7 := by decide
    refine wp_if (fun c_3 => ?_) (fun c_3 => ?_)
    ·
      have dc_3 := i_lt c_3
      refine wp_so1 ?_
      show wp _ _
      refine wp_ifp (by decide) ?_
      exact wp_so4 ⟨h_0, h_1, h_2, h_3⟩
    ·
      have dc_3 := i_nlt c_3
      refine wp_so1 ?_
      show wp _ _
      refine wp_ifn (by decide) ?_
      have n_6 : (0 : Int32).toInt = 0 := by decide
      refine wp_if (fun c_5 => ?_) (fun c_5 => ?_)
      ·
        have dc_5 := i_lt c_5
        exact wp_so4 ⟨h_0, h_1, h_2, h_3⟩
      ·
        have dc_5 := i_nlt c_5
        refine wp_if (fun c_7 => ?_) (fun c_7 => ?_)
        ·
          have dc_7 := i_le c_7
          exact wp_so4 ⟨h_0, h_1, h_2, h_3⟩
        ·
          have dc_7 := i_nle c_7
          refine wp_if (fun c_8 => ?_) (fun c_8 => ?_)
          ·
            have dc_8 := i_lt c_8
            exact wp_so4 ⟨h_0, h_1, h_2, h_3⟩
          ·
            have dc_8 := i_nlt c_8
            have n_10 : (1 : Int32).toInt = 1 := by decide
            refine wp_if (fun c_9 => ?_) (fun c_9 => ?_)
            ·
              have dc_9 := i_le c_9
              refine wp_if (fun c_11 => ?_) (fun c_11 => ?_)
              ·
                have dc_11 := i_eq c_11
                refine wp_bd4 (sf_X7_howManyBent hN h_0 h_1 h_2 h_3 (by omega) (by omega)) (fun r_15 w_16 w_17 w_18 ⟨q_12, q_13, q_14, q_15⟩ => ?_)
                exact wp_so4 ⟨q_12, q_13, q_14, q_15⟩
              ·
                have dc_11 := i_ne c_11
                refine wp_bd4 (sf_X7_firstBent hN h_0 h_1 h_2 h_3 (by omega) (by omega)) (fun r_9 w_10 w_11 w_12 ⟨q_16, q_17, q_18, q_19⟩ => ?_)
                refine wp_if (fun c_20 => ?_) (fun c_20 => ?_)
                ·
                  have dc_20 := i_le c_20
                  exact wp_so4 ⟨q_16, q_17, q_18, q_19⟩
                ·
                  have dc_20 := i_nle c_20
                  exact wp_so4 ⟨q_16, q_17, q_18, q_19⟩
            ·
              have dc_9 := i_nle c_9
              exact wp_so4 ⟨h_0, h_1, h_2, h_3⟩

theorem uf_X8_with (N : Nat) (x1 : Int32) (x2 : Int32) (v_strip_list : List Int32) (v_strip_found : List Int32) (v_strip_at : List Int32) : fX8_with N x1 x2 v_strip_list v_strip_found v_strip_at = mm_bd1 (fX8_isStrip N x1) (fun (r_1 : Bool) =>
    if r_1 = false then
    (some ((-1 : Int32), v_strip_list, v_strip_found, v_strip_at))
    else (if x2 < 0 then
    (some ((-1 : Int32), v_strip_list, v_strip_found, v_strip_at))
    else (if x2 < x1 then
    (mm_bd4 (fX7_howManyTopped N x1 x2 v_strip_list v_strip_found v_strip_at) (fun (r_6 : Int32) (w_7 : List Int32) (w_8 : List Int32) (w_9 : List Int32) =>
    some (r_6, w_7, w_8, w_9)))
    else (some ((-1 : Int32), v_strip_list, v_strip_found, v_strip_at))))) := rfl

set_option maxHeartbeats 4000000 in
set_option maxRecDepth 20000 in
theorem sf_X8_with {N : Nat} (hN : 700 ≤ N) {x1 : Int32} {x2 : Int32} {v_strip_list : List Int32} {v_strip_found : List Int32} {v_strip_at : List Int32} (h_0 : v_strip_list.length = 680) (h_1 : v_strip_found.length = 8) (h_2 : v_strip_at.length = 7) (h_3 : fnd v_strip_found) : wp (fX8_with N x1 x2 v_strip_list v_strip_found v_strip_at) (cu4 (fun (r : Int32) (wv_strip_list : List Int32) (wv_strip_found : List Int32) (wv_strip_at : List Int32) => wv_strip_list.length = 680 ∧ wv_strip_found.length = 8 ∧ wv_strip_at.length = 7 ∧ fnd wv_strip_found)) := by
  refine wp_of (uf_X8_with _ _ _ _ _ _) ?_
  refine wp_in1 ?_
  refine wp_of (uf_X8_isStrip _ _) ?_
  have n_2 : (2 : Int32).toInt = 2 := by decide
  refine wp_if (fun c_1 => ?_) (fun c_1 => ?_)
  ·
    have dc_1 := i_lt c_1
    refine wp_so1 ?_
    show wp _ _
    refine wp_ifp (by decide) ?_
    exact wp_so4 ⟨h_0, h_1, h_2, h_3⟩
  ·
    have dc_1 := i_nlt c_1
    have n_4 : (7 : Int32).toInt = 7 := by decide
    refine wp_if (fun c_3 => ?_) (fun c_3 => ?_)
    ·
      have dc_3 := i_lt c_3
      refine wp_so1 ?_
      show wp _ _
      refine wp_ifp (by decide) ?_
      exact wp_so4 ⟨h_0, h_1, h_2, h_3⟩
    ·
      have dc_3 := i_nlt c_3
      refine wp_so1 ?_
      show wp _ _
      refine wp_ifn (by decide) ?_
      have n_6 : (0 : Int32).toInt = 0 := by decide
      refine wp_if (fun c_5 => ?_) (fun c_5 => ?_)
      ·
        have dc_5 := i_lt c_5
        exact wp_so4 ⟨h_0, h_1, h_2, h_3⟩
      ·
        have dc_5 := i_nlt c_5
        refine wp_if (fun c_7 => ?_) (fun c_7 => ?_)
        ·
          have dc_7 := i_lt c_7
          refine wp_bd4 (sf_X7_howManyTopped hN h_0 h_1 h_2 h_3 (by omega) (by omega)) (fun r_6 w_7 w_8 w_9 ⟨q_8, q_9, q_10, q_11⟩ => ?_)
          exact wp_so4 ⟨q_8, q_9, q_10, q_11⟩
        ·
          have dc_7 := i_nlt c_7
          exact wp_so4 ⟨h_0, h_1, h_2, h_3⟩

theorem uf_X8_image (N : Nat) (v_hasImage : Bool) (v_now_rows : Int32) (v_now_cols : Int32) (v_now_high : Int32) (v_now_wide : Int32) (v_now_folds : Int32) (v_now_wrong : Int32) (v_now_more : Int32) (v_now_rowOf : List Int32) (v_now_colOf : List Int32) (v_now_below : List Int32) (v_now_face : List Int32) (v_now_worn : List Int32) (v_now_last : List Int32) (v_kept_rows : Int32) (v_kept_cols : Int32) (v_kept_high : Int32) (v_kept_wide : Int32) (v_kept_folds : Int32) (v_kept_wrong : Int32) (v_kept_more : Int32) (v_kept_rowOf : List Int32) (v_kept_colOf : List Int32) (v_kept_below : List Int32) (v_kept_face : List Int32) (v_kept_worn : List Int32) (v_kept_last : List Int32) : fX8_image N v_hasImage v_now_rows v_now_cols v_now_high v_now_wide v_now_folds v_now_wrong v_now_more v_now_rowOf v_now_colOf v_now_below v_now_face v_now_worn v_now_last v_kept_rows v_kept_cols v_kept_high v_kept_wide v_kept_folds v_kept_wrong v_kept_more v_kept_rowOf v_kept_colOf v_kept_below v_kept_face v_kept_worn v_kept_last = mm_bd13 (fX5_copy N v_kept_rows v_kept_cols v_kept_high v_kept_wide v_kept_folds v_kept_wrong v_kept_more v_kept_rowOf v_kept_colOf v_kept_below v_kept_face v_kept_worn v_kept_last v_now_rows v_now_cols v_now_high v_now_wide v_now_folds v_now_wrong v_now_more v_now_rowOf v_now_colOf v_now_below v_now_face v_now_worn v_now_last) (fun (w_1 : Int32) (w_2 : Int32) (w_3 : Int32) (w_4 : Int32) (w_5 : Int32) (w_6 : Int32) (w_7 : Int32) (w_8 : List Int32) (w_9 : List Int32) (w_10 : List Int32) (w_11 : List Int32) (w_12 : List Int32) (w_13 : List Int32) =>
    some (v_now_folds, true, w_1, w_2, w_3, w_4, w_5, w_6, w_7, w_8, w_9, w_10, w_11, w_12, w_13)) := rfl

set_option maxHeartbeats 4000000 in
set_option maxRecDepth 20000 in
theorem sf_X8_image {N : Nat} (hN : 700 ≤ N) {v_hasImage : Bool} {v_now_rows : Int32} {v_now_cols : Int32} {v_now_high : Int32} {v_now_wide : Int32} {v_now_folds : Int32} {v_now_wrong : Int32} {v_now_more : Int32} {v_now_rowOf : List Int32} {v_now_colOf : List Int32} {v_now_below : List Int32} {v_now_face : List Int32} {v_now_worn : List Int32} {v_now_last : List Int32} {v_kept_rows : Int32} {v_kept_cols : Int32} {v_kept_high : Int32} {v_kept_wide : Int32} {v_kept_folds : Int32} {v_kept_wrong : Int32} {v_kept_more : Int32} {v_kept_rowOf : List Int32} {v_kept_colOf : List Int32} {v_kept_below : List Int32} {v_kept_face : List Int32} {v_kept_worn : List Int32} {v_kept_last : List Int32} (h_0 : 1 ≤ v_now_rows.toInt) (h_1 : v_now_rows.toInt ≤ 4) (h_2 : 1 ≤ v_now_cols.toInt) (h_3 : v_now_cols.toInt ≤ 8) (h_4 : 1 ≤ v_now_high.toInt) (h_5 : v_now_high.toInt ≤ 4) (h_6 : 1 ≤ v_now_wide.toInt) (h_7 : v_now_wide.toInt ≤ 8) (h_8 : v_now_rowOf.length = 32) (h_9 : v_now_colOf.length = 32) (h_10 : v_now_below.length = 32) (h_11 : v_now_face.length = 32) (h_12 : v_now_worn.length = 64) (h_13 : v_now_last.length = 64) (h_14 : zn v_now_rowOf 0 (v_now_rows.toInt * v_now_cols.toInt) 0 v_now_high.toInt) (h_15 : zn v_now_colOf 0 (v_now_rows.toInt * v_now_cols.toInt) 0 v_now_wide.toInt) (h_16 : 1 ≤ v_kept_rows.toInt) (h_17 : v_kept_rows.toInt ≤ 4) (h_18 : 1 ≤ v_kept_cols.toInt) (h_19 : v_kept_cols.toInt ≤ 8) (h_20 : 1 ≤ v_kept_high.toInt) (h_21 : v_kept_high.toInt ≤ 4) (h_22 : 1 ≤ v_kept_wide.toInt) (h_23 : v_kept_wide.toInt ≤ 8) (h_24 : v_kept_rowOf.length = 32) (h_25 : v_kept_colOf.length = 32) (h_26 : v_kept_below.length = 32) (h_27 : v_kept_face.length = 32) (h_28 : v_kept_worn.length = 64) (h_29 : v_kept_last.length = 64) (h_30 : zn v_kept_rowOf 0 (v_kept_rows.toInt * v_kept_cols.toInt) 0 v_kept_high.toInt) (h_31 : zn v_kept_colOf 0 (v_kept_rows.toInt * v_kept_cols.toInt) 0 v_kept_wide.toInt) : wp (fX8_image N v_hasImage v_now_rows v_now_cols v_now_high v_now_wide v_now_folds v_now_wrong v_now_more v_now_rowOf v_now_colOf v_now_below v_now_face v_now_worn v_now_last v_kept_rows v_kept_cols v_kept_high v_kept_wide v_kept_folds v_kept_wrong v_kept_more v_kept_rowOf v_kept_colOf v_kept_below v_kept_face v_kept_worn v_kept_last) (cu15 (fun (r : Int32) (wv_hasImage : Bool) (wv_kept_rows : Int32) (wv_kept_cols : Int32) (wv_kept_high : Int32) (wv_kept_wide : Int32) (wv_kept_folds : Int32) (wv_kept_wrong : Int32) (wv_kept_more : Int32) (wv_kept_rowOf : List Int32) (wv_kept_colOf : List Int32) (wv_kept_below : List Int32) (wv_kept_face : List Int32) (wv_kept_worn : List Int32) (wv_kept_last : List Int32) => 1 ≤ wv_kept_rows.toInt ∧ wv_kept_rows.toInt ≤ 4 ∧ 1 ≤ wv_kept_cols.toInt ∧ wv_kept_cols.toInt ≤ 8 ∧ 1 ≤ wv_kept_high.toInt ∧ wv_kept_high.toInt ≤ 4 ∧ 1 ≤ wv_kept_wide.toInt ∧ wv_kept_wide.toInt ≤ 8 ∧ wv_kept_rowOf.length = 32 ∧ wv_kept_colOf.length = 32 ∧ wv_kept_below.length = 32 ∧ wv_kept_face.length = 32 ∧ wv_kept_worn.length = 64 ∧ wv_kept_last.length = 64 ∧ zn wv_kept_rowOf 0 (wv_kept_rows.toInt * wv_kept_cols.toInt) 0 wv_kept_high.toInt ∧ zn wv_kept_colOf 0 (wv_kept_rows.toInt * wv_kept_cols.toInt) 0 wv_kept_wide.toInt)) := by
  refine wp_of (uf_X8_image _ _ _ _ _ _ _ _ _ _ _ _ _ _ _ _ _ _ _ _ _ _ _ _ _ _ _ _) ?_
  refine wp_bd13 (sf_X5_copy hN h_16 h_17 h_18 h_19 h_20 h_21 h_22 h_23 h_24 h_25 h_26 h_27 h_28 h_29 h_0 h_1 h_2 h_3 h_4 h_5 h_6 h_7 h_8 h_9 h_10 h_11 h_12 h_13 h_14 h_15) (fun w_1 w_2 w_3 w_4 w_5 w_6 w_7 w_8 w_9 w_10 w_11 w_12 w_13 ⟨q_1, q_2, q_3, q_4, q_5, q_6, q_7, q_8, q_9, q_10, q_11, q_12, q_13, q_14, q_15, q_16, q_17, q_18, q_19, q_20⟩ => ?_)
  exact wp_so15 ⟨q_1, q_2, q_3, q_4, q_5, q_6, q_7, q_8, q_9, q_10, q_11, q_12, q_13, q_14, q_15, q_16⟩

theorem uf_X8_back (N : Nat) (v_hasImage : Bool) (v_now_rows : Int32) (v_now_cols : Int32) (v_now_high : Int32) (v_now_wide : Int32) (v_now_folds : Int32) (v_now_wrong : Int32) (v_now_more : Int32) (v_now_rowOf : List Int32) (v_now_colOf : List Int32) (v_now_below : List Int32) (v_now_face : List Int32) (v_now_worn : List Int32) (v_now_last : List Int32) (v_kept_rows : Int32) (v_kept_cols : Int32) (v_kept_high : Int32) (v_kept_wide : Int32) (v_kept_folds : Int32) (v_kept_wrong : Int32) (v_kept_more : Int32) (v_kept_rowOf : List Int32) (v_kept_colOf : List Int32) (v_kept_below : List Int32) (v_kept_face : List Int32) (v_kept_worn : List Int32) (v_kept_last : List Int32) : fX8_back N v_hasImage v_now_rows v_now_cols v_now_high v_now_wide v_now_folds v_now_wrong v_now_more v_now_rowOf v_now_colOf v_now_below v_now_face v_now_worn v_now_last v_kept_rows v_kept_cols v_kept_high v_kept_wide v_kept_folds v_kept_wrong v_kept_more v_kept_rowOf v_kept_colOf v_kept_below v_kept_face v_kept_worn v_kept_last = if v_hasImage = false then
    (some ((-5 : Int32), v_now_rows, v_now_cols, v_now_high, v_now_wide, v_now_folds, v_now_wrong, v_now_more, v_now_rowOf, v_now_colOf, v_now_below, v_now_face, v_now_worn, v_now_last))
    else (mm_bd13 (fX5_copy N v_now_rows v_now_cols v_now_high v_now_wide v_now_folds v_now_wrong v_now_more v_now_rowOf v_now_colOf v_now_below v_now_face v_now_worn v_now_last v_kept_rows v_kept_cols v_kept_high v_kept_wide v_kept_folds v_kept_wrong v_kept_more v_kept_rowOf v_kept_colOf v_kept_below v_kept_face v_kept_worn v_kept_last) (fun (w_2 : Int32) (w_3 : Int32) (w_4 : Int32) (w_5 : Int32) (w_6 : Int32) (w_7 : Int32) (w_8 : Int32) (w_9 : List Int32) (w_10 : List Int32) (w_11 : List Int32) (w_12 : List Int32) (w_13 : List Int32) (w_14 : List Int32) =>
    some (w_6, w_2, w_3, w_4, w_5, w_6, w_7, w_8, w_9, w_10, w_11, w_12, w_13, w_14))) := rfl

set_option maxHeartbeats 4000000 in
set_option maxRecDepth 20000 in
theorem sf_X8_back {N : Nat} (hN : 700 ≤ N) {v_hasImage : Bool} {v_now_rows : Int32} {v_now_cols : Int32} {v_now_high : Int32} {v_now_wide : Int32} {v_now_folds : Int32} {v_now_wrong : Int32} {v_now_more : Int32} {v_now_rowOf : List Int32} {v_now_colOf : List Int32} {v_now_below : List Int32} {v_now_face : List Int32} {v_now_worn : List Int32} {v_now_last : List Int32} {v_kept_rows : Int32} {v_kept_cols : Int32} {v_kept_high : Int32} {v_kept_wide : Int32} {v_kept_folds : Int32} {v_kept_wrong : Int32} {v_kept_more : Int32} {v_kept_rowOf : List Int32} {v_kept_colOf : List Int32} {v_kept_below : List Int32} {v_kept_face : List Int32} {v_kept_worn : List Int32} {v_kept_last : List Int32} (h_0 : 1 ≤ v_now_rows.toInt) (h_1 : v_now_rows.toInt ≤ 4) (h_2 : 1 ≤ v_now_cols.toInt) (h_3 : v_now_cols.toInt ≤ 8) (h_4 : 1 ≤ v_now_high.toInt) (h_5 : v_now_high.toInt ≤ 4) (h_6 : 1 ≤ v_now_wide.toInt) (h_7 : v_now_wide.toInt ≤ 8) (h_8 : v_now_rowOf.length = 32) (h_9 : v_now_colOf.length = 32) (h_10 : v_now_below.length = 32) (h_11 : v_now_face.length = 32) (h_12 : v_now_worn.length = 64) (h_13 : v_now_last.length = 64) (h_14 : zn v_now_rowOf 0 (v_now_rows.toInt * v_now_cols.toInt) 0 v_now_high.toInt) (h_15 : zn v_now_colOf 0 (v_now_rows.toInt * v_now_cols.toInt) 0 v_now_wide.toInt) (h_16 : 1 ≤ v_kept_rows.toInt) (h_17 : v_kept_rows.toInt ≤ 4) (h_18 : 1 ≤ v_kept_cols.toInt) (h_19 : v_kept_cols.toInt ≤ 8) (h_20 : 1 ≤ v_kept_high.toInt) (h_21 : v_kept_high.toInt ≤ 4) (h_22 : 1 ≤ v_kept_wide.toInt) (h_23 : v_kept_wide.toInt ≤ 8) (h_24 : v_kept_rowOf.length = 32) (h_25 : v_kept_colOf.length = 32) (h_26 : v_kept_below.length = 32) (h_27 : v_kept_face.length = 32) (h_28 : v_kept_worn.length = 64) (h_29 : v_kept_last.length = 64) (h_30 : zn v_kept_rowOf 0 (v_kept_rows.toInt * v_kept_cols.toInt) 0 v_kept_high.toInt) (h_31 : zn v_kept_colOf 0 (v_kept_rows.toInt * v_kept_cols.toInt) 0 v_kept_wide.toInt) : wp (fX8_back N v_hasImage v_now_rows v_now_cols v_now_high v_now_wide v_now_folds v_now_wrong v_now_more v_now_rowOf v_now_colOf v_now_below v_now_face v_now_worn v_now_last v_kept_rows v_kept_cols v_kept_high v_kept_wide v_kept_folds v_kept_wrong v_kept_more v_kept_rowOf v_kept_colOf v_kept_below v_kept_face v_kept_worn v_kept_last) (cu14 (fun (r : Int32) (wv_now_rows : Int32) (wv_now_cols : Int32) (wv_now_high : Int32) (wv_now_wide : Int32) (wv_now_folds : Int32) (wv_now_wrong : Int32) (wv_now_more : Int32) (wv_now_rowOf : List Int32) (wv_now_colOf : List Int32) (wv_now_below : List Int32) (wv_now_face : List Int32) (wv_now_worn : List Int32) (wv_now_last : List Int32) => 1 ≤ wv_now_rows.toInt ∧ wv_now_rows.toInt ≤ 4 ∧ 1 ≤ wv_now_cols.toInt ∧ wv_now_cols.toInt ≤ 8 ∧ 1 ≤ wv_now_high.toInt ∧ wv_now_high.toInt ≤ 4 ∧ 1 ≤ wv_now_wide.toInt ∧ wv_now_wide.toInt ≤ 8 ∧ wv_now_rowOf.length = 32 ∧ wv_now_colOf.length = 32 ∧ wv_now_below.length = 32 ∧ wv_now_face.length = 32 ∧ wv_now_worn.length = 64 ∧ wv_now_last.length = 64 ∧ zn wv_now_rowOf 0 (wv_now_rows.toInt * wv_now_cols.toInt) 0 wv_now_high.toInt ∧ zn wv_now_colOf 0 (wv_now_rows.toInt * wv_now_cols.toInt) 0 wv_now_wide.toInt)) := by
  refine wp_of (uf_X8_back _ _ _ _ _ _ _ _ _ _ _ _ _ _ _ _ _ _ _ _ _ _ _ _ _ _ _ _) ?_
  refine wp_if (fun c_1 => ?_) (fun c_1 => ?_)
  ·
    exact wp_so14 ⟨h_0, h_1, h_2, h_3, h_4, h_5, h_6, h_7, h_8, h_9, h_10, h_11, h_12, h_13, h_14, h_15⟩
  ·
    refine wp_bd13 (sf_X5_copy hN h_0 h_1 h_2 h_3 h_4 h_5 h_6 h_7 h_8 h_9 h_10 h_11 h_12 h_13 h_16 h_17 h_18 h_19 h_20 h_21 h_22 h_23 h_24 h_25 h_26 h_27 h_28 h_29 h_30 h_31) (fun w_2 w_3 w_4 w_5 w_6 w_7 w_8 w_9 w_10 w_11 w_12 w_13 w_14 ⟨q_2, q_3, q_4, q_5, q_6, q_7, q_8, q_9, q_10, q_11, q_12, q_13, q_14, q_15, q_16, q_17, q_18, q_19, q_20, q_21⟩ => ?_)
    exact wp_so14 ⟨q_2, q_3, q_4, q_5, q_6, q_7, q_8, q_9, q_10, q_11, q_12, q_13, q_14, q_15, q_16, q_17⟩

theorem uf_X8_undo (N : Nat) (v_changes_value : Int32) (v_changes_done : Int32) (v_changes_before : List Int32) : fX8_undo N v_changes_value v_changes_done v_changes_before = if v_changes_done = 0 then
    (some ((-5 : Int32), v_changes_value, v_changes_done))
    else (mm_bd2 (fX0_stepBack N v_changes_value v_changes_done v_changes_before) (fun (w_2 : Int32) (w_3 : Int32) =>
    some (w_3, w_2, w_3))) := rfl

set_option maxHeartbeats 4000000 in
set_option maxRecDepth 20000 in
theorem sf_X8_undo {N : Nat} (hN : 700 ≤ N) {v_changes_value : Int32} {v_changes_done : Int32} {v_changes_before : List Int32} (h_0 : 0 ≤ v_changes_done.toInt) (h_1 : v_changes_done.toInt ≤ 40) (h_2 : v_changes_before.length = 40) : wp (fX8_undo N v_changes_value v_changes_done v_changes_before) (cu3 (fun (r : Int32) (wv_changes_value : Int32) (wv_changes_done : Int32) => 0 ≤ wv_changes_done.toInt ∧ wv_changes_done.toInt ≤ 40)) := by
  refine wp_of (uf_X8_undo _ _ _ _) ?_
  have n_2 : (0 : Int32).toInt = 0 := by decide
  refine wp_if (fun c_1 => ?_) (fun c_1 => ?_)
  ·
    have dc_1 := i_eq c_1
    exact wp_so3 ⟨h_0, h_1⟩
  ·
    have dc_1 := i_ne c_1
    refine wp_bd2 (sf_X0_stepBack hN h_0 h_1 h_2) (fun w_2 w_3 ⟨q_3, q_4⟩ => ?_)
    exact wp_so3 ⟨q_3, q_4⟩

theorem uf_X8_redo (N : Nat) (v_changes_value : Int32) (v_changes_done : Int32) (v_changes_size : Int32) (v_changes_after : List Int32) : fX8_redo N v_changes_value v_changes_done v_changes_size v_changes_after = if v_changes_done = v_changes_size then
    (some ((-5 : Int32), v_changes_value, v_changes_done))
    else (mm_bd2 (fX0_stepOn N v_changes_value v_changes_done v_changes_size v_changes_after) (fun (w_2 : Int32) (w_3 : Int32) =>
    some ((v_changes_size - w_3), w_2, w_3))) := rfl

set_option maxHeartbeats 4000000 in
set_option maxRecDepth 20000 in
theorem sf_X8_redo {N : Nat} (hN : 700 ≤ N) {v_changes_value : Int32} {v_changes_done : Int32} {v_changes_size : Int32} {v_changes_after : List Int32} (h_0 : 0 ≤ v_changes_done.toInt) (h_1 : v_changes_done.toInt ≤ 40) (h_2 : 0 ≤ v_changes_size.toInt) (h_3 : v_changes_size.toInt ≤ 40) (h_4 : v_changes_after.length = 40) : wp (fX8_redo N v_changes_value v_changes_done v_changes_size v_changes_after) (cu3 (fun (r : Int32) (wv_changes_value : Int32) (wv_changes_done : Int32) => 0 ≤ wv_changes_done.toInt ∧ wv_changes_done.toInt ≤ 40)) := by
  refine wp_of (uf_X8_redo _ _ _ _ _) ?_
  refine wp_if (fun c_1 => ?_) (fun c_1 => ?_)
  ·
    have dc_1 := i_eq c_1
    exact wp_so3 ⟨h_0, h_1⟩
  ·
    have dc_1 := i_ne c_1
    refine wp_bd2 (sf_X0_stepOn hN h_0 h_1 h_2 h_3 h_4) (fun w_2 w_3 ⟨q_2, q_3⟩ => ?_)
    exact wp_so3 ⟨q_2, q_3⟩

theorem uf_X8_body (N : Nat) (x1 : Int32) (v_foldings_size : Int32) (v_foldings_kinds : List Int32) : fX8_body N x1 v_foldings_size v_foldings_kinds = if x1 < 0 then
    (some ((-1 : Int32), v_foldings_size, v_foldings_kinds))
    else (if x1 < (8 : Int32) then
    (mm_bd3 (fX1_make N x1 v_foldings_size v_foldings_kinds) (fun (r_3 : Bool) (w_4 : Int32) (w_5 : List Int32) =>
    if r_3 = false then
    (some ((-3 : Int32), w_4, w_5))
    else (some ((w_4 - (1 : Int32)), w_4, w_5))))
    else (some ((-1 : Int32), v_foldings_size, v_foldings_kinds))) := rfl

set_option maxHeartbeats 4000000 in
set_option maxRecDepth 20000 in
theorem sf_X8_body {N : Nat} (hN : 700 ≤ N) {x1 : Int32} {v_foldings_size : Int32} {v_foldings_kinds : List Int32} (h_0 : 0 ≤ v_foldings_size.toInt) (h_1 : v_foldings_size.toInt ≤ 50) (h_2 : v_foldings_kinds.length = 50) (h_3 : zn v_foldings_kinds 0 v_foldings_size.toInt 0 8) : wp (fX8_body N x1 v_foldings_size v_foldings_kinds) (cu3 (fun (r : Int32) (wv_foldings_size : Int32) (wv_foldings_kinds : List Int32) => 0 ≤ wv_foldings_size.toInt ∧ wv_foldings_size.toInt ≤ 50 ∧ wv_foldings_kinds.length = 50 ∧ zn wv_foldings_kinds 0 wv_foldings_size.toInt 0 8)) := by
  refine wp_of (uf_X8_body _ _ _ _) ?_
  have n_2 : (0 : Int32).toInt = 0 := by decide
  refine wp_if (fun c_1 => ?_) (fun c_1 => ?_)
  ·
    have dc_1 := i_lt c_1
    exact wp_so3 ⟨h_0, h_1, h_2, h_3⟩
  ·
    have dc_1 := i_nlt c_1
    have n_4 : (8 : Int32).toInt = 8 := by decide
    refine wp_if (fun c_3 => ?_) (fun c_3 => ?_)
    ·
      have dc_3 := i_lt c_3
      refine wp_bd3 (sf_X1_make hN h_0 h_1 h_2 h_3 (by omega) (by omega)) (fun r_3 w_4 w_5 ⟨q_5, q_6, q_7, q_8⟩ => ?_)
      refine wp_if (fun c_9 => ?_) (fun c_9 => ?_)
      ·
        exact wp_so3 ⟨q_5, q_6, q_7, q_8⟩
      ·
        exact wp_so3 ⟨q_5, q_6, q_7, q_8⟩
    ·
      have dc_3 := i_nlt c_3
      exact wp_so3 ⟨h_0, h_1, h_2, h_3⟩

theorem uf_X8_trace (N : Nat) (x1 : Int32) (v_foldings_ran : Int32) (v_foldings_trace : List Int32) : fX8_trace N x1 v_foldings_ran v_foldings_trace = mm_bd1 (fX1_traced N x1 v_foldings_ran v_foldings_trace) (fun (r_1 : Int32) =>
    some (r_1)) := rfl

set_option maxHeartbeats 4000000 in
set_option maxRecDepth 20000 in
theorem sf_X8_trace {N : Nat} (hN : 700 ≤ N) {x1 : Int32} {v_foldings_ran : Int32} {v_foldings_trace : List Int32} (h_0 : v_foldings_trace.length = 24) : wp (fX8_trace N x1 v_foldings_ran v_foldings_trace) (fun (r : Int32) => True) := by
  refine wp_of (uf_X8_trace _ _ _ _) ?_
  refine wp_bd1 (sf_X1_traced hN h_0) (fun r_1 _ => ?_)
  exact wp_so1 trivial
end
section
/-! safe -/
theorem uf_X8_isShelf (N : Nat) (x0 : Int32) : fX8_isShelf N x0 = if x0 < 0 then
    (some (false))
    else (if (6 : Int32) ≤ x0 then
    (some (false))
    else (some (true))) := rfl

theorem uf_X8_keep (N : Nat) (x1 : Int32) (x2 : Int32) (v_foldings_size : Int32) (v_shelves0_holds : Int32) (v_shelves0_body : Int32) (v_shelves1_holds : Int32) (v_shelves1_body : Int32) (v_shelves2_holds : Int32) (v_shelves2_body : Int32) (v_shelves3_holds : Int32) (v_shelves3_body : Int32) (v_shelves4_holds : Int32) (v_shelves4_body : Int32) (v_shelves5_holds : Int32) (v_shelves5_body : Int32) : fX8_keep N x1 x2 v_foldings_size v_shelves0_holds v_shelves0_body v_shelves1_holds v_shelves1_body v_shelves2_holds v_shelves2_body v_shelves3_holds v_shelves3_body v_shelves4_holds v_shelves4_body v_shelves5_holds v_shelves5_body = mm_bd1 (fX8_isShelf N x1) (fun (r_1 : Bool) =>
    if r_1 = false then
    (some ((-1 : Int32), v_shelves0_holds, v_shelves0_body, v_shelves1_holds, v_shelves1_body, v_shelves2_holds, v_shelves2_body, v_shelves3_holds, v_shelves3_body, v_shelves4_holds, v_shelves4_body, v_shelves5_holds, v_shelves5_body))
    else (if x2 = (-1 : Int32) then
    (fX8_keep_25 N x1 x2 v_foldings_size v_shelves0_holds v_shelves0_body v_shelves1_holds v_shelves1_body v_shelves2_holds v_shelves2_body v_shelves3_holds v_shelves3_body v_shelves4_holds v_shelves4_body v_shelves5_holds v_shelves5_body)
    else (mm_bd1 (fX1_has N x2 v_foldings_size) (fun (r_5 : Bool) =>
    if r_5 = false then
    (some ((-1 : Int32), v_shelves0_holds, v_shelves0_body, v_shelves1_holds, v_shelves1_body, v_shelves2_holds, v_shelves2_body, v_shelves3_holds, v_shelves3_body, v_shelves4_holds, v_shelves4_body, v_shelves5_holds, v_shelves5_body))
    else (fX8_keep_25 N x1 x2 v_foldings_size v_shelves0_holds v_shelves0_body v_shelves1_holds v_shelves1_body v_shelves2_holds v_shelves2_body v_shelves3_holds v_shelves3_body v_shelves4_holds v_shelves4_body v_shelves5_holds v_shelves5_body))))) := rfl

theorem uf_X8_keep_25 (N : Nat) (x1 : Int32) (x2 : Int32) (v_foldings_size : Int32) (v_shelves0_holds : Int32) (v_shelves0_body : Int32) (v_shelves1_holds : Int32) (v_shelves1_body : Int32) (v_shelves2_holds : Int32) (v_shelves2_body : Int32) (v_shelves3_holds : Int32) (v_shelves3_body : Int32) (v_shelves4_holds : Int32) (v_shelves4_body : Int32) (v_shelves5_holds : Int32) (v_shelves5_body : Int32) : fX8_keep_25 N x1 x2 v_foldings_size v_shelves0_holds v_shelves0_body v_shelves1_holds v_shelves1_body v_shelves2_holds v_shelves2_body v_shelves3_holds v_shelves3_body v_shelves4_holds v_shelves4_body v_shelves5_holds v_shelves5_body = if x2 = (-1 : Int32) then
    (if x1 = (0 : Int32) then
    (some ((1 : Int32), (0 : Int32), v_shelves0_body, v_shelves1_holds, v_shelves1_body, v_shelves2_holds, v_shelves2_body, v_shelves3_holds, v_shelves3_body, v_shelves4_holds, v_shelves4_body, v_shelves5_holds, v_shelves5_body))
    else (if x1 = (1 : Int32) then
    (some ((1 : Int32), v_shelves0_holds, v_shelves0_body, (0 : Int32), v_shelves1_body, v_shelves2_holds, v_shelves2_body, v_shelves3_holds, v_shelves3_body, v_shelves4_holds, v_shelves4_body, v_shelves5_holds, v_shelves5_body))
    else (if x1 = (2 : Int32) then
    (some ((1 : Int32), v_shelves0_holds, v_shelves0_body, v_shelves1_holds, v_shelves1_body, (0 : Int32), v_shelves2_body, v_shelves3_holds, v_shelves3_body, v_shelves4_holds, v_shelves4_body, v_shelves5_holds, v_shelves5_body))
    else (if x1 = (3 : Int32) then
    (some ((1 : Int32), v_shelves0_holds, v_shelves0_body, v_shelves1_holds, v_shelves1_body, v_shelves2_holds, v_shelves2_body, (0 : Int32), v_shelves3_body, v_shelves4_holds, v_shelves4_body, v_shelves5_holds, v_shelves5_body))
    else (if x1 = (4 : Int32) then
    (some ((1 : Int32), v_shelves0_holds, v_shelves0_body, v_shelves1_holds, v_shelves1_body, v_shelves2_holds, v_shelves2_body, v_shelves3_holds, v_shelves3_body, (0 : Int32), v_shelves4_body, v_shelves5_holds, v_shelves5_body))
    else (if x1 = (5 : Int32) then
    (some ((1 : Int32), v_shelves0_holds, v_shelves0_body, v_shelves1_holds, v_shelves1_body, v_shelves2_holds, v_shelves2_body, v_shelves3_holds, v_shelves3_body, v_shelves4_holds, v_shelves4_body, (0 : Int32), v_shelves5_body))
    else (none)))))))
    else (if x1 = (0 : Int32) then
    (mm_bd2 (fX6_holdFolding N x2 v_shelves0_holds v_shelves0_body) (fun (w_10 : Int32) (w_11 : Int32) =>
    some ((1 : Int32), w_10, w_11, v_shelves1_holds, v_shelves1_body, v_shelves2_holds, v_shelves2_body, v_shelves3_holds, v_shelves3_body, v_shelves4_holds, v_shelves4_body, v_shelves5_holds, v_shelves5_body)))
    else (if x1 = (1 : Int32) then
    (mm_bd2 (fX6_holdFolding N x2 v_shelves1_holds v_shelves1_body) (fun (w_14 : Int32) (w_15 : Int32) =>
    some ((1 : Int32), v_shelves0_holds, v_shelves0_body, w_14, w_15, v_shelves2_holds, v_shelves2_body, v_shelves3_holds, v_shelves3_body, v_shelves4_holds, v_shelves4_body, v_shelves5_holds, v_shelves5_body)))
    else (if x1 = (2 : Int32) then
    (mm_bd2 (fX6_holdFolding N x2 v_shelves2_holds v_shelves2_body) (fun (w_18 : Int32) (w_19 : Int32) =>
    some ((1 : Int32), v_shelves0_holds, v_shelves0_body, v_shelves1_holds, v_shelves1_body, w_18, w_19, v_shelves3_holds, v_shelves3_body, v_shelves4_holds, v_shelves4_body, v_shelves5_holds, v_shelves5_body)))
    else (if x1 = (3 : Int32) then
    (mm_bd2 (fX6_holdFolding N x2 v_shelves3_holds v_shelves3_body) (fun (w_22 : Int32) (w_23 : Int32) =>
    some ((1 : Int32), v_shelves0_holds, v_shelves0_body, v_shelves1_holds, v_shelves1_body, v_shelves2_holds, v_shelves2_body, w_22, w_23, v_shelves4_holds, v_shelves4_body, v_shelves5_holds, v_shelves5_body)))
    else (if x1 = (4 : Int32) then
    (mm_bd2 (fX6_holdFolding N x2 v_shelves4_holds v_shelves4_body) (fun (w_26 : Int32) (w_27 : Int32) =>
    some ((1 : Int32), v_shelves0_holds, v_shelves0_body, v_shelves1_holds, v_shelves1_body, v_shelves2_holds, v_shelves2_body, v_shelves3_holds, v_shelves3_body, w_26, w_27, v_shelves5_holds, v_shelves5_body)))
    else (if x1 = (5 : Int32) then
    (mm_bd2 (fX6_holdFolding N x2 v_shelves5_holds v_shelves5_body) (fun (w_30 : Int32) (w_31 : Int32) =>
    some ((1 : Int32), v_shelves0_holds, v_shelves0_body, v_shelves1_holds, v_shelves1_body, v_shelves2_holds, v_shelves2_body, v_shelves3_holds, v_shelves3_body, v_shelves4_holds, v_shelves4_body, w_30, w_31)))
    else (none))))))) := rfl

set_option maxHeartbeats 4000000 in
set_option maxRecDepth 20000 in
theorem sf_X8_keep {N : Nat} (hN : 700 ≤ N) {x1 : Int32} {x2 : Int32} {v_foldings_size : Int32} {v_shelves0_holds : Int32} {v_shelves0_body : Int32} {v_shelves1_holds : Int32} {v_shelves1_body : Int32} {v_shelves2_holds : Int32} {v_shelves2_body : Int32} {v_shelves3_holds : Int32} {v_shelves3_body : Int32} {v_shelves4_holds : Int32} {v_shelves4_body : Int32} {v_shelves5_holds : Int32} {v_shelves5_body : Int32} (h_0 : 0 ≤ v_foldings_size.toInt) (h_1 : v_foldings_size.toInt ≤ 50) : wp (fX8_keep N x1 x2 v_foldings_size v_shelves0_holds v_shelves0_body v_shelves1_holds v_shelves1_body v_shelves2_holds v_shelves2_body v_shelves3_holds v_shelves3_body v_shelves4_holds v_shelves4_body v_shelves5_holds v_shelves5_body) (cu13 (fun (r : Int32) (wv_shelves0_holds : Int32) (wv_shelves0_body : Int32) (wv_shelves1_holds : Int32) (wv_shelves1_body : Int32) (wv_shelves2_holds : Int32) (wv_shelves2_body : Int32) (wv_shelves3_holds : Int32) (wv_shelves3_body : Int32) (wv_shelves4_holds : Int32) (wv_shelves4_body : Int32) (wv_shelves5_holds : Int32) (wv_shelves5_body : Int32) => True)) := by
  refine wp_of (uf_X8_keep _ _ _ _ _ _ _ _ _ _ _ _ _ _ _ _) ?_
  refine wp_in1 ?_
  refine wp_of (uf_X8_isShelf _ _) ?_
  have n_2 : (0 : Int32).toInt = 0 := by decide
  refine wp_if (fun c_1 => ?_) (fun c_1 => ?_)
  ·
    have dc_1 := i_lt c_1
    refine wp_so1 ?_
    show wp _ _
    refine wp_ifp (by decide) ?_
    exact wp_so13 trivial
  ·
    have dc_1 := i_nlt c_1
    have n_4 : (6 : Int32).toInt = 6 := by decide
    refine wp_if (fun c_3 => ?_) (fun c_3 => ?_)
    ·
      have dc_3 := i_le c_3
      refine wp_so1 ?_
      show wp _ _
      refine wp_ifp (by decide) ?_
      exact wp_so13 trivial
    ·
      have dc_3 := i_nle c_3
      refine wp_so1 ?_
      show wp _ _
      refine wp_ifn (by decide) ?_
      have n_6 : (-1 : Int32).toInt = -1 := by decide
      refine wp_if (fun c_5 => ?_) (fun c_5 => ?_)
      ·
        have dc_5 := i_eq c_5
        refine wp_of (uf_X8_keep_25 _ _ _ _ _ _ _ _ _ _ _ _ _ _ _ _) ?_
        refine wp_ifp c_5 ?_
        refine wp_if (fun c_7 => ?_) (fun c_7 => ?_)
        ·
          have dc_7 := i_eq c_7
          exact wp_so13 trivial
        ·
          have dc_7 := i_ne c_7
          have n_9 : (1 : Int32).toInt = 1 := by decide
          refine wp_if (fun c_8 => ?_) (fun c_8 => ?_)
          ·
            have dc_8 := i_eq c_8
            exact wp_so13 trivial
          ·
            have dc_8 := i_ne c_8
            have n_11 : (2 : Int32).toInt = 2 := by decide
            refine wp_if (fun c_10 => ?_) (fun c_10 => ?_)
            ·
              have dc_10 := i_eq c_10
              exact wp_so13 trivial
            ·
              have dc_10 := i_ne c_10
              have n_13 : (3 : Int32).toInt = 3 := by decide
              refine wp_if (fun c_12 => ?_) (fun c_12 => ?_)
              ·
                have dc_12 := i_eq c_12
                exact wp_so13 trivial
              ·
                have dc_12 := i_ne c_12
                have n_15 : (4 : Int32).toInt = 4 := by decide
                refine wp_if (fun c_14 => ?_) (fun c_14 => ?_)
                ·
                  have dc_14 := i_eq c_14
                  exact wp_so13 trivial
                ·
                  have dc_14 := i_ne c_14
                  have n_17 : (5 : Int32).toInt = 5 := by decide
                  refine wp_if (fun c_16 => ?_) (fun c_16 => ?_)
                  ·
                    have dc_16 := i_eq c_16
                    exact wp_so13 trivial
                  ·
                    have dc_16 := i_ne c_16
                    exact (show False by omega).elim
      ·
        have dc_5 := i_ne c_5
        refine wp_bd1 (sf_X1_has hN h_0 h_1) (fun r_5 q_18 => ?_)
        rcases q_18 with ⟨rfl, q_18⟩ | ⟨rfl, q_18⟩
        ·
          refine wp_ifn (by decide) ?_
          refine wp_of (uf_X8_keep_25 _ _ _ _ _ _ _ _ _ _ _ _ _ _ _ _) ?_
          refine wp_ifn c_5 ?_
          refine wp_if (fun c_19 => ?_) (fun c_19 => ?_)
          ·
            have dc_19 := i_eq c_19
            refine wp_bd2 (sf_X6_holdFolding hN ) (fun w_10 w_11 _ => ?_)
            exact wp_so13 trivial
          ·
            have dc_19 := i_ne c_19
            have n_21 : (1 : Int32).toInt = 1 := by decide
            refine wp_if (fun c_20 => ?_) (fun c_20 => ?_)
            ·
              have dc_20 := i_eq c_20
              refine wp_bd2 (sf_X6_holdFolding hN ) (fun w_14 w_15 _ => ?_)
              exact wp_so13 trivial
            ·
              have dc_20 := i_ne c_20
              have n_23 : (2 : Int32).toInt = 2 := by decide
              refine wp_if (fun c_22 => ?_) (fun c_22 => ?_)
              ·
                have dc_22 := i_eq c_22
                refine wp_bd2 (sf_X6_holdFolding hN ) (fun w_18 w_19 _ => ?_)
                exact wp_so13 trivial
              ·
                have dc_22 := i_ne c_22
                have n_25 : (3 : Int32).toInt = 3 := by decide
                refine wp_if (fun c_24 => ?_) (fun c_24 => ?_)
                ·
                  have dc_24 := i_eq c_24
                  refine wp_bd2 (sf_X6_holdFolding hN ) (fun w_22 w_23 _ => ?_)
                  exact wp_so13 trivial
                ·
                  have dc_24 := i_ne c_24
                  have n_27 : (4 : Int32).toInt = 4 := by decide
                  refine wp_if (fun c_26 => ?_) (fun c_26 => ?_)
                  ·
                    have dc_26 := i_eq c_26
                    refine wp_bd2 (sf_X6_holdFolding hN ) (fun w_26 w_27 _ => ?_)
                    exact wp_so13 trivial
                  ·
                    have dc_26 := i_ne c_26
                    have n_29 : (5 : Int32).toInt = 5 := by decide
                    refine wp_if (fun c_28 => ?_) (fun c_28 => ?_)
                    ·
                      have dc_28 := i_eq c_28
                      refine wp_bd2 (sf_X6_holdFolding hN ) (fun w_30 w_31 _ => ?_)
                      exact wp_so13 trivial
                    ·
                      have dc_28 := i_ne c_28
                      exact (show False by omega).elim
        ·
          refine wp_ifp (by decide) ?_
          exact wp_so13 trivial

theorem uf_X8_row (N : Nat) (x1 : Int32) (x2 : Int32) (x3 : Int32) (v_shelves0_holds : Int32) (v_shelves0_sort : Int32) (v_shelves0_size : Int32) (v_shelves0_items : List Int64) (v_shelves1_holds : Int32) (v_shelves1_sort : Int32) (v_shelves1_size : Int32) (v_shelves1_items : List Int64) (v_shelves2_holds : Int32) (v_shelves2_sort : Int32) (v_shelves2_size : Int32) (v_shelves2_items : List Int64) (v_shelves3_holds : Int32) (v_shelves3_sort : Int32) (v_shelves3_size : Int32) (v_shelves3_items : List Int64) (v_shelves4_holds : Int32) (v_shelves4_sort : Int32) (v_shelves4_size : Int32) (v_shelves4_items : List Int64) (v_shelves5_holds : Int32) (v_shelves5_sort : Int32) (v_shelves5_size : Int32) (v_shelves5_items : List Int64) : fX8_row N x1 x2 x3 v_shelves0_holds v_shelves0_sort v_shelves0_size v_shelves0_items v_shelves1_holds v_shelves1_sort v_shelves1_size v_shelves1_items v_shelves2_holds v_shelves2_sort v_shelves2_size v_shelves2_items v_shelves3_holds v_shelves3_sort v_shelves3_size v_shelves3_items v_shelves4_holds v_shelves4_sort v_shelves4_size v_shelves4_items v_shelves5_holds v_shelves5_sort v_shelves5_size v_shelves5_items = mm_bd1 (fX8_isShelf N x1) (fun (r_1 : Bool) =>
    if r_1 = false then
    (some ((-1 : Int32), v_shelves0_holds, v_shelves0_sort, v_shelves0_size, v_shelves0_items, v_shelves1_holds, v_shelves1_sort, v_shelves1_size, v_shelves1_items, v_shelves2_holds, v_shelves2_sort, v_shelves2_size, v_shelves2_items, v_shelves3_holds, v_shelves3_sort, v_shelves3_size, v_shelves3_items, v_shelves4_holds, v_shelves4_sort, v_shelves4_size, v_shelves4_items, v_shelves5_holds, v_shelves5_sort, v_shelves5_size, v_shelves5_items))
    else (if x2 < 0 then
    (some ((-1 : Int32), v_shelves0_holds, v_shelves0_sort, v_shelves0_size, v_shelves0_items, v_shelves1_holds, v_shelves1_sort, v_shelves1_size, v_shelves1_items, v_shelves2_holds, v_shelves2_sort, v_shelves2_size, v_shelves2_items, v_shelves3_holds, v_shelves3_sort, v_shelves3_size, v_shelves3_items, v_shelves4_holds, v_shelves4_sort, v_shelves4_size, v_shelves4_items, v_shelves5_holds, v_shelves5_sort, v_shelves5_size, v_shelves5_items))
    else (if (5 : Int32) ≤ x2 then
    (some ((-1 : Int32), v_shelves0_holds, v_shelves0_sort, v_shelves0_size, v_shelves0_items, v_shelves1_holds, v_shelves1_sort, v_shelves1_size, v_shelves1_items, v_shelves2_holds, v_shelves2_sort, v_shelves2_size, v_shelves2_items, v_shelves3_holds, v_shelves3_sort, v_shelves3_size, v_shelves3_items, v_shelves4_holds, v_shelves4_sort, v_shelves4_size, v_shelves4_items, v_shelves5_holds, v_shelves5_sort, v_shelves5_size, v_shelves5_items))
    else (if x3 ≤ (60 : Int32) then
    (if 0 ≤ x3 then
    (if x1 = (0 : Int32) then
    (mm_bd4 (fX6_holdRow N x2 x3 v_shelves0_holds v_shelves0_sort v_shelves0_size v_shelves0_items) (fun (w_9 : Int32) (w_10 : Int32) (w_11 : Int32) (w_12 : List Int64) =>
    some ((1 : Int32), w_9, w_10, w_11, w_12, v_shelves1_holds, v_shelves1_sort, v_shelves1_size, v_shelves1_items, v_shelves2_holds, v_shelves2_sort, v_shelves2_size, v_shelves2_items, v_shelves3_holds, v_shelves3_sort, v_shelves3_size, v_shelves3_items, v_shelves4_holds, v_shelves4_sort, v_shelves4_size, v_shelves4_items, v_shelves5_holds, v_shelves5_sort, v_shelves5_size, v_shelves5_items)))
    else (if x1 = (1 : Int32) then
    (mm_bd4 (fX6_holdRow N x2 x3 v_shelves1_holds v_shelves1_sort v_shelves1_size v_shelves1_items) (fun (w_15 : Int32) (w_16 : Int32) (w_17 : Int32) (w_18 : List Int64) =>
    some ((1 : Int32), v_shelves0_holds, v_shelves0_sort, v_shelves0_size, v_shelves0_items, w_15, w_16, w_17, w_18, v_shelves2_holds, v_shelves2_sort, v_shelves2_size, v_shelves2_items, v_shelves3_holds, v_shelves3_sort, v_shelves3_size, v_shelves3_items, v_shelves4_holds, v_shelves4_sort, v_shelves4_size, v_shelves4_items, v_shelves5_holds, v_shelves5_sort, v_shelves5_size, v_shelves5_items)))
    else (if x1 = (2 : Int32) then
    (mm_bd4 (fX6_holdRow N x2 x3 v_shelves2_holds v_shelves2_sort v_shelves2_size v_shelves2_items) (fun (w_21 : Int32) (w_22 : Int32) (w_23 : Int32) (w_24 : List Int64) =>
    some ((1 : Int32), v_shelves0_holds, v_shelves0_sort, v_shelves0_size, v_shelves0_items, v_shelves1_holds, v_shelves1_sort, v_shelves1_size, v_shelves1_items, w_21, w_22, w_23, w_24, v_shelves3_holds, v_shelves3_sort, v_shelves3_size, v_shelves3_items, v_shelves4_holds, v_shelves4_sort, v_shelves4_size, v_shelves4_items, v_shelves5_holds, v_shelves5_sort, v_shelves5_size, v_shelves5_items)))
    else (if x1 = (3 : Int32) then
    (mm_bd4 (fX6_holdRow N x2 x3 v_shelves3_holds v_shelves3_sort v_shelves3_size v_shelves3_items) (fun (w_27 : Int32) (w_28 : Int32) (w_29 : Int32) (w_30 : List Int64) =>
    some ((1 : Int32), v_shelves0_holds, v_shelves0_sort, v_shelves0_size, v_shelves0_items, v_shelves1_holds, v_shelves1_sort, v_shelves1_size, v_shelves1_items, v_shelves2_holds, v_shelves2_sort, v_shelves2_size, v_shelves2_items, w_27, w_28, w_29, w_30, v_shelves4_holds, v_shelves4_sort, v_shelves4_size, v_shelves4_items, v_shelves5_holds, v_shelves5_sort, v_shelves5_size, v_shelves5_items)))
    else (if x1 = (4 : Int32) then
    (mm_bd4 (fX6_holdRow N x2 x3 v_shelves4_holds v_shelves4_sort v_shelves4_size v_shelves4_items) (fun (w_33 : Int32) (w_34 : Int32) (w_35 : Int32) (w_36 : List Int64) =>
    some ((1 : Int32), v_shelves0_holds, v_shelves0_sort, v_shelves0_size, v_shelves0_items, v_shelves1_holds, v_shelves1_sort, v_shelves1_size, v_shelves1_items, v_shelves2_holds, v_shelves2_sort, v_shelves2_size, v_shelves2_items, v_shelves3_holds, v_shelves3_sort, v_shelves3_size, v_shelves3_items, w_33, w_34, w_35, w_36, v_shelves5_holds, v_shelves5_sort, v_shelves5_size, v_shelves5_items)))
    else (if x1 = (5 : Int32) then
    (mm_bd4 (fX6_holdRow N x2 x3 v_shelves5_holds v_shelves5_sort v_shelves5_size v_shelves5_items) (fun (w_39 : Int32) (w_40 : Int32) (w_41 : Int32) (w_42 : List Int64) =>
    some ((1 : Int32), v_shelves0_holds, v_shelves0_sort, v_shelves0_size, v_shelves0_items, v_shelves1_holds, v_shelves1_sort, v_shelves1_size, v_shelves1_items, v_shelves2_holds, v_shelves2_sort, v_shelves2_size, v_shelves2_items, v_shelves3_holds, v_shelves3_sort, v_shelves3_size, v_shelves3_items, v_shelves4_holds, v_shelves4_sort, v_shelves4_size, v_shelves4_items, w_39, w_40, w_41, w_42)))
    else (none)))))))
    else (some ((-14 : Int32), v_shelves0_holds, v_shelves0_sort, v_shelves0_size, v_shelves0_items, v_shelves1_holds, v_shelves1_sort, v_shelves1_size, v_shelves1_items, v_shelves2_holds, v_shelves2_sort, v_shelves2_size, v_shelves2_items, v_shelves3_holds, v_shelves3_sort, v_shelves3_size, v_shelves3_items, v_shelves4_holds, v_shelves4_sort, v_shelves4_size, v_shelves4_items, v_shelves5_holds, v_shelves5_sort, v_shelves5_size, v_shelves5_items)))
    else (some ((-1 : Int32), v_shelves0_holds, v_shelves0_sort, v_shelves0_size, v_shelves0_items, v_shelves1_holds, v_shelves1_sort, v_shelves1_size, v_shelves1_items, v_shelves2_holds, v_shelves2_sort, v_shelves2_size, v_shelves2_items, v_shelves3_holds, v_shelves3_sort, v_shelves3_size, v_shelves3_items, v_shelves4_holds, v_shelves4_sort, v_shelves4_size, v_shelves4_items, v_shelves5_holds, v_shelves5_sort, v_shelves5_size, v_shelves5_items)))))) := rfl

set_option maxHeartbeats 4000000 in
set_option maxRecDepth 20000 in
theorem sf_X8_row {N : Nat} (hN : 700 ≤ N) {x1 : Int32} {x2 : Int32} {x3 : Int32} {v_shelves0_holds : Int32} {v_shelves0_sort : Int32} {v_shelves0_size : Int32} {v_shelves0_items : List Int64} {v_shelves1_holds : Int32} {v_shelves1_sort : Int32} {v_shelves1_size : Int32} {v_shelves1_items : List Int64} {v_shelves2_holds : Int32} {v_shelves2_sort : Int32} {v_shelves2_size : Int32} {v_shelves2_items : List Int64} {v_shelves3_holds : Int32} {v_shelves3_sort : Int32} {v_shelves3_size : Int32} {v_shelves3_items : List Int64} {v_shelves4_holds : Int32} {v_shelves4_sort : Int32} {v_shelves4_size : Int32} {v_shelves4_items : List Int64} {v_shelves5_holds : Int32} {v_shelves5_sort : Int32} {v_shelves5_size : Int32} {v_shelves5_items : List Int64} (h_0 : 0 ≤ v_shelves0_size.toInt) (h_1 : v_shelves0_size.toInt ≤ 60) (h_2 : v_shelves0_items.length = 60) (h_3 : 0 ≤ v_shelves1_size.toInt) (h_4 : v_shelves1_size.toInt ≤ 60) (h_5 : v_shelves1_items.length = 60) (h_6 : 0 ≤ v_shelves2_size.toInt) (h_7 : v_shelves2_size.toInt ≤ 60) (h_8 : v_shelves2_items.length = 60) (h_9 : 0 ≤ v_shelves3_size.toInt) (h_10 : v_shelves3_size.toInt ≤ 60) (h_11 : v_shelves3_items.length = 60) (h_12 : 0 ≤ v_shelves4_size.toInt) (h_13 : v_shelves4_size.toInt ≤ 60) (h_14 : v_shelves4_items.length = 60) (h_15 : 0 ≤ v_shelves5_size.toInt) (h_16 : v_shelves5_size.toInt ≤ 60) (h_17 : v_shelves5_items.length = 60) : wp (fX8_row N x1 x2 x3 v_shelves0_holds v_shelves0_sort v_shelves0_size v_shelves0_items v_shelves1_holds v_shelves1_sort v_shelves1_size v_shelves1_items v_shelves2_holds v_shelves2_sort v_shelves2_size v_shelves2_items v_shelves3_holds v_shelves3_sort v_shelves3_size v_shelves3_items v_shelves4_holds v_shelves4_sort v_shelves4_size v_shelves4_items v_shelves5_holds v_shelves5_sort v_shelves5_size v_shelves5_items) (cu25 (fun (r : Int32) (wv_shelves0_holds : Int32) (wv_shelves0_sort : Int32) (wv_shelves0_size : Int32) (wv_shelves0_items : List Int64) (wv_shelves1_holds : Int32) (wv_shelves1_sort : Int32) (wv_shelves1_size : Int32) (wv_shelves1_items : List Int64) (wv_shelves2_holds : Int32) (wv_shelves2_sort : Int32) (wv_shelves2_size : Int32) (wv_shelves2_items : List Int64) (wv_shelves3_holds : Int32) (wv_shelves3_sort : Int32) (wv_shelves3_size : Int32) (wv_shelves3_items : List Int64) (wv_shelves4_holds : Int32) (wv_shelves4_sort : Int32) (wv_shelves4_size : Int32) (wv_shelves4_items : List Int64) (wv_shelves5_holds : Int32) (wv_shelves5_sort : Int32) (wv_shelves5_size : Int32) (wv_shelves5_items : List Int64) => 0 ≤ wv_shelves0_size.toInt ∧ wv_shelves0_size.toInt ≤ 60 ∧ wv_shelves0_items.length = 60 ∧ 0 ≤ wv_shelves1_size.toInt ∧ wv_shelves1_size.toInt ≤ 60 ∧ wv_shelves1_items.length = 60 ∧ 0 ≤ wv_shelves2_size.toInt ∧ wv_shelves2_size.toInt ≤ 60 ∧ wv_shelves2_items.length = 60 ∧ 0 ≤ wv_shelves3_size.toInt ∧ wv_shelves3_size.toInt ≤ 60 ∧ wv_shelves3_items.length = 60 ∧ 0 ≤ wv_shelves4_size.toInt ∧ wv_shelves4_size.toInt ≤ 60 ∧ wv_shelves4_items.length = 60 ∧ 0 ≤ wv_shelves5_size.toInt ∧ wv_shelves5_size.toInt ≤ 60 ∧ wv_shelves5_items.length = 60)) := by
  refine wp_of (uf_X8_row _ _ _ _ _ _ _ _ _ _ _ _ _ _ _ _ _ _ _ _ _ _ _ _ _ _ _ _) ?_
  refine wp_in1 ?_
  refine wp_of (uf_X8_isShelf _ _) ?_
  have n_2 : (0 : Int32).toInt = 0 := by decide
  refine wp_if (fun c_1 => ?_) (fun c_1 => ?_)
  ·
    have dc_1 := i_lt c_1
    refine wp_so1 ?_
    show wp _ _
    refine wp_ifp (by decide) ?_
    exact wp_so25 ⟨h_0, h_1, h_2, h_3, h_4, h_5, h_6, h_7, h_8, h_9, h_10, h_11, h_12, h_13, h_14, h_15, h_16, h_17⟩
  ·
    have dc_1 := i_nlt c_1
    have n_4 : (6 : Int32).toInt = 6 := by decide
    refine wp_if (fun c_3 => ?_) (fun c_3 => ?_)
    ·
      have dc_3 := i_le c_3
      refine wp_so1 ?_
      show wp _ _
      refine wp_ifp (by decide) ?_
      exact wp_so25 ⟨h_0, h_1, h_2, h_3, h_4, h_5, h_6, h_7, h_8, h_9, h_10, h_11, h_12, h_13, h_14, h_15, h_16, h_17⟩
    ·
      have dc_3 := i_nle c_3
      refine wp_so1 ?_
      show wp _ _
      refine wp_ifn (by decide) ?_
      refine wp_if (fun c_5 => ?_) (fun c_5 => ?_)
      ·
        have dc_5 := i_lt c_5
        exact wp_so25 ⟨h_0, h_1, h_2, h_3, h_4, h_5, h_6, h_7, h_8, h_9, h_10, h_11, h_12, h_13, h_14, h_15, h_16, h_17⟩
      ·
        have dc_5 := i_nlt c_5
        have n_7 : (5 : Int32).toInt = 5 := by decide
        refine wp_if (fun c_6 => ?_) (fun c_6 => ?_)
        ·
          have dc_6 := i_le c_6
          exact wp_so25 ⟨h_0, h_1, h_2, h_3, h_4, h_5, h_6, h_7, h_8, h_9, h_10, h_11, h_12, h_13, h_14, h_15, h_16, h_17⟩
        ·
          have dc_6 := i_nle c_6
          have n_9 : (60 : Int32).toInt = 60 := by decide
          refine wp_if (fun c_8 => ?_) (fun c_8 => ?_)
          ·
            have dc_8 := i_le c_8
            refine wp_if (fun c_10 => ?_) (fun c_10 => ?_)
            ·
              have dc_10 := i_le c_10
              refine wp_if (fun c_11 => ?_) (fun c_11 => ?_)
              ·
                have dc_11 := i_eq c_11
                refine wp_bd4 (sf_X6_holdRow hN h_0 h_1 h_2 (by omega) (by omega)) (fun w_9 w_10 w_11 w_12 ⟨q_12, q_13, q_14⟩ => ?_)
                exact wp_so25 ⟨q_12, q_13, q_14, h_3, h_4, h_5, h_6, h_7, h_8, h_9, h_10, h_11, h_12, h_13, h_14, h_15, h_16, h_17⟩
              ·
                have dc_11 := i_ne c_11
                have n_16 : (1 : Int32).toInt = 1 := by decide
                refine wp_if (fun c_15 => ?_) (fun c_15 => ?_)
                ·
                  have dc_15 := i_eq c_15
                  refine wp_bd4 (sf_X6_holdRow hN h_3 h_4 h_5 (by omega) (by omega)) (fun w_15 w_16 w_17 w_18 ⟨q_17, q_18, q_19⟩ => ?_)
                  exact wp_so25 ⟨h_0, h_1, h_2, q_17, q_18, q_19, h_6, h_7, h_8, h_9, h_10, h_11, h_12, h_13, h_14, h_15, h_16, h_17⟩
                ·
                  have dc_15 := i_ne c_15
                  have n_21 : (2 : Int32).toInt = 2 := by decide
                  refine wp_if (fun c_20 => ?_) (fun c_20 => ?_)
                  ·
                    have dc_20 := i_eq c_20
                    refine wp_bd4 (sf_X6_holdRow hN h_6 h_7 h_8 (by omega) (by omega)) (fun w_21 w_22 w_23 w_24 ⟨q_22, q_23, q_24⟩ => ?_)
                    exact wp_so25 ⟨h_0, h_1, h_2, h_3, h_4, h_5, q_22, q_23, q_24, h_9, h_10, h_11, h_12, h_13, h_14, h_15, h_16, h_17⟩
                  ·
                    have dc_20 := i_ne c_20
                    have n_26 : (3 : Int32).toInt = 3 := by decide
                    refine wp_if (fun c_25 => ?_) (fun c_25 => ?_)
                    ·
                      have dc_25 := i_eq c_25
                      refine wp_bd4 (sf_X6_holdRow hN h_9 h_10 h_11 (by omega) (by omega)) (fun w_27 w_28 w_29 w_30 ⟨q_27, q_28, q_29⟩ => ?_)
                      exact wp_so25 ⟨h_0, h_1, h_2, h_3, h_4, h_5, h_6, h_7, h_8, q_27, q_28, q_29, h_12, h_13, h_14, h_15, h_16, h_17⟩
                    ·
                      have dc_25 := i_ne c_25
                      have n_31 : (4 : Int32).toInt = 4 := by decide
                      refine wp_if (fun c_30 => ?_) (fun c_30 => ?_)
                      ·
                        have dc_30 := i_eq c_30
                        refine wp_bd4 (sf_X6_holdRow hN h_12 h_13 h_14 (by omega) (by omega)) (fun w_33 w_34 w_35 w_36 ⟨q_32, q_33, q_34⟩ => ?_)
                        exact wp_so25 ⟨h_0, h_1, h_2, h_3, h_4, h_5, h_6, h_7, h_8, h_9, h_10, h_11, q_32, q_33, q_34, h_15, h_16, h_17⟩
                      ·
                        have dc_30 := i_ne c_30
                        refine wp_if (fun c_35 => ?_) (fun c_35 => ?_)
                        ·
                          have dc_35 := i_eq c_35
                          refine wp_bd4 (sf_X6_holdRow hN h_15 h_16 h_17 (by omega) (by omega)) (fun w_39 w_40 w_41 w_42 ⟨q_36, q_37, q_38⟩ => ?_)
                          exact wp_so25 ⟨h_0, h_1, h_2, h_3, h_4, h_5, h_6, h_7, h_8, h_9, h_10, h_11, h_12, h_13, h_14, q_36, q_37, q_38⟩
                        ·
                          have dc_35 := i_ne c_35
                          exact (show False by omega).elim
            ·
              have dc_10 := i_nle c_10
              exact wp_so25 ⟨h_0, h_1, h_2, h_3, h_4, h_5, h_6, h_7, h_8, h_9, h_10, h_11, h_12, h_13, h_14, h_15, h_16, h_17⟩
          ·
            have dc_8 := i_nle c_8
            exact wp_so25 ⟨h_0, h_1, h_2, h_3, h_4, h_5, h_6, h_7, h_8, h_9, h_10, h_11, h_12, h_13, h_14, h_15, h_16, h_17⟩

theorem uf_X8_plans (N : Nat) (x1 : Int32) (x2 : Int32) (x3 : Int32) (v_planned_size : Int32) (v_planned_lines : List Int32) (v_planned_ways : List Int32) (v_shelves0_holds : Int32) (v_shelves0_sort : Int32) (v_shelves0_size : Int32) (v_shelves0_items : List Int64) (v_shelves1_holds : Int32) (v_shelves1_sort : Int32) (v_shelves1_size : Int32) (v_shelves1_items : List Int64) (v_shelves2_holds : Int32) (v_shelves2_sort : Int32) (v_shelves2_size : Int32) (v_shelves2_items : List Int64) (v_shelves3_holds : Int32) (v_shelves3_sort : Int32) (v_shelves3_size : Int32) (v_shelves3_items : List Int64) (v_shelves4_holds : Int32) (v_shelves4_sort : Int32) (v_shelves4_size : Int32) (v_shelves4_items : List Int64) (v_shelves5_holds : Int32) (v_shelves5_sort : Int32) (v_shelves5_size : Int32) (v_shelves5_items : List Int64) : fX8_plans N x1 x2 x3 v_planned_size v_planned_lines v_planned_ways v_shelves0_holds v_shelves0_sort v_shelves0_size v_shelves0_items v_shelves1_holds v_shelves1_sort v_shelves1_size v_shelves1_items v_shelves2_holds v_shelves2_sort v_shelves2_size v_shelves2_items v_shelves3_holds v_shelves3_sort v_shelves3_size v_shelves3_items v_shelves4_holds v_shelves4_sort v_shelves4_size v_shelves4_items v_shelves5_holds v_shelves5_sort v_shelves5_size v_shelves5_items = mm_bd1 (fX8_isShelf N x1) (fun (r_1 : Bool) =>
    if r_1 = false then
    (some ((-1 : Int32), v_planned_size, v_planned_lines, v_planned_ways))
    else (if x3 < (1 : Int32) then
    (some ((-1 : Int32), v_planned_size, v_planned_lines, v_planned_ways))
    else (if x3 ≤ (12 : Int32) then
    (if x1 = (0 : Int32) then
    (if v_shelves0_holds = 0 then
    (some ((0 : Int32), v_planned_size, v_planned_lines, v_planned_ways))
    else (if v_shelves0_holds = (2 : Int32) then
    (if v_shelves0_sort = 0 then
    (if 0 ≤ x2 then
    (mm_bd4 (fX3_appendFrom N x2 x3 v_planned_size v_planned_lines v_planned_ways v_shelves0_size v_shelves0_items) (fun (r_11 : Int32) (w_12 : Int32) (w_13 : List Int32) (w_14 : List Int32) =>
    some (r_11, w_12, w_13, w_14)))
    else (some ((0 : Int32), v_planned_size, v_planned_lines, v_planned_ways)))
    else (some ((-12 : Int32), v_planned_size, v_planned_lines, v_planned_ways)))
    else (some ((-12 : Int32), v_planned_size, v_planned_lines, v_planned_ways))))
    else (if x1 = (1 : Int32) then
    (if v_shelves1_holds = 0 then
    (some ((0 : Int32), v_planned_size, v_planned_lines, v_planned_ways))
    else (if v_shelves1_holds = (2 : Int32) then
    (if v_shelves1_sort = 0 then
    (if 0 ≤ x2 then
    (mm_bd4 (fX3_appendFrom N x2 x3 v_planned_size v_planned_lines v_planned_ways v_shelves1_size v_shelves1_items) (fun (r_21 : Int32) (w_22 : Int32) (w_23 : List Int32) (w_24 : List Int32) =>
    some (r_21, w_22, w_23, w_24)))
    else (some ((0 : Int32), v_planned_size, v_planned_lines, v_planned_ways)))
    else (some ((-12 : Int32), v_planned_size, v_planned_lines, v_planned_ways)))
    else (some ((-12 : Int32), v_planned_size, v_planned_lines, v_planned_ways))))
    else (if x1 = (2 : Int32) then
    (if v_shelves2_holds = 0 then
    (some ((0 : Int32), v_planned_size, v_planned_lines, v_planned_ways))
    else (if v_shelves2_holds = (2 : Int32) then
    (if v_shelves2_sort = 0 then
    (if 0 ≤ x2 then
    (mm_bd4 (fX3_appendFrom N x2 x3 v_planned_size v_planned_lines v_planned_ways v_shelves2_size v_shelves2_items) (fun (r_31 : Int32) (w_32 : Int32) (w_33 : List Int32) (w_34 : List Int32) =>
    some (r_31, w_32, w_33, w_34)))
    else (some ((0 : Int32), v_planned_size, v_planned_lines, v_planned_ways)))
    else (some ((-12 : Int32), v_planned_size, v_planned_lines, v_planned_ways)))
    else (some ((-12 : Int32), v_planned_size, v_planned_lines, v_planned_ways))))
    else (if x1 = (3 : Int32) then
    (if v_shelves3_holds = 0 then
    (some ((0 : Int32), v_planned_size, v_planned_lines, v_planned_ways))
    else (if v_shelves3_holds = (2 : Int32) then
    (if v_shelves3_sort = 0 then
    (if 0 ≤ x2 then
    (mm_bd4 (fX3_appendFrom N x2 x3 v_planned_size v_planned_lines v_planned_ways v_shelves3_size v_shelves3_items) (fun (r_41 : Int32) (w_42 : Int32) (w_43 : List Int32) (w_44 : List Int32) =>
    some (r_41, w_42, w_43, w_44)))
    else (some ((0 : Int32), v_planned_size, v_planned_lines, v_planned_ways)))
    else (some ((-12 : Int32), v_planned_size, v_planned_lines, v_planned_ways)))
    else (some ((-12 : Int32), v_planned_size, v_planned_lines, v_planned_ways))))
    else (if x1 = (4 : Int32) then
    (if v_shelves4_holds = 0 then
    (some ((0 : Int32), v_planned_size, v_planned_lines, v_planned_ways))
    else (if v_shelves4_holds = (2 : Int32) then
    (if v_shelves4_sort = 0 then
    (if 0 ≤ x2 then
    (mm_bd4 (fX3_appendFrom N x2 x3 v_planned_size v_planned_lines v_planned_ways v_shelves4_size v_shelves4_items) (fun (r_51 : Int32) (w_52 : Int32) (w_53 : List Int32) (w_54 : List Int32) =>
    some (r_51, w_52, w_53, w_54)))
    else (some ((0 : Int32), v_planned_size, v_planned_lines, v_planned_ways)))
    else (some ((-12 : Int32), v_planned_size, v_planned_lines, v_planned_ways)))
    else (some ((-12 : Int32), v_planned_size, v_planned_lines, v_planned_ways))))
    else (if x1 = (5 : Int32) then
    (if v_shelves5_holds = 0 then
    (some ((0 : Int32), v_planned_size, v_planned_lines, v_planned_ways))
    else (if v_shelves5_holds = (2 : Int32) then
    (if v_shelves5_sort = 0 then
    (if 0 ≤ x2 then
    (mm_bd4 (fX3_appendFrom N x2 x3 v_planned_size v_planned_lines v_planned_ways v_shelves5_size v_shelves5_items) (fun (r_61 : Int32) (w_62 : Int32) (w_63 : List Int32) (w_64 : List Int32) =>
    some (r_61, w_62, w_63, w_64)))
    else (some ((0 : Int32), v_planned_size, v_planned_lines, v_planned_ways)))
    else (some ((-12 : Int32), v_planned_size, v_planned_lines, v_planned_ways)))
    else (some ((-12 : Int32), v_planned_size, v_planned_lines, v_planned_ways))))
    else (none)))))))
    else (some ((-1 : Int32), v_planned_size, v_planned_lines, v_planned_ways))))) := rfl

set_option maxHeartbeats 4000000 in
set_option maxRecDepth 20000 in
theorem sf_X8_plans {N : Nat} (hN : 700 ≤ N) {x1 : Int32} {x2 : Int32} {x3 : Int32} {v_planned_size : Int32} {v_planned_lines : List Int32} {v_planned_ways : List Int32} {v_shelves0_holds : Int32} {v_shelves0_sort : Int32} {v_shelves0_size : Int32} {v_shelves0_items : List Int64} {v_shelves1_holds : Int32} {v_shelves1_sort : Int32} {v_shelves1_size : Int32} {v_shelves1_items : List Int64} {v_shelves2_holds : Int32} {v_shelves2_sort : Int32} {v_shelves2_size : Int32} {v_shelves2_items : List Int64} {v_shelves3_holds : Int32} {v_shelves3_sort : Int32} {v_shelves3_size : Int32} {v_shelves3_items : List Int64} {v_shelves4_holds : Int32} {v_shelves4_sort : Int32} {v_shelves4_size : Int32} {v_shelves4_items : List Int64} {v_shelves5_holds : Int32} {v_shelves5_sort : Int32} {v_shelves5_size : Int32} {v_shelves5_items : List Int64} (h_0 : 0 ≤ v_planned_size.toInt) (h_1 : v_planned_size.toInt ≤ 12) (h_2 : v_planned_lines.length = 12) (h_3 : v_planned_ways.length = 12) (h_4 : 0 ≤ v_shelves0_size.toInt) (h_5 : v_shelves0_size.toInt ≤ 60) (h_6 : v_shelves0_items.length = 60) (h_7 : 0 ≤ v_shelves1_size.toInt) (h_8 : v_shelves1_size.toInt ≤ 60) (h_9 : v_shelves1_items.length = 60) (h_10 : 0 ≤ v_shelves2_size.toInt) (h_11 : v_shelves2_size.toInt ≤ 60) (h_12 : v_shelves2_items.length = 60) (h_13 : 0 ≤ v_shelves3_size.toInt) (h_14 : v_shelves3_size.toInt ≤ 60) (h_15 : v_shelves3_items.length = 60) (h_16 : 0 ≤ v_shelves4_size.toInt) (h_17 : v_shelves4_size.toInt ≤ 60) (h_18 : v_shelves4_items.length = 60) (h_19 : 0 ≤ v_shelves5_size.toInt) (h_20 : v_shelves5_size.toInt ≤ 60) (h_21 : v_shelves5_items.length = 60) : wp (fX8_plans N x1 x2 x3 v_planned_size v_planned_lines v_planned_ways v_shelves0_holds v_shelves0_sort v_shelves0_size v_shelves0_items v_shelves1_holds v_shelves1_sort v_shelves1_size v_shelves1_items v_shelves2_holds v_shelves2_sort v_shelves2_size v_shelves2_items v_shelves3_holds v_shelves3_sort v_shelves3_size v_shelves3_items v_shelves4_holds v_shelves4_sort v_shelves4_size v_shelves4_items v_shelves5_holds v_shelves5_sort v_shelves5_size v_shelves5_items) (cu4 (fun (r : Int32) (wv_planned_size : Int32) (wv_planned_lines : List Int32) (wv_planned_ways : List Int32) => 0 ≤ wv_planned_size.toInt ∧ wv_planned_size.toInt ≤ 12 ∧ wv_planned_lines.length = 12 ∧ wv_planned_ways.length = 12)) := by
  refine wp_of (uf_X8_plans _ _ _ _ _ _ _ _ _ _ _ _ _ _ _ _ _ _ _ _ _ _ _ _ _ _ _ _ _ _ _) ?_
  refine wp_in1 ?_
  refine wp_of (uf_X8_isShelf _ _) ?_
  have n_2 : (0 : Int32).toInt = 0 := by decide
  refine wp_if (fun c_1 => ?_) (fun c_1 => ?_)
  ·
    have dc_1 := i_lt c_1
    refine wp_so1 ?_
    show wp _ _
    refine wp_ifp (by decide) ?_
    exact wp_so4 ⟨h_0, h_1, h_2, h_3⟩
  ·
    have dc_1 := i_nlt c_1
    have n_4 : (6 : Int32).toInt = 6 := by decide
    refine wp_if (fun c_3 => ?_) (fun c_3 => ?_)
    ·
      have dc_3 := i_le c_3
      refine wp_so1 ?_
      show wp _ _
      refine wp_ifp (by decide) ?_
      exact wp_so4 ⟨h_0, h_1, h_2, h_3⟩
    ·
      have dc_3 := i_nle c_3
      refine wp_so1 ?_
      show wp _ _
      refine wp_ifn (by decide) ?_
      have n_6 : (1 : Int32).toInt = 1 := by decide
      refine wp_if (fun c_5 => ?_) (fun c_5 => ?_)
      ·
        have dc_5 := i_lt c_5
        exact wp_so4 ⟨h_0, h_1, h_2, h_3⟩
      ·
        have dc_5 := i_nlt c_5
        have n_8 : (12 : Int32).toInt = 12 := by decide
        refine wp_if (fun c_7 => ?_) (fun c_7 => ?_)
        ·
          have dc_7 := i_le c_7
          refine wp_if (fun c_9 => ?_) (fun c_9 => ?_)
          ·
            have dc_9 := i_eq c_9
            refine wp_if (fun c_10 => ?_) (fun c_10 => ?_)
            ·
              have dc_10 := i_eq c_10
              exact wp_so4 ⟨h_0, h_1, h_2, h_3⟩
            ·
              have dc_10 := i_ne c_10
              have n_12 : (2 : Int32).toInt = 2 := by decide
              refine wp_if (fun c_11 => ?_) (fun c_11 => ?_)
              ·
                have dc_11 := i_eq c_11
                refine wp_if (fun c_13 => ?_) (fun c_13 => ?_)
                ·
                  have dc_13 := i_eq c_13
                  refine wp_if (fun c_14 => ?_) (fun c_14 => ?_)
                  ·
                    have dc_14 := i_le c_14
                    refine wp_bd4 (sf_X3_appendFrom hN h_0 h_1 h_2 h_3 h_4 h_5 h_6 (by omega) (by omega)) (fun r_11 w_12 w_13 w_14 ⟨q_15, q_16, q_17, q_18⟩ => ?_)
                    exact wp_so4 ⟨q_15, q_16, q_17, q_18⟩
                  ·
                    have dc_14 := i_nle c_14
                    exact wp_so4 ⟨h_0, h_1, h_2, h_3⟩
                ·
                  have dc_13 := i_ne c_13
                  exact wp_so4 ⟨h_0, h_1, h_2, h_3⟩
              ·
                have dc_11 := i_ne c_11
                exact wp_so4 ⟨h_0, h_1, h_2, h_3⟩
          ·
            have dc_9 := i_ne c_9
            refine wp_if (fun c_19 => ?_) (fun c_19 => ?_)
            ·
              have dc_19 := i_eq c_19
              refine wp_if (fun c_20 => ?_) (fun c_20 => ?_)
              ·
                have dc_20 := i_eq c_20
                exact wp_so4 ⟨h_0, h_1, h_2, h_3⟩
              ·
                have dc_20 := i_ne c_20
                have n_22 : (2 : Int32).toInt = 2 := by decide
                refine wp_if (fun c_21 => ?_) (fun c_21 => ?_)
                ·
                  have dc_21 := i_eq c_21
                  refine wp_if (fun c_23 => ?_) (fun c_23 => ?_)
                  ·
                    have dc_23 := i_eq c_23
                    refine wp_if (fun c_24 => ?_) (fun c_24 => ?_)
                    ·
                      have dc_24 := i_le c_24
                      refine wp_bd4 (sf_X3_appendFrom hN h_0 h_1 h_2 h_3 h_7 h_8 h_9 (by omega) (by omega)) (fun r_21 w_22 w_23 w_24 ⟨q_25, q_26, q_27, q_28⟩ => ?_)
                      exact wp_so4 ⟨q_25, q_26, q_27, q_28⟩
                    ·
                      have dc_24 := i_nle c_24
                      exact wp_so4 ⟨h_0, h_1, h_2, h_3⟩
                  ·
                    have dc_23 := i_ne c_23
                    exact wp_so4 ⟨h_0, h_1, h_2, h_3⟩
                ·
                  have dc_21 := i_ne c_21
                  exact wp_so4 ⟨h_0, h_1, h_2, h_3⟩
            ·
              have dc_19 := i_ne c_19
              have n_30 : (2 : Int32).toInt = 2 := by decide
              refine wp_if (fun c_29 => ?_) (fun c_29 => ?_)
              ·
                have dc_29 := i_eq c_29
                refine wp_if (fun c_31 => ?_) (fun c_31 => ?_)
                ·
                  have dc_31 := i_eq c_31
                  exact wp_so4 ⟨h_0, h_1, h_2, h_3⟩
                ·
                  have dc_31 := i_ne c_31
                  refine wp_if (fun c_32 => ?_) (fun c_32 => ?_)
                  ·
                    have dc_32 := i_eq c_32
                    refine wp_if (fun c_33 => ?_) (fun c_33 => ?_)
                    ·
                      have dc_33 := i_eq c_33
                      refine wp_if (fun c_34 => ?_) (fun c_34 => ?_)
                      ·
                        have dc_34 := i_le c_34
                        refine wp_bd4 (sf_X3_appendFrom hN h_0 h_1 h_2 h_3 h_10 h_11 h_12 (by omega) (by omega)) (fun r_31 w_32 w_33 w_34 ⟨q_35, q_36, q_37, q_38⟩ => ?_)
                        exact wp_so4 ⟨q_35, q_36, q_37, q_38⟩
                      ·
                        have dc_34 := i_nle c_34
                        exact wp_so4 ⟨h_0, h_1, h_2, h_3⟩
                    ·
                      have dc_33 := i_ne c_33
                      exact wp_so4 ⟨h_0, h_1, h_2, h_3⟩
                  ·
                    have dc_32 := i_ne c_32
                    exact wp_so4 ⟨h_0, h_1, h_2, h_3⟩
              ·
                have dc_29 := i_ne c_29
                have n_40 : (3 : Int32).toInt = 3 := by decide
                refine wp_if (fun c_39 => ?_) (fun c_39 => ?_)
                ·
                  have dc_39 := i_eq c_39
                  refine wp_if (fun c_41 => ?_) (fun c_41 => ?_)
                  ·
                    have dc_41 := i_eq c_41
                    exact wp_so4 ⟨h_0, h_1, h_2, h_3⟩
                  ·
                    have dc_41 := i_ne c_41
                    refine wp_if (fun c_42 => ?_) (fun c_42 => ?_)
                    ·
                      have dc_42 := i_eq c_42
                      refine wp_if (fun c_43 => ?_) (fun c_43 => ?_)
                      ·
                        have dc_43 := i_eq c_43
                        refine wp_if (fun c_44 => ?_) (fun c_44 => ?_)
                        ·
                          have dc_44 := i_le c_44
                          refine wp_bd4 (sf_X3_appendFrom hN h_0 h_1 h_2 h_3 h_13 h_14 h_15 (by omega) (by omega)) (fun r_41 w_42 w_43 w_44 ⟨q_45, q_46, q_47, q_48⟩ => ?_)
                          exact wp_so4 ⟨q_45, q_46, q_47, q_48⟩
                        ·
                          have dc_44 := i_nle c_44
                          exact wp_so4 ⟨h_0, h_1, h_2, h_3⟩
                      ·
                        have dc_43 := i_ne c_43
                        exact wp_so4 ⟨h_0, h_1, h_2, h_3⟩
                    ·
                      have dc_42 := i_ne c_42
                      exact wp_so4 ⟨h_0, h_1, h_2, h_3⟩
                ·
                  have dc_39 := i_ne c_39
                  have n_50 : (4 : Int32).toInt = 4 := by decide
                  refine wp_if (fun c_49 => ?_) (fun c_49 => ?_)
                  ·
                    have dc_49 := i_eq c_49
                    refine wp_if (fun c_51 => ?_) (fun c_51 => ?_)
                    ·
                      have dc_51 := i_eq c_51
                      exact wp_so4 ⟨h_0, h_1, h_2, h_3⟩
                    ·
                      have dc_51 := i_ne c_51
                      refine wp_if (fun c_52 => ?_) (fun c_52 => ?_)
                      ·
                        have dc_52 := i_eq c_52
                        refine wp_if (fun c_53 => ?_) (fun c_53 => ?_)
                        ·
                          have dc_53 := i_eq c_53
                          refine wp_if (fun c_54 => ?_) (fun c_54 => ?_)
                          ·
                            have dc_54 := i_le c_54
                            refine wp_bd4 (sf_X3_appendFrom hN h_0 h_1 h_2 h_3 h_16 h_17 h_18 (by omega) (by omega)) (fun r_51 w_52 w_53 w_54 ⟨q_55, q_56, q_57, q_58⟩ => ?_)
                            exact wp_so4 ⟨q_55, q_56, q_57, q_58⟩
                          ·
                            have dc_54 := i_nle c_54
                            exact wp_so4 ⟨h_0, h_1, h_2, h_3⟩
                        ·
                          have dc_53 := i_ne c_53
                          exact wp_so4 ⟨h_0, h_1, h_2, h_3⟩
                      ·
                        have dc_52 := i_ne c_52
                        exact wp_so4 ⟨h_0, h_1, h_2, h_3⟩
                  ·
                    have dc_49 := i_ne c_49
                    have n_60 : (5 : Int32).toInt = 5 := by decide
                    refine wp_if (fun c_59 => ?_) (fun c_59 => ?_)
                    ·
                      have dc_59 := i_eq c_59
                      refine wp_if (fun c_61 => ?_) (fun c_61 => ?_)
                      ·
                        have dc_61 := i_eq c_61
                        exact wp_so4 ⟨h_0, h_1, h_2, h_3⟩
                      ·
                        have dc_61 := i_ne c_61
                        refine wp_if (fun c_62 => ?_) (fun c_62 => ?_)
                        ·
                          have dc_62 := i_eq c_62
                          refine wp_if (fun c_63 => ?_) (fun c_63 => ?_)
                          ·
                            have dc_63 := i_eq c_63
                            refine wp_if (fun c_64 => ?_) (fun c_64 => ?_)
                            ·
                              have dc_64 := i_le c_64
                              refine wp_bd4 (sf_X3_appendFrom hN h_0 h_1 h_2 h_3 h_19 h_20 h_21 (by omega) (by omega)) (fun r_61 w_62 w_63 w_64 ⟨q_65, q_66, q_67, q_68⟩ => ?_)
                              exact wp_so4 ⟨q_65, q_66, q_67, q_68⟩
                            ·
                              have dc_64 := i_nle c_64
                              exact wp_so4 ⟨h_0, h_1, h_2, h_3⟩
                          ·
                            have dc_63 := i_ne c_63
                            exact wp_so4 ⟨h_0, h_1, h_2, h_3⟩
                        ·
                          have dc_62 := i_ne c_62
                          exact wp_so4 ⟨h_0, h_1, h_2, h_3⟩
                    ·
                      have dc_59 := i_ne c_59
                      exact (show False by omega).elim
        ·
          have dc_7 := i_nle c_7
          exact wp_so4 ⟨h_0, h_1, h_2, h_3⟩
end
section
/-! safe -/
theorem uf_X8_refusedElement (N : Nat) (x1 : Int32) (x2 : Int32) (v_shelves0_holds : Int32) (v_shelves0_size : Int32) (v_shelves1_holds : Int32) (v_shelves1_size : Int32) (v_shelves2_holds : Int32) (v_shelves2_size : Int32) (v_shelves3_holds : Int32) (v_shelves3_size : Int32) (v_shelves4_holds : Int32) (v_shelves4_size : Int32) (v_shelves5_holds : Int32) (v_shelves5_size : Int32) : fX8_refusedElement N x1 x2 v_shelves0_holds v_shelves0_size v_shelves1_holds v_shelves1_size v_shelves2_holds v_shelves2_size v_shelves3_holds v_shelves3_size v_shelves4_holds v_shelves4_size v_shelves5_holds v_shelves5_size = mm_bd1 (fX8_isShelf N x1) (fun (r_1 : Bool) =>
    if r_1 = false then
    (some ((-1 : Int32)))
    else (if x1 = (0 : Int32) then
    (if v_shelves0_holds = (0 : Int32) then
    (some ((-11 : Int32)))
    else (if v_shelves0_holds = (1 : Int32) then
    (some ((-12 : Int32)))
    else (mm_bd1 (fX6_hasPart N x2 (1 : Int32) v_shelves0_size) (fun (r_7 : Bool) =>
    if r_7 = false then
    (some ((-13 : Int32)))
    else (some ((0 : Int32)))))))
    else (if x1 = (1 : Int32) then
    (if v_shelves1_holds = (0 : Int32) then
    (some ((-11 : Int32)))
    else (if v_shelves1_holds = (1 : Int32) then
    (some ((-12 : Int32)))
    else (mm_bd1 (fX6_hasPart N x2 (1 : Int32) v_shelves1_size) (fun (r_13 : Bool) =>
    if r_13 = false then
    (some ((-13 : Int32)))
    else (some ((0 : Int32)))))))
    else (if x1 = (2 : Int32) then
    (if v_shelves2_holds = (0 : Int32) then
    (some ((-11 : Int32)))
    else (if v_shelves2_holds = (1 : Int32) then
    (some ((-12 : Int32)))
    else (mm_bd1 (fX6_hasPart N x2 (1 : Int32) v_shelves2_size) (fun (r_19 : Bool) =>
    if r_19 = false then
    (some ((-13 : Int32)))
    else (some ((0 : Int32)))))))
    else (if x1 = (3 : Int32) then
    (if v_shelves3_holds = (0 : Int32) then
    (some ((-11 : Int32)))
    else (if v_shelves3_holds = (1 : Int32) then
    (some ((-12 : Int32)))
    else (mm_bd1 (fX6_hasPart N x2 (1 : Int32) v_shelves3_size) (fun (r_25 : Bool) =>
    if r_25 = false then
    (some ((-13 : Int32)))
    else (some ((0 : Int32)))))))
    else (if x1 = (4 : Int32) then
    (if v_shelves4_holds = (0 : Int32) then
    (some ((-11 : Int32)))
    else (if v_shelves4_holds = (1 : Int32) then
    (some ((-12 : Int32)))
    else (mm_bd1 (fX6_hasPart N x2 (1 : Int32) v_shelves4_size) (fun (r_31 : Bool) =>
    if r_31 = false then
    (some ((-13 : Int32)))
    else (some ((0 : Int32)))))))
    else (if x1 = (5 : Int32) then
    (if v_shelves5_holds = (0 : Int32) then
    (some ((-11 : Int32)))
    else (if v_shelves5_holds = (1 : Int32) then
    (some ((-12 : Int32)))
    else (mm_bd1 (fX6_hasPart N x2 (1 : Int32) v_shelves5_size) (fun (r_37 : Bool) =>
    if r_37 = false then
    (some ((-13 : Int32)))
    else (some ((0 : Int32)))))))
    else (none)))))))) := rfl

set_option maxHeartbeats 4000000 in
set_option maxRecDepth 20000 in
theorem sf_X8_refusedElement {N : Nat} (hN : 700 ≤ N) {x1 : Int32} {x2 : Int32} {v_shelves0_holds : Int32} {v_shelves0_size : Int32} {v_shelves1_holds : Int32} {v_shelves1_size : Int32} {v_shelves2_holds : Int32} {v_shelves2_size : Int32} {v_shelves3_holds : Int32} {v_shelves3_size : Int32} {v_shelves4_holds : Int32} {v_shelves4_size : Int32} {v_shelves5_holds : Int32} {v_shelves5_size : Int32} (h_0 : 0 ≤ v_shelves0_size.toInt) (h_1 : v_shelves0_size.toInt ≤ 60) (h_2 : 0 ≤ v_shelves1_size.toInt) (h_3 : v_shelves1_size.toInt ≤ 60) (h_4 : 0 ≤ v_shelves2_size.toInt) (h_5 : v_shelves2_size.toInt ≤ 60) (h_6 : 0 ≤ v_shelves3_size.toInt) (h_7 : v_shelves3_size.toInt ≤ 60) (h_8 : 0 ≤ v_shelves4_size.toInt) (h_9 : v_shelves4_size.toInt ≤ 60) (h_10 : 0 ≤ v_shelves5_size.toInt) (h_11 : v_shelves5_size.toInt ≤ 60) : wp (fX8_refusedElement N x1 x2 v_shelves0_holds v_shelves0_size v_shelves1_holds v_shelves1_size v_shelves2_holds v_shelves2_size v_shelves3_holds v_shelves3_size v_shelves4_holds v_shelves4_size v_shelves5_holds v_shelves5_size) (fun (r : Int32) => ((r.toInt = 0 → 0 ≤ x1.toInt ∧ x1.toInt ≤ 5 ∧ 0 ≤ x2.toInt ∧ x2.toInt < 60))) := by
  refine wp_of (uf_X8_refusedElement _ _ _ _ _ _ _ _ _ _ _ _ _ _ _) ?_
  refine wp_in1 ?_
  refine wp_of (uf_X8_isShelf _ _) ?_
  have n_2 : (0 : Int32).toInt = 0 := by decide
  refine wp_if (fun c_1 => ?_) (fun c_1 => ?_)
  ·
    have dc_1 := i_lt c_1
    refine wp_so1 ?_
    show wp _ _
    refine wp_ifp (by decide) ?_
    have n_3 : (-1 : Int32).toInt = -1 := by decide
    exact wp_so1 (by omega)
  ·
    have dc_1 := i_nlt c_1
    have n_5 : (6 : Int32).toInt = 6 := by decide
    refine wp_if (fun c_4 => ?_) (fun c_4 => ?_)
    ·
      have dc_4 := i_le c_4
      refine wp_so1 ?_
      show wp _ _
      refine wp_ifp (by decide) ?_
      have n_6 : (-1 : Int32).toInt = -1 := by decide
      exact wp_so1 (by omega)
    ·
      have dc_4 := i_nle c_4
      refine wp_so1 ?_
      show wp _ _
      refine wp_ifn (by decide) ?_
      refine wp_if (fun c_7 => ?_) (fun c_7 => ?_)
      ·
        have dc_7 := i_eq c_7
        refine wp_if (fun c_8 => ?_) (fun c_8 => ?_)
        ·
          have dc_8 := i_eq c_8
          have n_9 : (-11 : Int32).toInt = -11 := by decide
          exact wp_so1 (by omega)
        ·
          have dc_8 := i_ne c_8
          have n_11 : (1 : Int32).toInt = 1 := by decide
          refine wp_if (fun c_10 => ?_) (fun c_10 => ?_)
          ·
            have dc_10 := i_eq c_10
            have n_12 : (-12 : Int32).toInt = -12 := by decide
            exact wp_so1 (by omega)
          ·
            have dc_10 := i_ne c_10
            refine wp_bd1 (sf_X6_hasPart hN h_0 h_1) (fun r_7 q_13 => ?_)
            rcases q_13 with ⟨rfl, q_13⟩ | ⟨rfl, q_13⟩
            ·
              refine wp_ifn (by decide) ?_
              exact wp_so1 (by omega)
            ·
              refine wp_ifp (by decide) ?_
              have n_14 : (-13 : Int32).toInt = -13 := by decide
              exact wp_so1 (by omega)
      ·
        have dc_7 := i_ne c_7
        have n_16 : (1 : Int32).toInt = 1 := by decide
        refine wp_if (fun c_15 => ?_) (fun c_15 => ?_)
        ·
          have dc_15 := i_eq c_15
          refine wp_if (fun c_17 => ?_) (fun c_17 => ?_)
          ·
            have dc_17 := i_eq c_17
            have n_18 : (-11 : Int32).toInt = -11 := by decide
            exact wp_so1 (by omega)
          ·
            have dc_17 := i_ne c_17
            refine wp_if (fun c_19 => ?_) (fun c_19 => ?_)
            ·
              have dc_19 := i_eq c_19
              have n_20 : (-12 : Int32).toInt = -12 := by decide
              exact wp_so1 (by omega)
            ·
              have dc_19 := i_ne c_19
              refine wp_bd1 (sf_X6_hasPart hN h_2 h_3) (fun r_13 q_21 => ?_)
              rcases q_21 with ⟨rfl, q_21⟩ | ⟨rfl, q_21⟩
              ·
                refine wp_ifn (by decide) ?_
                exact wp_so1 (by omega)
              ·
                refine wp_ifp (by decide) ?_
                have n_22 : (-13 : Int32).toInt = -13 := by decide
                exact wp_so1 (by omega)
        ·
          have dc_15 := i_ne c_15
          have n_24 : (2 : Int32).toInt = 2 := by decide
          refine wp_if (fun c_23 => ?_) (fun c_23 => ?_)
          ·
            have dc_23 := i_eq c_23
            refine wp_if (fun c_25 => ?_) (fun c_25 => ?_)
            ·
              have dc_25 := i_eq c_25
              have n_26 : (-11 : Int32).toInt = -11 := by decide
              exact wp_so1 (by omega)
            ·
              have dc_25 := i_ne c_25
              refine wp_if (fun c_27 => ?_) (fun c_27 => ?_)
              ·
                have dc_27 := i_eq c_27
                have n_28 : (-12 : Int32).toInt = -12 := by decide
                exact wp_so1 (by omega)
              ·
                have dc_27 := i_ne c_27
                refine wp_bd1 (sf_X6_hasPart hN h_4 h_5) (fun r_19 q_29 => ?_)
                rcases q_29 with ⟨rfl, q_29⟩ | ⟨rfl, q_29⟩
                ·
                  refine wp_ifn (by decide) ?_
                  exact wp_so1 (by omega)
                ·
                  refine wp_ifp (by decide) ?_
                  have n_30 : (-13 : Int32).toInt = -13 := by decide
                  exact wp_so1 (by omega)
          ·
            have dc_23 := i_ne c_23
            have n_32 : (3 : Int32).toInt = 3 := by decide
            refine wp_if (fun c_31 => ?_) (fun c_31 => ?_)
            ·
              have dc_31 := i_eq c_31
              refine wp_if (fun c_33 => ?_) (fun c_33 => ?_)
              ·
                have dc_33 := i_eq c_33
                have n_34 : (-11 : Int32).toInt = -11 := by decide
                exact wp_so1 (by omega)
              ·
                have dc_33 := i_ne c_33
                refine wp_if (fun c_35 => ?_) (fun c_35 => ?_)
                ·
                  have dc_35 := i_eq c_35
                  have n_36 : (-12 : Int32).toInt = -12 := by decide
                  exact wp_so1 (by omega)
                ·
                  have dc_35 := i_ne c_35
                  refine wp_bd1 (sf_X6_hasPart hN h_6 h_7) (fun r_25 q_37 => ?_)
                  rcases q_37 with ⟨rfl, q_37⟩ | ⟨rfl, q_37⟩
                  ·
                    refine wp_ifn (by decide) ?_
                    exact wp_so1 (by omega)
                  ·
                    refine wp_ifp (by decide) ?_
                    have n_38 : (-13 : Int32).toInt = -13 := by decide
                    exact wp_so1 (by omega)
            ·
              have dc_31 := i_ne c_31
              have n_40 : (4 : Int32).toInt = 4 := by decide
              refine wp_if (fun c_39 => ?_) (fun c_39 => ?_)
              ·
                have dc_39 := i_eq c_39
                refine wp_if (fun c_41 => ?_) (fun c_41 => ?_)
                ·
                  have dc_41 := i_eq c_41
                  have n_42 : (-11 : Int32).toInt = -11 := by decide
                  exact wp_so1 (by omega)
                ·
                  have dc_41 := i_ne c_41
                  refine wp_if (fun c_43 => ?_) (fun c_43 => ?_)
                  ·
                    have dc_43 := i_eq c_43
                    have n_44 : (-12 : Int32).toInt = -12 := by decide
                    exact wp_so1 (by omega)
                  ·
                    have dc_43 := i_ne c_43
                    refine wp_bd1 (sf_X6_hasPart hN h_8 h_9) (fun r_31 q_45 => ?_)
                    rcases q_45 with ⟨rfl, q_45⟩ | ⟨rfl, q_45⟩
                    ·
                      refine wp_ifn (by decide) ?_
                      exact wp_so1 (by omega)
                    ·
                      refine wp_ifp (by decide) ?_
                      have n_46 : (-13 : Int32).toInt = -13 := by decide
                      exact wp_so1 (by omega)
              ·
                have dc_39 := i_ne c_39
                have n_48 : (5 : Int32).toInt = 5 := by decide
                refine wp_if (fun c_47 => ?_) (fun c_47 => ?_)
                ·
                  have dc_47 := i_eq c_47
                  refine wp_if (fun c_49 => ?_) (fun c_49 => ?_)
                  ·
                    have dc_49 := i_eq c_49
                    have n_50 : (-11 : Int32).toInt = -11 := by decide
                    exact wp_so1 (by omega)
                  ·
                    have dc_49 := i_ne c_49
                    refine wp_if (fun c_51 => ?_) (fun c_51 => ?_)
                    ·
                      have dc_51 := i_eq c_51
                      have n_52 : (-12 : Int32).toInt = -12 := by decide
                      exact wp_so1 (by omega)
                    ·
                      have dc_51 := i_ne c_51
                      refine wp_bd1 (sf_X6_hasPart hN h_10 h_11) (fun r_37 q_53 => ?_)
                      rcases q_53 with ⟨rfl, q_53⟩ | ⟨rfl, q_53⟩
                      ·
                        refine wp_ifn (by decide) ?_
                        exact wp_so1 (by omega)
                      ·
                        refine wp_ifp (by decide) ?_
                        have n_54 : (-13 : Int32).toInt = -13 := by decide
                        exact wp_so1 (by omega)
                ·
                  have dc_47 := i_ne c_47
                  exact (show False by omega).elim

theorem uf_X8_put (N : Nat) (x1 : Int32) (x2 : Int32) (x3 : Int64) (v_shelves0_holds : Int32) (v_shelves0_sort : Int32) (v_shelves0_size : Int32) (v_shelves0_items : List Int64) (v_shelves1_holds : Int32) (v_shelves1_sort : Int32) (v_shelves1_size : Int32) (v_shelves1_items : List Int64) (v_shelves2_holds : Int32) (v_shelves2_sort : Int32) (v_shelves2_size : Int32) (v_shelves2_items : List Int64) (v_shelves3_holds : Int32) (v_shelves3_sort : Int32) (v_shelves3_size : Int32) (v_shelves3_items : List Int64) (v_shelves4_holds : Int32) (v_shelves4_sort : Int32) (v_shelves4_size : Int32) (v_shelves4_items : List Int64) (v_shelves5_holds : Int32) (v_shelves5_sort : Int32) (v_shelves5_size : Int32) (v_shelves5_items : List Int64) : fX8_put N x1 x2 x3 v_shelves0_holds v_shelves0_sort v_shelves0_size v_shelves0_items v_shelves1_holds v_shelves1_sort v_shelves1_size v_shelves1_items v_shelves2_holds v_shelves2_sort v_shelves2_size v_shelves2_items v_shelves3_holds v_shelves3_sort v_shelves3_size v_shelves3_items v_shelves4_holds v_shelves4_sort v_shelves4_size v_shelves4_items v_shelves5_holds v_shelves5_sort v_shelves5_size v_shelves5_items = mm_bd1 (fX8_refusedElement N x1 x2 v_shelves0_holds v_shelves0_size v_shelves1_holds v_shelves1_size v_shelves2_holds v_shelves2_size v_shelves3_holds v_shelves3_size v_shelves4_holds v_shelves4_size v_shelves5_holds v_shelves5_size) (fun (r_1 : Int32) =>
    if r_1 = 0 then
    (if x1 = (0 : Int32) then
    (mm_bd1 (fX6_store N x2 x3 v_shelves0_sort v_shelves0_items) (fun (w_5 : List Int64) =>
    some ((1 : Int32), w_5, v_shelves1_items, v_shelves2_items, v_shelves3_items, v_shelves4_items, v_shelves5_items)))
    else (if x1 = (1 : Int32) then
    (mm_bd1 (fX6_store N x2 x3 v_shelves1_sort v_shelves1_items) (fun (w_8 : List Int64) =>
    some ((1 : Int32), v_shelves0_items, w_8, v_shelves2_items, v_shelves3_items, v_shelves4_items, v_shelves5_items)))
    else (if x1 = (2 : Int32) then
    (mm_bd1 (fX6_store N x2 x3 v_shelves2_sort v_shelves2_items) (fun (w_11 : List Int64) =>
    some ((1 : Int32), v_shelves0_items, v_shelves1_items, w_11, v_shelves3_items, v_shelves4_items, v_shelves5_items)))
    else (if x1 = (3 : Int32) then
    (mm_bd1 (fX6_store N x2 x3 v_shelves3_sort v_shelves3_items) (fun (w_14 : List Int64) =>
    some ((1 : Int32), v_shelves0_items, v_shelves1_items, v_shelves2_items, w_14, v_shelves4_items, v_shelves5_items)))
    else (if x1 = (4 : Int32) then
    (mm_bd1 (fX6_store N x2 x3 v_shelves4_sort v_shelves4_items) (fun (w_17 : List Int64) =>
    some ((1 : Int32), v_shelves0_items, v_shelves1_items, v_shelves2_items, v_shelves3_items, w_17, v_shelves5_items)))
    else (if x1 = (5 : Int32) then
    (mm_bd1 (fX6_store N x2 x3 v_shelves5_sort v_shelves5_items) (fun (w_20 : List Int64) =>
    some ((1 : Int32), v_shelves0_items, v_shelves1_items, v_shelves2_items, v_shelves3_items, v_shelves4_items, w_20)))
    else (none)))))))
    else (some (r_1, v_shelves0_items, v_shelves1_items, v_shelves2_items, v_shelves3_items, v_shelves4_items, v_shelves5_items))) := rfl

set_option maxHeartbeats 4000000 in
set_option maxRecDepth 20000 in
theorem sf_X8_put {N : Nat} (hN : 700 ≤ N) {x1 : Int32} {x2 : Int32} {x3 : Int64} {v_shelves0_holds : Int32} {v_shelves0_sort : Int32} {v_shelves0_size : Int32} {v_shelves0_items : List Int64} {v_shelves1_holds : Int32} {v_shelves1_sort : Int32} {v_shelves1_size : Int32} {v_shelves1_items : List Int64} {v_shelves2_holds : Int32} {v_shelves2_sort : Int32} {v_shelves2_size : Int32} {v_shelves2_items : List Int64} {v_shelves3_holds : Int32} {v_shelves3_sort : Int32} {v_shelves3_size : Int32} {v_shelves3_items : List Int64} {v_shelves4_holds : Int32} {v_shelves4_sort : Int32} {v_shelves4_size : Int32} {v_shelves4_items : List Int64} {v_shelves5_holds : Int32} {v_shelves5_sort : Int32} {v_shelves5_size : Int32} {v_shelves5_items : List Int64} (h_0 : 0 ≤ v_shelves0_size.toInt) (h_1 : v_shelves0_size.toInt ≤ 60) (h_2 : v_shelves0_items.length = 60) (h_3 : 0 ≤ v_shelves1_size.toInt) (h_4 : v_shelves1_size.toInt ≤ 60) (h_5 : v_shelves1_items.length = 60) (h_6 : 0 ≤ v_shelves2_size.toInt) (h_7 : v_shelves2_size.toInt ≤ 60) (h_8 : v_shelves2_items.length = 60) (h_9 : 0 ≤ v_shelves3_size.toInt) (h_10 : v_shelves3_size.toInt ≤ 60) (h_11 : v_shelves3_items.length = 60) (h_12 : 0 ≤ v_shelves4_size.toInt) (h_13 : v_shelves4_size.toInt ≤ 60) (h_14 : v_shelves4_items.length = 60) (h_15 : 0 ≤ v_shelves5_size.toInt) (h_16 : v_shelves5_size.toInt ≤ 60) (h_17 : v_shelves5_items.length = 60) : wp (fX8_put N x1 x2 x3 v_shelves0_holds v_shelves0_sort v_shelves0_size v_shelves0_items v_shelves1_holds v_shelves1_sort v_shelves1_size v_shelves1_items v_shelves2_holds v_shelves2_sort v_shelves2_size v_shelves2_items v_shelves3_holds v_shelves3_sort v_shelves3_size v_shelves3_items v_shelves4_holds v_shelves4_sort v_shelves4_size v_shelves4_items v_shelves5_holds v_shelves5_sort v_shelves5_size v_shelves5_items) (cu7 (fun (r : Int32) (wv_shelves0_items : List Int64) (wv_shelves1_items : List Int64) (wv_shelves2_items : List Int64) (wv_shelves3_items : List Int64) (wv_shelves4_items : List Int64) (wv_shelves5_items : List Int64) => wv_shelves0_items.length = 60 ∧ wv_shelves1_items.length = 60 ∧ wv_shelves2_items.length = 60 ∧ wv_shelves3_items.length = 60 ∧ wv_shelves4_items.length = 60 ∧ wv_shelves5_items.length = 60)) := by
  refine wp_of (uf_X8_put _ _ _ _ _ _ _ _ _ _ _ _ _ _ _ _ _ _ _ _ _ _ _ _ _ _ _ _) ?_
  refine wp_bd1 (sf_X8_refusedElement hN h_0 h_1 h_3 h_4 h_6 h_7 h_9 h_10 h_12 h_13 h_15 h_16) (fun r_1 q_1 => ?_)
  have n_3 : (0 : Int32).toInt = 0 := by decide
  refine wp_if (fun c_2 => ?_) (fun c_2 => ?_)
  ·
    have dc_2 := i_eq c_2
    refine wp_if (fun c_4 => ?_) (fun c_4 => ?_)
    ·
      have dc_4 := i_eq c_4
      refine wp_bd1 (sf_X6_store hN h_2 (by omega) (by omega)) (fun w_5 q_5 => ?_)
      exact wp_so7 ⟨q_5, h_5, h_8, h_11, h_14, h_17⟩
    ·
      have dc_4 := i_ne c_4
      have n_7 : (1 : Int32).toInt = 1 := by decide
      refine wp_if (fun c_6 => ?_) (fun c_6 => ?_)
      ·
        have dc_6 := i_eq c_6
        refine wp_bd1 (sf_X6_store hN h_5 (by omega) (by omega)) (fun w_8 q_8 => ?_)
        exact wp_so7 ⟨h_2, q_8, h_8, h_11, h_14, h_17⟩
      ·
        have dc_6 := i_ne c_6
        have n_10 : (2 : Int32).toInt = 2 := by decide
        refine wp_if (fun c_9 => ?_) (fun c_9 => ?_)
        ·
          have dc_9 := i_eq c_9
          refine wp_bd1 (sf_X6_store hN h_8 (by omega) (by omega)) (fun w_11 q_11 => ?_)
          exact wp_so7 ⟨h_2, h_5, q_11, h_11, h_14, h_17⟩
        ·
          have dc_9 := i_ne c_9
          have n_13 : (3 : Int32).toInt = 3 := by decide
          refine wp_if (fun c_12 => ?_) (fun c_12 => ?_)
          ·
            have dc_12 := i_eq c_12
            refine wp_bd1 (sf_X6_store hN h_11 (by omega) (by omega)) (fun w_14 q_14 => ?_)
            exact wp_so7 ⟨h_2, h_5, h_8, q_14, h_14, h_17⟩
          ·
            have dc_12 := i_ne c_12
            have n_16 : (4 : Int32).toInt = 4 := by decide
            refine wp_if (fun c_15 => ?_) (fun c_15 => ?_)
            ·
              have dc_15 := i_eq c_15
              refine wp_bd1 (sf_X6_store hN h_14 (by omega) (by omega)) (fun w_17 q_17 => ?_)
              exact wp_so7 ⟨h_2, h_5, h_8, h_11, q_17, h_17⟩
            ·
              have dc_15 := i_ne c_15
              have n_19 : (5 : Int32).toInt = 5 := by decide
              refine wp_if (fun c_18 => ?_) (fun c_18 => ?_)
              ·
                have dc_18 := i_eq c_18
                refine wp_bd1 (sf_X6_store hN h_17 (by omega) (by omega)) (fun w_20 q_20 => ?_)
                exact wp_so7 ⟨h_2, h_5, h_8, h_11, h_14, q_20⟩
              ·
                have dc_18 := i_ne c_18
                exact (show False by omega).elim
  ·
    have dc_2 := i_ne c_2
    exact wp_so7 ⟨h_2, h_5, h_8, h_11, h_14, h_17⟩

theorem uf_X8_element (N : Nat) (x1 : Int32) (x2 : Int32) (v_shelves0_holds : Int32) (v_shelves0_size : Int32) (v_shelves0_items : List Int64) (v_shelves1_holds : Int32) (v_shelves1_size : Int32) (v_shelves1_items : List Int64) (v_shelves2_holds : Int32) (v_shelves2_size : Int32) (v_shelves2_items : List Int64) (v_shelves3_holds : Int32) (v_shelves3_size : Int32) (v_shelves3_items : List Int64) (v_shelves4_holds : Int32) (v_shelves4_size : Int32) (v_shelves4_items : List Int64) (v_shelves5_holds : Int32) (v_shelves5_size : Int32) (v_shelves5_items : List Int64) : fX8_element N x1 x2 v_shelves0_holds v_shelves0_size v_shelves0_items v_shelves1_holds v_shelves1_size v_shelves1_items v_shelves2_holds v_shelves2_size v_shelves2_items v_shelves3_holds v_shelves3_size v_shelves3_items v_shelves4_holds v_shelves4_size v_shelves4_items v_shelves5_holds v_shelves5_size v_shelves5_items = mm_bd1 (fX8_refusedElement N x1 x2 v_shelves0_holds v_shelves0_size v_shelves1_holds v_shelves1_size v_shelves2_holds v_shelves2_size v_shelves3_holds v_shelves3_size v_shelves4_holds v_shelves4_size v_shelves5_holds v_shelves5_size) (fun (r_1 : Int32) =>
    if r_1 = 0 then
    (if x1 = (0 : Int32) then
    (mm_ck (mm_inb x2 v_shelves0_items.length) (some ((mm_lg v_shelves0_items x2))))
    else (if x1 = (1 : Int32) then
    (mm_ck (mm_inb x2 v_shelves1_items.length) (some ((mm_lg v_shelves1_items x2))))
    else (if x1 = (2 : Int32) then
    (mm_ck (mm_inb x2 v_shelves2_items.length) (some ((mm_lg v_shelves2_items x2))))
    else (if x1 = (3 : Int32) then
    (mm_ck (mm_inb x2 v_shelves3_items.length) (some ((mm_lg v_shelves3_items x2))))
    else (if x1 = (4 : Int32) then
    (mm_ck (mm_inb x2 v_shelves4_items.length) (some ((mm_lg v_shelves4_items x2))))
    else (if x1 = (5 : Int32) then
    (mm_ck (mm_inb x2 v_shelves5_items.length) (some ((mm_lg v_shelves5_items x2))))
    else (none)))))))
    else (some ((-9223372036854775808 : Int64)))) := rfl

set_option maxHeartbeats 4000000 in
set_option maxRecDepth 20000 in
theorem sf_X8_element {N : Nat} (hN : 700 ≤ N) {x1 : Int32} {x2 : Int32} {v_shelves0_holds : Int32} {v_shelves0_size : Int32} {v_shelves0_items : List Int64} {v_shelves1_holds : Int32} {v_shelves1_size : Int32} {v_shelves1_items : List Int64} {v_shelves2_holds : Int32} {v_shelves2_size : Int32} {v_shelves2_items : List Int64} {v_shelves3_holds : Int32} {v_shelves3_size : Int32} {v_shelves3_items : List Int64} {v_shelves4_holds : Int32} {v_shelves4_size : Int32} {v_shelves4_items : List Int64} {v_shelves5_holds : Int32} {v_shelves5_size : Int32} {v_shelves5_items : List Int64} (h_0 : 0 ≤ v_shelves0_size.toInt) (h_1 : v_shelves0_size.toInt ≤ 60) (h_2 : v_shelves0_items.length = 60) (h_3 : 0 ≤ v_shelves1_size.toInt) (h_4 : v_shelves1_size.toInt ≤ 60) (h_5 : v_shelves1_items.length = 60) (h_6 : 0 ≤ v_shelves2_size.toInt) (h_7 : v_shelves2_size.toInt ≤ 60) (h_8 : v_shelves2_items.length = 60) (h_9 : 0 ≤ v_shelves3_size.toInt) (h_10 : v_shelves3_size.toInt ≤ 60) (h_11 : v_shelves3_items.length = 60) (h_12 : 0 ≤ v_shelves4_size.toInt) (h_13 : v_shelves4_size.toInt ≤ 60) (h_14 : v_shelves4_items.length = 60) (h_15 : 0 ≤ v_shelves5_size.toInt) (h_16 : v_shelves5_size.toInt ≤ 60) (h_17 : v_shelves5_items.length = 60) : wp (fX8_element N x1 x2 v_shelves0_holds v_shelves0_size v_shelves0_items v_shelves1_holds v_shelves1_size v_shelves1_items v_shelves2_holds v_shelves2_size v_shelves2_items v_shelves3_holds v_shelves3_size v_shelves3_items v_shelves4_holds v_shelves4_size v_shelves4_items v_shelves5_holds v_shelves5_size v_shelves5_items) (fun (r : Int64) => True) := by
  refine wp_of (uf_X8_element _ _ _ _ _ _ _ _ _ _ _ _ _ _ _ _ _ _ _ _ _) ?_
  refine wp_bd1 (sf_X8_refusedElement hN h_0 h_1 h_3 h_4 h_6 h_7 h_9 h_10 h_12 h_13 h_15 h_16) (fun r_1 q_1 => ?_)
  have n_3 : (0 : Int32).toInt = 0 := by decide
  refine wp_if (fun c_2 => ?_) (fun c_2 => ?_)
  ·
    have dc_2 := i_eq c_2
    refine wp_if (fun c_4 => ?_) (fun c_4 => ?_)
    ·
      have dc_4 := i_eq c_4
      refine wp_ck (i_inb (by omega) (by omega)) ?_
      exact wp_so1 trivial
    ·
      have dc_4 := i_ne c_4
      have n_6 : (1 : Int32).toInt = 1 := by decide
      refine wp_if (fun c_5 => ?_) (fun c_5 => ?_)
      ·
        have dc_5 := i_eq c_5
        refine wp_ck (i_inb (by omega) (by omega)) ?_
        exact wp_so1 trivial
      ·
        have dc_5 := i_ne c_5
        have n_8 : (2 : Int32).toInt = 2 := by decide
        refine wp_if (fun c_7 => ?_) (fun c_7 => ?_)
        ·
          have dc_7 := i_eq c_7
          refine wp_ck (i_inb (by omega) (by omega)) ?_
          exact wp_so1 trivial
        ·
          have dc_7 := i_ne c_7
          have n_10 : (3 : Int32).toInt = 3 := by decide
          refine wp_if (fun c_9 => ?_) (fun c_9 => ?_)
          ·
            have dc_9 := i_eq c_9
            refine wp_ck (i_inb (by omega) (by omega)) ?_
            exact wp_so1 trivial
          ·
            have dc_9 := i_ne c_9
            have n_12 : (4 : Int32).toInt = 4 := by decide
            refine wp_if (fun c_11 => ?_) (fun c_11 => ?_)
            ·
              have dc_11 := i_eq c_11
              refine wp_ck (i_inb (by omega) (by omega)) ?_
              exact wp_so1 trivial
            ·
              have dc_11 := i_ne c_11
              have n_14 : (5 : Int32).toInt = 5 := by decide
              refine wp_if (fun c_13 => ?_) (fun c_13 => ?_)
              ·
                have dc_13 := i_eq c_13
                refine wp_ck (i_inb (by omega) (by omega)) ?_
                exact wp_so1 trivial
              ·
                have dc_13 := i_ne c_13
                exact (show False by omega).elim
  ·
    have dc_2 := i_ne c_2
    exact wp_so1 trivial

theorem uf_X8_shift (N : Nat) (x1 : Int32) (x2 : Int32) (x3 : Int32) (x4 : Int32) (x5 : Int32) (v_shelves0_holds : Int32) (v_shelves0_sort : Int32) (v_shelves0_size : Int32) (v_shelves0_items : List Int64) (v_shelves1_holds : Int32) (v_shelves1_sort : Int32) (v_shelves1_size : Int32) (v_shelves1_items : List Int64) (v_shelves2_holds : Int32) (v_shelves2_sort : Int32) (v_shelves2_size : Int32) (v_shelves2_items : List Int64) (v_shelves3_holds : Int32) (v_shelves3_sort : Int32) (v_shelves3_size : Int32) (v_shelves3_items : List Int64) (v_shelves4_holds : Int32) (v_shelves4_sort : Int32) (v_shelves4_size : Int32) (v_shelves4_items : List Int64) (v_shelves5_holds : Int32) (v_shelves5_sort : Int32) (v_shelves5_size : Int32) (v_shelves5_items : List Int64) : fX8_shift N x1 x2 x3 x4 x5 v_shelves0_holds v_shelves0_sort v_shelves0_size v_shelves0_items v_shelves1_holds v_shelves1_sort v_shelves1_size v_shelves1_items v_shelves2_holds v_shelves2_sort v_shelves2_size v_shelves2_items v_shelves3_holds v_shelves3_sort v_shelves3_size v_shelves3_items v_shelves4_holds v_shelves4_sort v_shelves4_size v_shelves4_items v_shelves5_holds v_shelves5_sort v_shelves5_size v_shelves5_items = mm_bd1 (fX8_isShelf N x1) (fun (r_1 : Bool) =>
    if r_1 = false then
    (some ((-1 : Int32), v_shelves0_items, v_shelves1_items, v_shelves2_items, v_shelves3_items, v_shelves4_items, v_shelves5_items))
    else (mm_bd1 (fX8_isShelf N x3) (fun (r_4 : Bool) =>
    if r_4 = false then
    (some ((-1 : Int32), v_shelves0_items, v_shelves1_items, v_shelves2_items, v_shelves3_items, v_shelves4_items, v_shelves5_items))
    else (if x1 = (0 : Int32) then
    (if x3 = (0 : Int32) then
    (if v_shelves0_holds = 0 then
    (some ((-11 : Int32), v_shelves0_items, v_shelves1_items, v_shelves2_items, v_shelves3_items, v_shelves4_items, v_shelves5_items))
    else (if v_shelves0_holds = 0 then
    (some ((-11 : Int32), v_shelves0_items, v_shelves1_items, v_shelves2_items, v_shelves3_items, v_shelves4_items, v_shelves5_items))
    else (if v_shelves0_holds = (2 : Int32) then
    (if v_shelves0_holds = (2 : Int32) then
    (if v_shelves0_sort = v_shelves0_sort then
    (if x5 < 0 then
    (some ((-13 : Int32), v_shelves0_items, v_shelves1_items, v_shelves2_items, v_shelves3_items, v_shelves4_items, v_shelves5_items))
    else (mm_bd1 (fX6_hasPart N x2 x5 v_shelves0_size) (fun (r_15 : Bool) =>
    if r_15 = false then
    (some ((-13 : Int32), v_shelves0_items, v_shelves1_items, v_shelves2_items, v_shelves3_items, v_shelves4_items, v_shelves5_items))
    else (mm_bd1 (fX6_hasPart N x4 x5 v_shelves0_size) (fun (r_18 : Bool) =>
    if r_18 = false then
    (some ((-13 : Int32), v_shelves0_items, v_shelves1_items, v_shelves2_items, v_shelves3_items, v_shelves4_items, v_shelves5_items))
    else (mm_ck (mm_cok x2 x4 x5 v_shelves0_items.length v_shelves0_items.length) (mm_nm (mm_cp v_shelves0_items v_shelves0_items x2 x4 x5) (fun (l_22 : List Int64) =>
    some (x5, l_22, v_shelves1_items, v_shelves2_items, v_shelves3_items, v_shelves4_items, v_shelves5_items)))))))))
    else (some ((-12 : Int32), v_shelves0_items, v_shelves1_items, v_shelves2_items, v_shelves3_items, v_shelves4_items, v_shelves5_items)))
    else (some ((-12 : Int32), v_shelves0_items, v_shelves1_items, v_shelves2_items, v_shelves3_items, v_shelves4_items, v_shelves5_items)))
    else (some ((-12 : Int32), v_shelves0_items, v_shelves1_items, v_shelves2_items, v_shelves3_items, v_shelves4_items, v_shelves5_items)))))
    else (if x3 = (1 : Int32) then
    (if v_shelves0_holds = 0 then
    (some ((-11 : Int32), v_shelves0_items, v_shelves1_items, v_shelves2_items, v_shelves3_items, v_shelves4_items, v_shelves5_items))
    else (if v_shelves1_holds = 0 then
    (some ((-11 : Int32), v_shelves0_items, v_shelves1_items, v_shelves2_items, v_shelves3_items, v_shelves4_items, v_shelves5_items))
    else (if v_shelves0_holds = (2 : Int32) then
    (if v_shelves1_holds = (2 : Int32) then
    (if v_shelves0_sort = v_shelves1_sort then
    (if x5 < 0 then
    (some ((-13 : Int32), v_shelves0_items, v_shelves1_items, v_shelves2_items, v_shelves3_items, v_shelves4_items, v_shelves5_items))
    else (mm_bd1 (fX6_hasPart N x2 x5 v_shelves0_size) (fun (r_30 : Bool) =>
    if r_30 = false then
    (some ((-13 : Int32), v_shelves0_items, v_shelves1_items, v_shelves2_items, v_shelves3_items, v_shelves4_items, v_shelves5_items))
    else (mm_bd1 (fX6_hasPart N x4 x5 v_shelves1_size) (fun (r_33 : Bool) =>
    if r_33 = false then
    (some ((-13 : Int32), v_shelves0_items, v_shelves1_items, v_shelves2_items, v_shelves3_items, v_shelves4_items, v_shelves5_items))
    else (mm_ck (mm_cok x2 x4 x5 v_shelves0_items.length v_shelves1_items.length) (mm_nm (mm_cp v_shelves0_items v_shelves1_items x2 x4 x5) (fun (l_37 : List Int64) =>
    some (x5, v_shelves0_items, l_37, v_shelves2_items, v_shelves3_items, v_shelves4_items, v_shelves5_items)))))))))
    else (some ((-12 : Int32), v_shelves0_items, v_shelves1_items, v_shelves2_items, v_shelves3_items, v_shelves4_items, v_shelves5_items)))
    else (some ((-12 : Int32), v_shelves0_items, v_shelves1_items, v_shelves2_items, v_shelves3_items, v_shelves4_items, v_shelves5_items)))
    else (some ((-12 : Int32), v_shelves0_items, v_shelves1_items, v_shelves2_items, v_shelves3_items, v_shelves4_items, v_shelves5_items)))))
    else (if x3 = (2 : Int32) then
    (if v_shelves0_holds = 0 then
    (some ((-11 : Int32), v_shelves0_items, v_shelves1_items, v_shelves2_items, v_shelves3_items, v_shelves4_items, v_shelves5_items))
    else (if v_shelves2_holds = 0 then
    (some ((-11 : Int32), v_shelves0_items, v_shelves1_items, v_shelves2_items, v_shelves3_items, v_shelves4_items, v_shelves5_items))
    else (if v_shelves0_holds = (2 : Int32) then
    (if v_shelves2_holds = (2 : Int32) then
    (if v_shelves0_sort = v_shelves2_sort then
    (if x5 < 0 then
    (some ((-13 : Int32), v_shelves0_items, v_shelves1_items, v_shelves2_items, v_shelves3_items, v_shelves4_items, v_shelves5_items))
    else (mm_bd1 (fX6_hasPart N x2 x5 v_shelves0_size) (fun (r_45 : Bool) =>
    if r_45 = false then
    (some ((-13 : Int32), v_shelves0_items, v_shelves1_items, v_shelves2_items, v_shelves3_items, v_shelves4_items, v_shelves5_items))
    else (mm_bd1 (fX6_hasPart N x4 x5 v_shelves2_size) (fun (r_48 : Bool) =>
    if r_48 = false then
    (some ((-13 : Int32), v_shelves0_items, v_shelves1_items, v_shelves2_items, v_shelves3_items, v_shelves4_items, v_shelves5_items))
    else (mm_ck (mm_cok x2 x4 x5 v_shelves0_items.length v_shelves2_items.length) (mm_nm (mm_cp v_shelves0_items v_shelves2_items x2 x4 x5) (fun (l_52 : List Int64) =>
    some (x5, v_shelves0_items, v_shelves1_items, l_52, v_shelves3_items, v_shelves4_items, v_shelves5_items)))))))))
    else (some ((-12 : Int32), v_shelves0_items, v_shelves1_items, v_shelves2_items, v_shelves3_items, v_shelves4_items, v_shelves5_items)))
    else (some ((-12 : Int32), v_shelves0_items, v_shelves1_items, v_shelves2_items, v_shelves3_items, v_shelves4_items, v_shelves5_items)))
    else (some ((-12 : Int32), v_shelves0_items, v_shelves1_items, v_shelves2_items, v_shelves3_items, v_shelves4_items, v_shelves5_items)))))
    else (if x3 = (3 : Int32) then
    (if v_shelves0_holds = 0 then
    (some ((-11 : Int32), v_shelves0_items, v_shelves1_items, v_shelves2_items, v_shelves3_items, v_shelves4_items, v_shelves5_items))
    else (if v_shelves3_holds = 0 then
    (some ((-11 : Int32), v_shelves0_items, v_shelves1_items, v_shelves2_items, v_shelves3_items, v_shelves4_items, v_shelves5_items))
    else (if v_shelves0_holds = (2 : Int32) then
    (if v_shelves3_holds = (2 : Int32) then
    (if v_shelves0_sort = v_shelves3_sort then
    (if x5 < 0 then
    (some ((-13 : Int32), v_shelves0_items, v_shelves1_items, v_shelves2_items, v_shelves3_items, v_shelves4_items, v_shelves5_items))
    else (mm_bd1 (fX6_hasPart N x2 x5 v_shelves0_size) (fun (r_60 : Bool) =>
    if r_60 = false then
    (some ((-13 : Int32), v_shelves0_items, v_shelves1_items, v_shelves2_items, v_shelves3_items, v_shelves4_items, v_shelves5_items))
    else (mm_bd1 (fX6_hasPart N x4 x5 v_shelves3_size) (fun (r_63 : Bool) =>
    if r_63 = false then
    (some ((-13 : Int32), v_shelves0_items, v_shelves1_items, v_shelves2_items, v_shelves3_items, v_shelves4_items, v_shelves5_items))
    else (mm_ck (mm_cok x2 x4 x5 v_shelves0_items.length v_shelves3_items.length) (mm_nm (mm_cp v_shelves0_items v_shelves3_items x2 x4 x5) (fun (l_67 : List Int64) =>
    some (x5, v_shelves0_items, v_shelves1_items, v_shelves2_items, l_67, v_shelves4_items, v_shelves5_items)))))))))
    else (some ((-12 : Int32), v_shelves0_items, v_shelves1_items, v_shelves2_items, v_shelves3_items, v_shelves4_items, v_shelves5_items)))
    else (some ((-12 : Int32), v_shelves0_items, v_shelves1_items, v_shelves2_items, v_shelves3_items, v_shelves4_items, v_shelves5_items)))
    else (some ((-12 : Int32), v_shelves0_items, v_shelves1_items, v_shelves2_items, v_shelves3_items, v_shelves4_items, v_shelves5_items)))))
    else (if x3 = (4 : Int32) then
    (if v_shelves0_holds = 0 then
    (some ((-11 : Int32), v_shelves0_items, v_shelves1_items, v_shelves2_items, v_shelves3_items, v_shelves4_items, v_shelves5_items))
    else (if v_shelves4_holds = 0 then
    (some ((-11 : Int32), v_shelves0_items, v_shelves1_items, v_shelves2_items, v_shelves3_items, v_shelves4_items, v_shelves5_items))
    else (if v_shelves0_holds = (2 : Int32) then
    (if v_shelves4_holds = (2 : Int32) then
    (if v_shelves0_sort = v_shelves4_sort then
    (if x5 < 0 then
    (some ((-13 : Int32), v_shelves0_items, v_shelves1_items, v_shelves2_items, v_shelves3_items, v_shelves4_items, v_shelves5_items))
    else (mm_bd1 (fX6_hasPart N x2 x5 v_shelves0_size) (fun (r_75 : Bool) =>
    if r_75 = false then
    (some ((-13 : Int32), v_shelves0_items, v_shelves1_items, v_shelves2_items, v_shelves3_items, v_shelves4_items, v_shelves5_items))
    else (mm_bd1 (fX6_hasPart N x4 x5 v_shelves4_size) (fun (r_78 : Bool) =>
    if r_78 = false then
    (some ((-13 : Int32), v_shelves0_items, v_shelves1_items, v_shelves2_items, v_shelves3_items, v_shelves4_items, v_shelves5_items))
    else (mm_ck (mm_cok x2 x4 x5 v_shelves0_items.length v_shelves4_items.length) (mm_nm (mm_cp v_shelves0_items v_shelves4_items x2 x4 x5) (fun (l_82 : List Int64) =>
    some (x5, v_shelves0_items, v_shelves1_items, v_shelves2_items, v_shelves3_items, l_82, v_shelves5_items)))))))))
    else (some ((-12 : Int32), v_shelves0_items, v_shelves1_items, v_shelves2_items, v_shelves3_items, v_shelves4_items, v_shelves5_items)))
    else (some ((-12 : Int32), v_shelves0_items, v_shelves1_items, v_shelves2_items, v_shelves3_items, v_shelves4_items, v_shelves5_items)))
    else (some ((-12 : Int32), v_shelves0_items, v_shelves1_items, v_shelves2_items, v_shelves3_items, v_shelves4_items, v_shelves5_items)))))
    else (if x3 = (5 : Int32) then
    (if v_shelves0_holds = 0 then
    (some ((-11 : Int32), v_shelves0_items, v_shelves1_items, v_shelves2_items, v_shelves3_items, v_shelves4_items, v_shelves5_items))
    else (if v_shelves5_holds = 0 then
    (some ((-11 : Int32), v_shelves0_items, v_shelves1_items, v_shelves2_items, v_shelves3_items, v_shelves4_items, v_shelves5_items))
    else (if v_shelves0_holds = (2 : Int32) then
    (if v_shelves5_holds = (2 : Int32) then
    (if v_shelves0_sort = v_shelves5_sort then
    (if x5 < 0 then
    (some ((-13 : Int32), v_shelves0_items, v_shelves1_items, v_shelves2_items, v_shelves3_items, v_shelves4_items, v_shelves5_items))
    else (mm_bd1 (fX6_hasPart N x2 x5 v_shelves0_size) (fun (r_90 : Bool) =>
    if r_90 = false then
    (some ((-13 : Int32), v_shelves0_items, v_shelves1_items, v_shelves2_items, v_shelves3_items, v_shelves4_items, v_shelves5_items))
    else (mm_bd1 (fX6_hasPart N x4 x5 v_shelves5_size) (fun (r_93 : Bool) =>
    if r_93 = false then
    (some ((-13 : Int32), v_shelves0_items, v_shelves1_items, v_shelves2_items, v_shelves3_items, v_shelves4_items, v_shelves5_items))
    else (mm_ck (mm_cok x2 x4 x5 v_shelves0_items.length v_shelves5_items.length) (mm_nm (mm_cp v_shelves0_items v_shelves5_items x2 x4 x5) (fun (l_97 : List Int64) =>
    some (x5, v_shelves0_items, v_shelves1_items, v_shelves2_items, v_shelves3_items, v_shelves4_items, l_97)))))))))
    else (some ((-12 : Int32), v_shelves0_items, v_shelves1_items, v_shelves2_items, v_shelves3_items, v_shelves4_items, v_shelves5_items)))
    else (some ((-12 : Int32), v_shelves0_items, v_shelves1_items, v_shelves2_items, v_shelves3_items, v_shelves4_items, v_shelves5_items)))
    else (some ((-12 : Int32), v_shelves0_items, v_shelves1_items, v_shelves2_items, v_shelves3_items, v_shelves4_items, v_shelves5_items)))))
    else (none)))))))
    else (if x1 = (1 : Int32) then
    (if x3 = (0 : Int32) then
    (if v_shelves1_holds = 0 then
    (some ((-11 : Int32), v_shelves0_items, v_shelves1_items, v_shelves2_items, v_shelves3_items, v_shelves4_items, v_shelves5_items))
    else (if v_shelves0_holds = 0 then
    (some ((-11 : Int32), v_shelves0_items, v_shelves1_items, v_shelves2_items, v_shelves3_items, v_shelves4_items, v_shelves5_items))
    else (if v_shelves1_holds = (2 : Int32) then
    (if v_shelves0_holds = (2 : Int32) then
    (if v_shelves1_sort = v_shelves0_sort then
    (if x5 < 0 then
    (some ((-13 : Int32), v_shelves0_items, v_shelves1_items, v_shelves2_items, v_shelves3_items, v_shelves4_items, v_shelves5_items))
    else (mm_bd1 (fX6_hasPart N x2 x5 v_shelves1_size) (fun (r_106 : Bool) =>
    if r_106 = false then
    (some ((-13 : Int32), v_shelves0_items, v_shelves1_items, v_shelves2_items, v_shelves3_items, v_shelves4_items, v_shelves5_items))
    else (mm_bd1 (fX6_hasPart N x4 x5 v_shelves0_size) (fun (r_109 : Bool) =>
    if r_109 = false then
    (some ((-13 : Int32), v_shelves0_items, v_shelves1_items, v_shelves2_items, v_shelves3_items, v_shelves4_items, v_shelves5_items))
    else (mm_ck (mm_cok x2 x4 x5 v_shelves1_items.length v_shelves0_items.length) (mm_nm (mm_cp v_shelves1_items v_shelves0_items x2 x4 x5) (fun (l_113 : List Int64) =>
    some (x5, l_113, v_shelves1_items, v_shelves2_items, v_shelves3_items, v_shelves4_items, v_shelves5_items)))))))))
    else (some ((-12 : Int32), v_shelves0_items, v_shelves1_items, v_shelves2_items, v_shelves3_items, v_shelves4_items, v_shelves5_items)))
    else (some ((-12 : Int32), v_shelves0_items, v_shelves1_items, v_shelves2_items, v_shelves3_items, v_shelves4_items, v_shelves5_items)))
    else (some ((-12 : Int32), v_shelves0_items, v_shelves1_items, v_shelves2_items, v_shelves3_items, v_shelves4_items, v_shelves5_items)))))
    else (if x3 = (1 : Int32) then
    (if v_shelves1_holds = 0 then
    (some ((-11 : Int32), v_shelves0_items, v_shelves1_items, v_shelves2_items, v_shelves3_items, v_shelves4_items, v_shelves5_items))
    else (if v_shelves1_holds = 0 then
    (some ((-11 : Int32), v_shelves0_items, v_shelves1_items, v_shelves2_items, v_shelves3_items, v_shelves4_items, v_shelves5_items))
    else (if v_shelves1_holds = (2 : Int32) then
    (if v_shelves1_holds = (2 : Int32) then
    (if v_shelves1_sort = v_shelves1_sort then
    (if x5 < 0 then
    (some ((-13 : Int32), v_shelves0_items, v_shelves1_items, v_shelves2_items, v_shelves3_items, v_shelves4_items, v_shelves5_items))
    else (mm_bd1 (fX6_hasPart N x2 x5 v_shelves1_size) (fun (r_121 : Bool) =>
    if r_121 = false then
    (some ((-13 : Int32), v_shelves0_items, v_shelves1_items, v_shelves2_items, v_shelves3_items, v_shelves4_items, v_shelves5_items))
    else (mm_bd1 (fX6_hasPart N x4 x5 v_shelves1_size) (fun (r_124 : Bool) =>
    if r_124 = false then
    (some ((-13 : Int32), v_shelves0_items, v_shelves1_items, v_shelves2_items, v_shelves3_items, v_shelves4_items, v_shelves5_items))
    else (mm_ck (mm_cok x2 x4 x5 v_shelves1_items.length v_shelves1_items.length) (mm_nm (mm_cp v_shelves1_items v_shelves1_items x2 x4 x5) (fun (l_128 : List Int64) =>
    some (x5, v_shelves0_items, l_128, v_shelves2_items, v_shelves3_items, v_shelves4_items, v_shelves5_items)))))))))
    else (some ((-12 : Int32), v_shelves0_items, v_shelves1_items, v_shelves2_items, v_shelves3_items, v_shelves4_items, v_shelves5_items)))
    else (some ((-12 : Int32), v_shelves0_items, v_shelves1_items, v_shelves2_items, v_shelves3_items, v_shelves4_items, v_shelves5_items)))
    else (some ((-12 : Int32), v_shelves0_items, v_shelves1_items, v_shelves2_items, v_shelves3_items, v_shelves4_items, v_shelves5_items)))))
    else (if x3 = (2 : Int32) then
    (if v_shelves1_holds = 0 then
    (some ((-11 : Int32), v_shelves0_items, v_shelves1_items, v_shelves2_items, v_shelves3_items, v_shelves4_items, v_shelves5_items))
    else (if v_shelves2_holds = 0 then
    (some ((-11 : Int32), v_shelves0_items, v_shelves1_items, v_shelves2_items, v_shelves3_items, v_shelves4_items, v_shelves5_items))
    else (if v_shelves1_holds = (2 : Int32) then
    (if v_shelves2_holds = (2 : Int32) then
    (if v_shelves1_sort = v_shelves2_sort then
    (if x5 < 0 then
    (some ((-13 : Int32), v_shelves0_items, v_shelves1_items, v_shelves2_items, v_shelves3_items, v_shelves4_items, v_shelves5_items))
    else (mm_bd1 (fX6_hasPart N x2 x5 v_shelves1_size) (fun (r_136 : Bool) =>
    if r_136 = false then
    (some ((-13 : Int32), v_shelves0_items, v_shelves1_items, v_shelves2_items, v_shelves3_items, v_shelves4_items, v_shelves5_items))
    else (mm_bd1 (fX6_hasPart N x4 x5 v_shelves2_size) (fun (r_139 : Bool) =>
    if r_139 = false then
    (some ((-13 : Int32), v_shelves0_items, v_shelves1_items, v_shelves2_items, v_shelves3_items, v_shelves4_items, v_shelves5_items))
    else (mm_ck (mm_cok x2 x4 x5 v_shelves1_items.length v_shelves2_items.length) (mm_nm (mm_cp v_shelves1_items v_shelves2_items x2 x4 x5) (fun (l_143 : List Int64) =>
    some (x5, v_shelves0_items, v_shelves1_items, l_143, v_shelves3_items, v_shelves4_items, v_shelves5_items)))))))))
    else (some ((-12 : Int32), v_shelves0_items, v_shelves1_items, v_shelves2_items, v_shelves3_items, v_shelves4_items, v_shelves5_items)))
    else (some ((-12 : Int32), v_shelves0_items, v_shelves1_items, v_shelves2_items, v_shelves3_items, v_shelves4_items, v_shelves5_items)))
    else (some ((-12 : Int32), v_shelves0_items, v_shelves1_items, v_shelves2_items, v_shelves3_items, v_shelves4_items, v_shelves5_items)))))
    else (if x3 = (3 : Int32) then
    (if v_shelves1_holds = 0 then
    (some ((-11 : Int32), v_shelves0_items, v_shelves1_items, v_shelves2_items, v_shelves3_items, v_shelves4_items, v_shelves5_items))
    else (if v_shelves3_holds = 0 then
    (some ((-11 : Int32), v_shelves0_items, v_shelves1_items, v_shelves2_items, v_shelves3_items, v_shelves4_items, v_shelves5_items))
    else (if v_shelves1_holds = (2 : Int32) then
    (if v_shelves3_holds = (2 : Int32) then
    (if v_shelves1_sort = v_shelves3_sort then
    (if x5 < 0 then
    (some ((-13 : Int32), v_shelves0_items, v_shelves1_items, v_shelves2_items, v_shelves3_items, v_shelves4_items, v_shelves5_items))
    else (mm_bd1 (fX6_hasPart N x2 x5 v_shelves1_size) (fun (r_151 : Bool) =>
    if r_151 = false then
    (some ((-13 : Int32), v_shelves0_items, v_shelves1_items, v_shelves2_items, v_shelves3_items, v_shelves4_items, v_shelves5_items))
    else (mm_bd1 (fX6_hasPart N x4 x5 v_shelves3_size) (fun (r_154 : Bool) =>
    if r_154 = false then
    (some ((-13 : Int32), v_shelves0_items, v_shelves1_items, v_shelves2_items, v_shelves3_items, v_shelves4_items, v_shelves5_items))
    else (mm_ck (mm_cok x2 x4 x5 v_shelves1_items.length v_shelves3_items.length) (mm_nm (mm_cp v_shelves1_items v_shelves3_items x2 x4 x5) (fun (l_158 : List Int64) =>
    some (x5, v_shelves0_items, v_shelves1_items, v_shelves2_items, l_158, v_shelves4_items, v_shelves5_items)))))))))
    else (some ((-12 : Int32), v_shelves0_items, v_shelves1_items, v_shelves2_items, v_shelves3_items, v_shelves4_items, v_shelves5_items)))
    else (some ((-12 : Int32), v_shelves0_items, v_shelves1_items, v_shelves2_items, v_shelves3_items, v_shelves4_items, v_shelves5_items)))
    else (some ((-12 : Int32), v_shelves0_items, v_shelves1_items, v_shelves2_items, v_shelves3_items, v_shelves4_items, v_shelves5_items)))))
    else (if x3 = (4 : Int32) then
    (if v_shelves1_holds = 0 then
    (some ((-11 : Int32), v_shelves0_items, v_shelves1_items, v_shelves2_items, v_shelves3_items, v_shelves4_items, v_shelves5_items))
    else (if v_shelves4_holds = 0 then
    (some ((-11 : Int32), v_shelves0_items, v_shelves1_items, v_shelves2_items, v_shelves3_items, v_shelves4_items, v_shelves5_items))
    else (if v_shelves1_holds = (2 : Int32) then
    (if v_shelves4_holds = (2 : Int32) then
    (if v_shelves1_sort = v_shelves4_sort then
    (if x5 < 0 then
    (some ((-13 : Int32), v_shelves0_items, v_shelves1_items, v_shelves2_items, v_shelves3_items, v_shelves4_items, v_shelves5_items))
    else (mm_bd1 (fX6_hasPart N x2 x5 v_shelves1_size) (fun (r_166 : Bool) =>
    if r_166 = false then
    (some ((-13 : Int32), v_shelves0_items, v_shelves1_items, v_shelves2_items, v_shelves3_items, v_shelves4_items, v_shelves5_items))
    else (mm_bd1 (fX6_hasPart N x4 x5 v_shelves4_size) (fun (r_169 : Bool) =>
    if r_169 = false then
    (some ((-13 : Int32), v_shelves0_items, v_shelves1_items, v_shelves2_items, v_shelves3_items, v_shelves4_items, v_shelves5_items))
    else (mm_ck (mm_cok x2 x4 x5 v_shelves1_items.length v_shelves4_items.length) (mm_nm (mm_cp v_shelves1_items v_shelves4_items x2 x4 x5) (fun (l_173 : List Int64) =>
    some (x5, v_shelves0_items, v_shelves1_items, v_shelves2_items, v_shelves3_items, l_173, v_shelves5_items)))))))))
    else (some ((-12 : Int32), v_shelves0_items, v_shelves1_items, v_shelves2_items, v_shelves3_items, v_shelves4_items, v_shelves5_items)))
    else (some ((-12 : Int32), v_shelves0_items, v_shelves1_items, v_shelves2_items, v_shelves3_items, v_shelves4_items, v_shelves5_items)))
    else (some ((-12 : Int32), v_shelves0_items, v_shelves1_items, v_shelves2_items, v_shelves3_items, v_shelves4_items, v_shelves5_items)))))
    else (if x3 = (5 : Int32) then
    (if v_shelves1_holds = 0 then
    (some ((-11 : Int32), v_shelves0_items, v_shelves1_items, v_shelves2_items, v_shelves3_items, v_shelves4_items, v_shelves5_items))
    else (if v_shelves5_holds = 0 then
    (some ((-11 : Int32), v_shelves0_items, v_shelves1_items, v_shelves2_items, v_shelves3_items, v_shelves4_items, v_shelves5_items))
    else (if v_shelves1_holds = (2 : Int32) then
    (if v_shelves5_holds = (2 : Int32) then
    (if v_shelves1_sort = v_shelves5_sort then
    (if x5 < 0 then
    (some ((-13 : Int32), v_shelves0_items, v_shelves1_items, v_shelves2_items, v_shelves3_items, v_shelves4_items, v_shelves5_items))
    else (mm_bd1 (fX6_hasPart N x2 x5 v_shelves1_size) (fun (r_181 : Bool) =>
    if r_181 = false then
    (some ((-13 : Int32), v_shelves0_items, v_shelves1_items, v_shelves2_items, v_shelves3_items, v_shelves4_items, v_shelves5_items))
    else (mm_bd1 (fX6_hasPart N x4 x5 v_shelves5_size) (fun (r_184 : Bool) =>
    if r_184 = false then
    (some ((-13 : Int32), v_shelves0_items, v_shelves1_items, v_shelves2_items, v_shelves3_items, v_shelves4_items, v_shelves5_items))
    else (mm_ck (mm_cok x2 x4 x5 v_shelves1_items.length v_shelves5_items.length) (mm_nm (mm_cp v_shelves1_items v_shelves5_items x2 x4 x5) (fun (l_188 : List Int64) =>
    some (x5, v_shelves0_items, v_shelves1_items, v_shelves2_items, v_shelves3_items, v_shelves4_items, l_188)))))))))
    else (some ((-12 : Int32), v_shelves0_items, v_shelves1_items, v_shelves2_items, v_shelves3_items, v_shelves4_items, v_shelves5_items)))
    else (some ((-12 : Int32), v_shelves0_items, v_shelves1_items, v_shelves2_items, v_shelves3_items, v_shelves4_items, v_shelves5_items)))
    else (some ((-12 : Int32), v_shelves0_items, v_shelves1_items, v_shelves2_items, v_shelves3_items, v_shelves4_items, v_shelves5_items)))))
    else (none)))))))
    else (if x1 = (2 : Int32) then
    (if x3 = (0 : Int32) then
    (if v_shelves2_holds = 0 then
    (some ((-11 : Int32), v_shelves0_items, v_shelves1_items, v_shelves2_items, v_shelves3_items, v_shelves4_items, v_shelves5_items))
    else (if v_shelves0_holds = 0 then
    (some ((-11 : Int32), v_shelves0_items, v_shelves1_items, v_shelves2_items, v_shelves3_items, v_shelves4_items, v_shelves5_items))
    else (if v_shelves2_holds = (2 : Int32) then
    (if v_shelves0_holds = (2 : Int32) then
    (if v_shelves2_sort = v_shelves0_sort then
    (if x5 < 0 then
    (some ((-13 : Int32), v_shelves0_items, v_shelves1_items, v_shelves2_items, v_shelves3_items, v_shelves4_items, v_shelves5_items))
    else (mm_bd1 (fX6_hasPart N x2 x5 v_shelves2_size) (fun (r_197 : Bool) =>
    if r_197 = false then
    (some ((-13 : Int32), v_shelves0_items, v_shelves1_items, v_shelves2_items, v_shelves3_items, v_shelves4_items, v_shelves5_items))
    else (mm_bd1 (fX6_hasPart N x4 x5 v_shelves0_size) (fun (r_200 : Bool) =>
    if r_200 = false then
    (some ((-13 : Int32), v_shelves0_items, v_shelves1_items, v_shelves2_items, v_shelves3_items, v_shelves4_items, v_shelves5_items))
    else (mm_ck (mm_cok x2 x4 x5 v_shelves2_items.length v_shelves0_items.length) (mm_nm (mm_cp v_shelves2_items v_shelves0_items x2 x4 x5) (fun (l_204 : List Int64) =>
    some (x5, l_204, v_shelves1_items, v_shelves2_items, v_shelves3_items, v_shelves4_items, v_shelves5_items)))))))))
    else (some ((-12 : Int32), v_shelves0_items, v_shelves1_items, v_shelves2_items, v_shelves3_items, v_shelves4_items, v_shelves5_items)))
    else (some ((-12 : Int32), v_shelves0_items, v_shelves1_items, v_shelves2_items, v_shelves3_items, v_shelves4_items, v_shelves5_items)))
    else (some ((-12 : Int32), v_shelves0_items, v_shelves1_items, v_shelves2_items, v_shelves3_items, v_shelves4_items, v_shelves5_items)))))
    else (if x3 = (1 : Int32) then
    (if v_shelves2_holds = 0 then
    (some ((-11 : Int32), v_shelves0_items, v_shelves1_items, v_shelves2_items, v_shelves3_items, v_shelves4_items, v_shelves5_items))
    else (if v_shelves1_holds = 0 then
    (some ((-11 : Int32), v_shelves0_items, v_shelves1_items, v_shelves2_items, v_shelves3_items, v_shelves4_items, v_shelves5_items))
    else (if v_shelves2_holds = (2 : Int32) then
    (if v_shelves1_holds = (2 : Int32) then
    (if v_shelves2_sort = v_shelves1_sort then
    (if x5 < 0 then
    (some ((-13 : Int32), v_shelves0_items, v_shelves1_items, v_shelves2_items, v_shelves3_items, v_shelves4_items, v_shelves5_items))
    else (mm_bd1 (fX6_hasPart N x2 x5 v_shelves2_size) (fun (r_212 : Bool) =>
    if r_212 = false then
    (some ((-13 : Int32), v_shelves0_items, v_shelves1_items, v_shelves2_items, v_shelves3_items, v_shelves4_items, v_shelves5_items))
    else (mm_bd1 (fX6_hasPart N x4 x5 v_shelves1_size) (fun (r_215 : Bool) =>
    if r_215 = false then
    (some ((-13 : Int32), v_shelves0_items, v_shelves1_items, v_shelves2_items, v_shelves3_items, v_shelves4_items, v_shelves5_items))
    else (mm_ck (mm_cok x2 x4 x5 v_shelves2_items.length v_shelves1_items.length) (mm_nm (mm_cp v_shelves2_items v_shelves1_items x2 x4 x5) (fun (l_219 : List Int64) =>
    some (x5, v_shelves0_items, l_219, v_shelves2_items, v_shelves3_items, v_shelves4_items, v_shelves5_items)))))))))
    else (some ((-12 : Int32), v_shelves0_items, v_shelves1_items, v_shelves2_items, v_shelves3_items, v_shelves4_items, v_shelves5_items)))
    else (some ((-12 : Int32), v_shelves0_items, v_shelves1_items, v_shelves2_items, v_shelves3_items, v_shelves4_items, v_shelves5_items)))
    else (some ((-12 : Int32), v_shelves0_items, v_shelves1_items, v_shelves2_items, v_shelves3_items, v_shelves4_items, v_shelves5_items)))))
    else (if x3 = (2 : Int32) then
    (if v_shelves2_holds = 0 then
    (some ((-11 : Int32), v_shelves0_items, v_shelves1_items, v_shelves2_items, v_shelves3_items, v_shelves4_items, v_shelves5_items))
    else (if v_shelves2_holds = 0 then
    (some ((-11 : Int32), v_shelves0_items, v_shelves1_items, v_shelves2_items, v_shelves3_items, v_shelves4_items, v_shelves5_items))
    else (if v_shelves2_holds = (2 : Int32) then
    (if v_shelves2_holds = (2 : Int32) then
    (if v_shelves2_sort = v_shelves2_sort then
    (if x5 < 0 then
    (some ((-13 : Int32), v_shelves0_items, v_shelves1_items, v_shelves2_items, v_shelves3_items, v_shelves4_items, v_shelves5_items))
    else (mm_bd1 (fX6_hasPart N x2 x5 v_shelves2_size) (fun (r_227 : Bool) =>
    if r_227 = false then
    (some ((-13 : Int32), v_shelves0_items, v_shelves1_items, v_shelves2_items, v_shelves3_items, v_shelves4_items, v_shelves5_items))
    else (mm_bd1 (fX6_hasPart N x4 x5 v_shelves2_size) (fun (r_230 : Bool) =>
    if r_230 = false then
    (some ((-13 : Int32), v_shelves0_items, v_shelves1_items, v_shelves2_items, v_shelves3_items, v_shelves4_items, v_shelves5_items))
    else (mm_ck (mm_cok x2 x4 x5 v_shelves2_items.length v_shelves2_items.length) (mm_nm (mm_cp v_shelves2_items v_shelves2_items x2 x4 x5) (fun (l_234 : List Int64) =>
    some (x5, v_shelves0_items, v_shelves1_items, l_234, v_shelves3_items, v_shelves4_items, v_shelves5_items)))))))))
    else (some ((-12 : Int32), v_shelves0_items, v_shelves1_items, v_shelves2_items, v_shelves3_items, v_shelves4_items, v_shelves5_items)))
    else (some ((-12 : Int32), v_shelves0_items, v_shelves1_items, v_shelves2_items, v_shelves3_items, v_shelves4_items, v_shelves5_items)))
    else (some ((-12 : Int32), v_shelves0_items, v_shelves1_items, v_shelves2_items, v_shelves3_items, v_shelves4_items, v_shelves5_items)))))
    else (if x3 = (3 : Int32) then
    (if v_shelves2_holds = 0 then
    (some ((-11 : Int32), v_shelves0_items, v_shelves1_items, v_shelves2_items, v_shelves3_items, v_shelves4_items, v_shelves5_items))
    else (if v_shelves3_holds = 0 then
    (some ((-11 : Int32), v_shelves0_items, v_shelves1_items, v_shelves2_items, v_shelves3_items, v_shelves4_items, v_shelves5_items))
    else (if v_shelves2_holds = (2 : Int32) then
    (if v_shelves3_holds = (2 : Int32) then
    (if v_shelves2_sort = v_shelves3_sort then
    (if x5 < 0 then
    (some ((-13 : Int32), v_shelves0_items, v_shelves1_items, v_shelves2_items, v_shelves3_items, v_shelves4_items, v_shelves5_items))
    else (mm_bd1 (fX6_hasPart N x2 x5 v_shelves2_size) (fun (r_242 : Bool) =>
    if r_242 = false then
    (some ((-13 : Int32), v_shelves0_items, v_shelves1_items, v_shelves2_items, v_shelves3_items, v_shelves4_items, v_shelves5_items))
    else (mm_bd1 (fX6_hasPart N x4 x5 v_shelves3_size) (fun (r_245 : Bool) =>
    if r_245 = false then
    (some ((-13 : Int32), v_shelves0_items, v_shelves1_items, v_shelves2_items, v_shelves3_items, v_shelves4_items, v_shelves5_items))
    else (mm_ck (mm_cok x2 x4 x5 v_shelves2_items.length v_shelves3_items.length) (mm_nm (mm_cp v_shelves2_items v_shelves3_items x2 x4 x5) (fun (l_249 : List Int64) =>
    some (x5, v_shelves0_items, v_shelves1_items, v_shelves2_items, l_249, v_shelves4_items, v_shelves5_items)))))))))
    else (some ((-12 : Int32), v_shelves0_items, v_shelves1_items, v_shelves2_items, v_shelves3_items, v_shelves4_items, v_shelves5_items)))
    else (some ((-12 : Int32), v_shelves0_items, v_shelves1_items, v_shelves2_items, v_shelves3_items, v_shelves4_items, v_shelves5_items)))
    else (some ((-12 : Int32), v_shelves0_items, v_shelves1_items, v_shelves2_items, v_shelves3_items, v_shelves4_items, v_shelves5_items)))))
    else (if x3 = (4 : Int32) then
    (if v_shelves2_holds = 0 then
    (some ((-11 : Int32), v_shelves0_items, v_shelves1_items, v_shelves2_items, v_shelves3_items, v_shelves4_items, v_shelves5_items))
    else (if v_shelves4_holds = 0 then
    (some ((-11 : Int32), v_shelves0_items, v_shelves1_items, v_shelves2_items, v_shelves3_items, v_shelves4_items, v_shelves5_items))
    else (if v_shelves2_holds = (2 : Int32) then
    (if v_shelves4_holds = (2 : Int32) then
    (if v_shelves2_sort = v_shelves4_sort then
    (if x5 < 0 then
    (some ((-13 : Int32), v_shelves0_items, v_shelves1_items, v_shelves2_items, v_shelves3_items, v_shelves4_items, v_shelves5_items))
    else (mm_bd1 (fX6_hasPart N x2 x5 v_shelves2_size) (fun (r_257 : Bool) =>
    if r_257 = false then
    (some ((-13 : Int32), v_shelves0_items, v_shelves1_items, v_shelves2_items, v_shelves3_items, v_shelves4_items, v_shelves5_items))
    else (mm_bd1 (fX6_hasPart N x4 x5 v_shelves4_size) (fun (r_260 : Bool) =>
    if r_260 = false then
    (some ((-13 : Int32), v_shelves0_items, v_shelves1_items, v_shelves2_items, v_shelves3_items, v_shelves4_items, v_shelves5_items))
    else (mm_ck (mm_cok x2 x4 x5 v_shelves2_items.length v_shelves4_items.length) (mm_nm (mm_cp v_shelves2_items v_shelves4_items x2 x4 x5) (fun (l_264 : List Int64) =>
    some (x5, v_shelves0_items, v_shelves1_items, v_shelves2_items, v_shelves3_items, l_264, v_shelves5_items)))))))))
    else (some ((-12 : Int32), v_shelves0_items, v_shelves1_items, v_shelves2_items, v_shelves3_items, v_shelves4_items, v_shelves5_items)))
    else (some ((-12 : Int32), v_shelves0_items, v_shelves1_items, v_shelves2_items, v_shelves3_items, v_shelves4_items, v_shelves5_items)))
    else (some ((-12 : Int32), v_shelves0_items, v_shelves1_items, v_shelves2_items, v_shelves3_items, v_shelves4_items, v_shelves5_items)))))
    else (if x3 = (5 : Int32) then
    (if v_shelves2_holds = 0 then
    (some ((-11 : Int32), v_shelves0_items, v_shelves1_items, v_shelves2_items, v_shelves3_items, v_shelves4_items, v_shelves5_items))
    else (if v_shelves5_holds = 0 then
    (some ((-11 : Int32), v_shelves0_items, v_shelves1_items, v_shelves2_items, v_shelves3_items, v_shelves4_items, v_shelves5_items))
    else (if v_shelves2_holds = (2 : Int32) then
    (if v_shelves5_holds = (2 : Int32) then
    (if v_shelves2_sort = v_shelves5_sort then
    (if x5 < 0 then
    (some ((-13 : Int32), v_shelves0_items, v_shelves1_items, v_shelves2_items, v_shelves3_items, v_shelves4_items, v_shelves5_items))
    else (mm_bd1 (fX6_hasPart N x2 x5 v_shelves2_size) (fun (r_272 : Bool) =>
    if r_272 = false then
    (some ((-13 : Int32), v_shelves0_items, v_shelves1_items, v_shelves2_items, v_shelves3_items, v_shelves4_items, v_shelves5_items))
    else (mm_bd1 (fX6_hasPart N x4 x5 v_shelves5_size) (fun (r_275 : Bool) =>
    if r_275 = false then
    (some ((-13 : Int32), v_shelves0_items, v_shelves1_items, v_shelves2_items, v_shelves3_items, v_shelves4_items, v_shelves5_items))
    else (mm_ck (mm_cok x2 x4 x5 v_shelves2_items.length v_shelves5_items.length) (mm_nm (mm_cp v_shelves2_items v_shelves5_items x2 x4 x5) (fun (l_279 : List Int64) =>
    some (x5, v_shelves0_items, v_shelves1_items, v_shelves2_items, v_shelves3_items, v_shelves4_items, l_279)))))))))
    else (some ((-12 : Int32), v_shelves0_items, v_shelves1_items, v_shelves2_items, v_shelves3_items, v_shelves4_items, v_shelves5_items)))
    else (some ((-12 : Int32), v_shelves0_items, v_shelves1_items, v_shelves2_items, v_shelves3_items, v_shelves4_items, v_shelves5_items)))
    else (some ((-12 : Int32), v_shelves0_items, v_shelves1_items, v_shelves2_items, v_shelves3_items, v_shelves4_items, v_shelves5_items)))))
    else (none)))))))
    else (if x1 = (3 : Int32) then
    (if x3 = (0 : Int32) then
    (if v_shelves3_holds = 0 then
    (some ((-11 : Int32), v_shelves0_items, v_shelves1_items, v_shelves2_items, v_shelves3_items, v_shelves4_items, v_shelves5_items))
    else (if v_shelves0_holds = 0 then
    (some ((-11 : Int32), v_shelves0_items, v_shelves1_items, v_shelves2_items, v_shelves3_items, v_shelves4_items, v_shelves5_items))
    else (if v_shelves3_holds = (2 : Int32) then
    (if v_shelves0_holds = (2 : Int32) then
    (if v_shelves3_sort = v_shelves0_sort then
    (if x5 < 0 then
    (some ((-13 : Int32), v_shelves0_items, v_shelves1_items, v_shelves2_items, v_shelves3_items, v_shelves4_items, v_shelves5_items))
    else (mm_bd1 (fX6_hasPart N x2 x5 v_shelves3_size) (fun (r_288 : Bool) =>
    if r_288 = false then
    (some ((-13 : Int32), v_shelves0_items, v_shelves1_items, v_shelves2_items, v_shelves3_items, v_shelves4_items, v_shelves5_items))
    else (mm_bd1 (fX6_hasPart N x4 x5 v_shelves0_size) (fun (r_291 : Bool) =>
    if r_291 = false then
    (some ((-13 : Int32), v_shelves0_items, v_shelves1_items, v_shelves2_items, v_shelves3_items, v_shelves4_items, v_shelves5_items))
    else (mm_ck (mm_cok x2 x4 x5 v_shelves3_items.length v_shelves0_items.length) (mm_nm (mm_cp v_shelves3_items v_shelves0_items x2 x4 x5) (fun (l_295 : List Int64) =>
    some (x5, l_295, v_shelves1_items, v_shelves2_items, v_shelves3_items, v_shelves4_items, v_shelves5_items)))))))))
    else (some ((-12 : Int32), v_shelves0_items, v_shelves1_items, v_shelves2_items, v_shelves3_items, v_shelves4_items, v_shelves5_items)))
    else (some ((-12 : Int32), v_shelves0_items, v_shelves1_items, v_shelves2_items, v_shelves3_items, v_shelves4_items, v_shelves5_items)))
    else (some ((-12 : Int32), v_shelves0_items, v_shelves1_items, v_shelves2_items, v_shelves3_items, v_shelves4_items, v_shelves5_items)))))
    else (if x3 = (1 : Int32) then
    (if v_shelves3_holds = 0 then
    (some ((-11 : Int32), v_shelves0_items, v_shelves1_items, v_shelves2_items, v_shelves3_items, v_shelves4_items, v_shelves5_items))
    else (if v_shelves1_holds = 0 then
    (some ((-11 : Int32), v_shelves0_items, v_shelves1_items, v_shelves2_items, v_shelves3_items, v_shelves4_items, v_shelves5_items))
    else (if v_shelves3_holds = (2 : Int32) then
    (if v_shelves1_holds = (2 : Int32) then
    (if v_shelves3_sort = v_shelves1_sort then
    (if x5 < 0 then
    (some ((-13 : Int32), v_shelves0_items, v_shelves1_items, v_shelves2_items, v_shelves3_items, v_shelves4_items, v_shelves5_items))
    else (mm_bd1 (fX6_hasPart N x2 x5 v_shelves3_size) (fun (r_303 : Bool) =>
    if r_303 = false then
    (some ((-13 : Int32), v_shelves0_items, v_shelves1_items, v_shelves2_items, v_shelves3_items, v_shelves4_items, v_shelves5_items))
    else (mm_bd1 (fX6_hasPart N x4 x5 v_shelves1_size) (fun (r_306 : Bool) =>
    if r_306 = false then
    (some ((-13 : Int32), v_shelves0_items, v_shelves1_items, v_shelves2_items, v_shelves3_items, v_shelves4_items, v_shelves5_items))
    else (mm_ck (mm_cok x2 x4 x5 v_shelves3_items.length v_shelves1_items.length) (mm_nm (mm_cp v_shelves3_items v_shelves1_items x2 x4 x5) (fun (l_310 : List Int64) =>
    some (x5, v_shelves0_items, l_310, v_shelves2_items, v_shelves3_items, v_shelves4_items, v_shelves5_items)))))))))
    else (some ((-12 : Int32), v_shelves0_items, v_shelves1_items, v_shelves2_items, v_shelves3_items, v_shelves4_items, v_shelves5_items)))
    else (some ((-12 : Int32), v_shelves0_items, v_shelves1_items, v_shelves2_items, v_shelves3_items, v_shelves4_items, v_shelves5_items)))
    else (some ((-12 : Int32), v_shelves0_items, v_shelves1_items, v_shelves2_items, v_shelves3_items, v_shelves4_items, v_shelves5_items)))))
    else (if x3 = (2 : Int32) then
    (if v_shelves3_holds = 0 then
    (some ((-11 : Int32), v_shelves0_items, v_shelves1_items, v_shelves2_items, v_shelves3_items, v_shelves4_items, v_shelves5_items))
    else (if v_shelves2_holds = 0 then
    (some ((-11 : Int32), v_shelves0_items, v_shelves1_items, v_shelves2_items, v_shelves3_items, v_shelves4_items, v_shelves5_items))
    else (if v_shelves3_holds = (2 : Int32) then
    (if v_shelves2_holds = (2 : Int32) then
    (if v_shelves3_sort = v_shelves2_sort then
    (if x5 < 0 then
    (some ((-13 : Int32), v_shelves0_items, v_shelves1_items, v_shelves2_items, v_shelves3_items, v_shelves4_items, v_shelves5_items))
    else (mm_bd1 (fX6_hasPart N x2 x5 v_shelves3_size) (fun (r_318 : Bool) =>
    if r_318 = false then
    (some ((-13 : Int32), v_shelves0_items, v_shelves1_items, v_shelves2_items, v_shelves3_items, v_shelves4_items, v_shelves5_items))
    else (mm_bd1 (fX6_hasPart N x4 x5 v_shelves2_size) (fun (r_321 : Bool) =>
    if r_321 = false then
    (some ((-13 : Int32), v_shelves0_items, v_shelves1_items, v_shelves2_items, v_shelves3_items, v_shelves4_items, v_shelves5_items))
    else (mm_ck (mm_cok x2 x4 x5 v_shelves3_items.length v_shelves2_items.length) (mm_nm (mm_cp v_shelves3_items v_shelves2_items x2 x4 x5) (fun (l_325 : List Int64) =>
    some (x5, v_shelves0_items, v_shelves1_items, l_325, v_shelves3_items, v_shelves4_items, v_shelves5_items)))))))))
    else (some ((-12 : Int32), v_shelves0_items, v_shelves1_items, v_shelves2_items, v_shelves3_items, v_shelves4_items, v_shelves5_items)))
    else (some ((-12 : Int32), v_shelves0_items, v_shelves1_items, v_shelves2_items, v_shelves3_items, v_shelves4_items, v_shelves5_items)))
    else (some ((-12 : Int32), v_shelves0_items, v_shelves1_items, v_shelves2_items, v_shelves3_items, v_shelves4_items, v_shelves5_items)))))
    else (if x3 = (3 : Int32) then
    (if v_shelves3_holds = 0 then
    (some ((-11 : Int32), v_shelves0_items, v_shelves1_items, v_shelves2_items, v_shelves3_items, v_shelves4_items, v_shelves5_items))
    else (if v_shelves3_holds = 0 then
    (some ((-11 : Int32), v_shelves0_items, v_shelves1_items, v_shelves2_items, v_shelves3_items, v_shelves4_items, v_shelves5_items))
    else (if v_shelves3_holds = (2 : Int32) then
    (if v_shelves3_holds = (2 : Int32) then
    (if v_shelves3_sort = v_shelves3_sort then
    (if x5 < 0 then
    (some ((-13 : Int32), v_shelves0_items, v_shelves1_items, v_shelves2_items, v_shelves3_items, v_shelves4_items, v_shelves5_items))
    else (mm_bd1 (fX6_hasPart N x2 x5 v_shelves3_size) (fun (r_333 : Bool) =>
    if r_333 = false then
    (some ((-13 : Int32), v_shelves0_items, v_shelves1_items, v_shelves2_items, v_shelves3_items, v_shelves4_items, v_shelves5_items))
    else (mm_bd1 (fX6_hasPart N x4 x5 v_shelves3_size) (fun (r_336 : Bool) =>
    if r_336 = false then
    (some ((-13 : Int32), v_shelves0_items, v_shelves1_items, v_shelves2_items, v_shelves3_items, v_shelves4_items, v_shelves5_items))
    else (mm_ck (mm_cok x2 x4 x5 v_shelves3_items.length v_shelves3_items.length) (mm_nm (mm_cp v_shelves3_items v_shelves3_items x2 x4 x5) (fun (l_340 : List Int64) =>
    some (x5, v_shelves0_items, v_shelves1_items, v_shelves2_items, l_340, v_shelves4_items, v_shelves5_items)))))))))
    else (some ((-12 : Int32), v_shelves0_items, v_shelves1_items, v_shelves2_items, v_shelves3_items, v_shelves4_items, v_shelves5_items)))
    else (some ((-12 : Int32), v_shelves0_items, v_shelves1_items, v_shelves2_items, v_shelves3_items, v_shelves4_items, v_shelves5_items)))
    else (some ((-12 : Int32), v_shelves0_items, v_shelves1_items, v_shelves2_items, v_shelves3_items, v_shelves4_items, v_shelves5_items)))))
    else (if x3 = (4 : Int32) then
    (if v_shelves3_holds = 0 then
    (some ((-11 : Int32), v_shelves0_items, v_shelves1_items, v_shelves2_items, v_shelves3_items, v_shelves4_items, v_shelves5_items))
    else (if v_shelves4_holds = 0 then
    (some ((-11 : Int32), v_shelves0_items, v_shelves1_items, v_shelves2_items, v_shelves3_items, v_shelves4_items, v_shelves5_items))
    else (if v_shelves3_holds = (2 : Int32) then
    (if v_shelves4_holds = (2 : Int32) then
    (if v_shelves3_sort = v_shelves4_sort then
    (if x5 < 0 then
    (some ((-13 : Int32), v_shelves0_items, v_shelves1_items, v_shelves2_items, v_shelves3_items, v_shelves4_items, v_shelves5_items))
    else (mm_bd1 (fX6_hasPart N x2 x5 v_shelves3_size) (fun (r_348 : Bool) =>
    if r_348 = false then
    (some ((-13 : Int32), v_shelves0_items, v_shelves1_items, v_shelves2_items, v_shelves3_items, v_shelves4_items, v_shelves5_items))
    else (mm_bd1 (fX6_hasPart N x4 x5 v_shelves4_size) (fun (r_351 : Bool) =>
    if r_351 = false then
    (some ((-13 : Int32), v_shelves0_items, v_shelves1_items, v_shelves2_items, v_shelves3_items, v_shelves4_items, v_shelves5_items))
    else (mm_ck (mm_cok x2 x4 x5 v_shelves3_items.length v_shelves4_items.length) (mm_nm (mm_cp v_shelves3_items v_shelves4_items x2 x4 x5) (fun (l_355 : List Int64) =>
    some (x5, v_shelves0_items, v_shelves1_items, v_shelves2_items, v_shelves3_items, l_355, v_shelves5_items)))))))))
    else (some ((-12 : Int32), v_shelves0_items, v_shelves1_items, v_shelves2_items, v_shelves3_items, v_shelves4_items, v_shelves5_items)))
    else (some ((-12 : Int32), v_shelves0_items, v_shelves1_items, v_shelves2_items, v_shelves3_items, v_shelves4_items, v_shelves5_items)))
    else (some ((-12 : Int32), v_shelves0_items, v_shelves1_items, v_shelves2_items, v_shelves3_items, v_shelves4_items, v_shelves5_items)))))
    else (if x3 = (5 : Int32) then
    (if v_shelves3_holds = 0 then
    (some ((-11 : Int32), v_shelves0_items, v_shelves1_items, v_shelves2_items, v_shelves3_items, v_shelves4_items, v_shelves5_items))
    else (if v_shelves5_holds = 0 then
    (some ((-11 : Int32), v_shelves0_items, v_shelves1_items, v_shelves2_items, v_shelves3_items, v_shelves4_items, v_shelves5_items))
    else (if v_shelves3_holds = (2 : Int32) then
    (if v_shelves5_holds = (2 : Int32) then
    (if v_shelves3_sort = v_shelves5_sort then
    (if x5 < 0 then
    (some ((-13 : Int32), v_shelves0_items, v_shelves1_items, v_shelves2_items, v_shelves3_items, v_shelves4_items, v_shelves5_items))
    else (mm_bd1 (fX6_hasPart N x2 x5 v_shelves3_size) (fun (r_363 : Bool) =>
    if r_363 = false then
    (some ((-13 : Int32), v_shelves0_items, v_shelves1_items, v_shelves2_items, v_shelves3_items, v_shelves4_items, v_shelves5_items))
    else (mm_bd1 (fX6_hasPart N x4 x5 v_shelves5_size) (fun (r_366 : Bool) =>
    if r_366 = false then
    (some ((-13 : Int32), v_shelves0_items, v_shelves1_items, v_shelves2_items, v_shelves3_items, v_shelves4_items, v_shelves5_items))
    else (mm_ck (mm_cok x2 x4 x5 v_shelves3_items.length v_shelves5_items.length) (mm_nm (mm_cp v_shelves3_items v_shelves5_items x2 x4 x5) (fun (l_370 : List Int64) =>
    some (x5, v_shelves0_items, v_shelves1_items, v_shelves2_items, v_shelves3_items, v_shelves4_items, l_370)))))))))
    else (some ((-12 : Int32), v_shelves0_items, v_shelves1_items, v_shelves2_items, v_shelves3_items, v_shelves4_items, v_shelves5_items)))
    else (some ((-12 : Int32), v_shelves0_items, v_shelves1_items, v_shelves2_items, v_shelves3_items, v_shelves4_items, v_shelves5_items)))
    else (some ((-12 : Int32), v_shelves0_items, v_shelves1_items, v_shelves2_items, v_shelves3_items, v_shelves4_items, v_shelves5_items)))))
    else (none)))))))
    else (if x1 = (4 : Int32) then
    (if x3 = (0 : Int32) then
    (if v_shelves4_holds = 0 then
    (some ((-11 : Int32), v_shelves0_items, v_shelves1_items, v_shelves2_items, v_shelves3_items, v_shelves4_items, v_shelves5_items))
    else (if v_shelves0_holds = 0 then
    (some ((-11 : Int32), v_shelves0_items, v_shelves1_items, v_shelves2_items, v_shelves3_items, v_shelves4_items, v_shelves5_items))
    else (if v_shelves4_holds = (2 : Int32) then
    (if v_shelves0_holds = (2 : Int32) then
    (if v_shelves4_sort = v_shelves0_sort then
    (if x5 < 0 then
    (some ((-13 : Int32), v_shelves0_items, v_shelves1_items, v_shelves2_items, v_shelves3_items, v_shelves4_items, v_shelves5_items))
    else (mm_bd1 (fX6_hasPart N x2 x5 v_shelves4_size) (fun (r_379 : Bool) =>
    if r_379 = false then
    (some ((-13 : Int32), v_shelves0_items, v_shelves1_items, v_shelves2_items, v_shelves3_items, v_shelves4_items, v_shelves5_items))
    else (mm_bd1 (fX6_hasPart N x4 x5 v_shelves0_size) (fun (r_382 : Bool) =>
    if r_382 = false then
    (some ((-13 : Int32), v_shelves0_items, v_shelves1_items, v_shelves2_items, v_shelves3_items, v_shelves4_items, v_shelves5_items))
    else (mm_ck (mm_cok x2 x4 x5 v_shelves4_items.length v_shelves0_items.length) (mm_nm (mm_cp v_shelves4_items v_shelves0_items x2 x4 x5) (fun (l_386 : List Int64) =>
    some (x5, l_386, v_shelves1_items, v_shelves2_items, v_shelves3_items, v_shelves4_items, v_shelves5_items)))))))))
    else (some ((-12 : Int32), v_shelves0_items, v_shelves1_items, v_shelves2_items, v_shelves3_items, v_shelves4_items, v_shelves5_items)))
    else (some ((-12 : Int32), v_shelves0_items, v_shelves1_items, v_shelves2_items, v_shelves3_items, v_shelves4_items, v_shelves5_items)))
    else (some ((-12 : Int32), v_shelves0_items, v_shelves1_items, v_shelves2_items, v_shelves3_items, v_shelves4_items, v_shelves5_items)))))
    else (if x3 = (1 : Int32) then
    (if v_shelves4_holds = 0 then
    (some ((-11 : Int32), v_shelves0_items, v_shelves1_items, v_shelves2_items, v_shelves3_items, v_shelves4_items, v_shelves5_items))
    else (if v_shelves1_holds = 0 then
    (some ((-11 : Int32), v_shelves0_items, v_shelves1_items, v_shelves2_items, v_shelves3_items, v_shelves4_items, v_shelves5_items))
    else (if v_shelves4_holds = (2 : Int32) then
    (if v_shelves1_holds = (2 : Int32) then
    (if v_shelves4_sort = v_shelves1_sort then
    (if x5 < 0 then
    (some ((-13 : Int32), v_shelves0_items, v_shelves1_items, v_shelves2_items, v_shelves3_items, v_shelves4_items, v_shelves5_items))
    else (mm_bd1 (fX6_hasPart N x2 x5 v_shelves4_size) (fun (r_394 : Bool) =>
    if r_394 = false then
    (some ((-13 : Int32), v_shelves0_items, v_shelves1_items, v_shelves2_items, v_shelves3_items, v_shelves4_items, v_shelves5_items))
    else (mm_bd1 (fX6_hasPart N x4 x5 v_shelves1_size) (fun (r_397 : Bool) =>
    if r_397 = false then
    (some ((-13 : Int32), v_shelves0_items, v_shelves1_items, v_shelves2_items, v_shelves3_items, v_shelves4_items, v_shelves5_items))
    else (mm_ck (mm_cok x2 x4 x5 v_shelves4_items.length v_shelves1_items.length) (mm_nm (mm_cp v_shelves4_items v_shelves1_items x2 x4 x5) (fun (l_401 : List Int64) =>
    some (x5, v_shelves0_items, l_401, v_shelves2_items, v_shelves3_items, v_shelves4_items, v_shelves5_items)))))))))
    else (some ((-12 : Int32), v_shelves0_items, v_shelves1_items, v_shelves2_items, v_shelves3_items, v_shelves4_items, v_shelves5_items)))
    else (some ((-12 : Int32), v_shelves0_items, v_shelves1_items, v_shelves2_items, v_shelves3_items, v_shelves4_items, v_shelves5_items)))
    else (some ((-12 : Int32), v_shelves0_items, v_shelves1_items, v_shelves2_items, v_shelves3_items, v_shelves4_items, v_shelves5_items)))))
    else (if x3 = (2 : Int32) then
    (if v_shelves4_holds = 0 then
    (some ((-11 : Int32), v_shelves0_items, v_shelves1_items, v_shelves2_items, v_shelves3_items, v_shelves4_items, v_shelves5_items))
    else (if v_shelves2_holds = 0 then
    (some ((-11 : Int32), v_shelves0_items, v_shelves1_items, v_shelves2_items, v_shelves3_items, v_shelves4_items, v_shelves5_items))
    else (if v_shelves4_holds = (2 : Int32) then
    (if v_shelves2_holds = (2 : Int32) then
    (if v_shelves4_sort = v_shelves2_sort then
    (if x5 < 0 then
    (some ((-13 : Int32), v_shelves0_items, v_shelves1_items, v_shelves2_items, v_shelves3_items, v_shelves4_items, v_shelves5_items))
    else (mm_bd1 (fX6_hasPart N x2 x5 v_shelves4_size) (fun (r_409 : Bool) =>
    if r_409 = false then
    (some ((-13 : Int32), v_shelves0_items, v_shelves1_items, v_shelves2_items, v_shelves3_items, v_shelves4_items, v_shelves5_items))
    else (mm_bd1 (fX6_hasPart N x4 x5 v_shelves2_size) (fun (r_412 : Bool) =>
    if r_412 = false then
    (some ((-13 : Int32), v_shelves0_items, v_shelves1_items, v_shelves2_items, v_shelves3_items, v_shelves4_items, v_shelves5_items))
    else (mm_ck (mm_cok x2 x4 x5 v_shelves4_items.length v_shelves2_items.length) (mm_nm (mm_cp v_shelves4_items v_shelves2_items x2 x4 x5) (fun (l_416 : List Int64) =>
    some (x5, v_shelves0_items, v_shelves1_items, l_416, v_shelves3_items, v_shelves4_items, v_shelves5_items)))))))))
    else (some ((-12 : Int32), v_shelves0_items, v_shelves1_items, v_shelves2_items, v_shelves3_items, v_shelves4_items, v_shelves5_items)))
    else (some ((-12 : Int32), v_shelves0_items, v_shelves1_items, v_shelves2_items, v_shelves3_items, v_shelves4_items, v_shelves5_items)))
    else (some ((-12 : Int32), v_shelves0_items, v_shelves1_items, v_shelves2_items, v_shelves3_items, v_shelves4_items, v_shelves5_items)))))
    else (if x3 = (3 : Int32) then
    (if v_shelves4_holds = 0 then
    (some ((-11 : Int32), v_shelves0_items, v_shelves1_items, v_shelves2_items, v_shelves3_items, v_shelves4_items, v_shelves5_items))
    else (if v_shelves3_holds = 0 then
    (some ((-11 : Int32), v_shelves0_items, v_shelves1_items, v_shelves2_items, v_shelves3_items, v_shelves4_items, v_shelves5_items))
    else (if v_shelves4_holds = (2 : Int32) then
    (if v_shelves3_holds = (2 : Int32) then
    (if v_shelves4_sort = v_shelves3_sort then
    (if x5 < 0 then
    (some ((-13 : Int32), v_shelves0_items, v_shelves1_items, v_shelves2_items, v_shelves3_items, v_shelves4_items, v_shelves5_items))
    else (mm_bd1 (fX6_hasPart N x2 x5 v_shelves4_size) (fun (r_424 : Bool) =>
    if r_424 = false then
    (some ((-13 : Int32), v_shelves0_items, v_shelves1_items, v_shelves2_items, v_shelves3_items, v_shelves4_items, v_shelves5_items))
    else (mm_bd1 (fX6_hasPart N x4 x5 v_shelves3_size) (fun (r_427 : Bool) =>
    if r_427 = false then
    (some ((-13 : Int32), v_shelves0_items, v_shelves1_items, v_shelves2_items, v_shelves3_items, v_shelves4_items, v_shelves5_items))
    else (mm_ck (mm_cok x2 x4 x5 v_shelves4_items.length v_shelves3_items.length) (mm_nm (mm_cp v_shelves4_items v_shelves3_items x2 x4 x5) (fun (l_431 : List Int64) =>
    some (x5, v_shelves0_items, v_shelves1_items, v_shelves2_items, l_431, v_shelves4_items, v_shelves5_items)))))))))
    else (some ((-12 : Int32), v_shelves0_items, v_shelves1_items, v_shelves2_items, v_shelves3_items, v_shelves4_items, v_shelves5_items)))
    else (some ((-12 : Int32), v_shelves0_items, v_shelves1_items, v_shelves2_items, v_shelves3_items, v_shelves4_items, v_shelves5_items)))
    else (some ((-12 : Int32), v_shelves0_items, v_shelves1_items, v_shelves2_items, v_shelves3_items, v_shelves4_items, v_shelves5_items)))))
    else (if x3 = (4 : Int32) then
    (if v_shelves4_holds = 0 then
    (some ((-11 : Int32), v_shelves0_items, v_shelves1_items, v_shelves2_items, v_shelves3_items, v_shelves4_items, v_shelves5_items))
    else (if v_shelves4_holds = 0 then
    (some ((-11 : Int32), v_shelves0_items, v_shelves1_items, v_shelves2_items, v_shelves3_items, v_shelves4_items, v_shelves5_items))
    else (if v_shelves4_holds = (2 : Int32) then
    (if v_shelves4_holds = (2 : Int32) then
    (if v_shelves4_sort = v_shelves4_sort then
    (if x5 < 0 then
    (some ((-13 : Int32), v_shelves0_items, v_shelves1_items, v_shelves2_items, v_shelves3_items, v_shelves4_items, v_shelves5_items))
    else (mm_bd1 (fX6_hasPart N x2 x5 v_shelves4_size) (fun (r_439 : Bool) =>
    if r_439 = false then
    (some ((-13 : Int32), v_shelves0_items, v_shelves1_items, v_shelves2_items, v_shelves3_items, v_shelves4_items, v_shelves5_items))
    else (mm_bd1 (fX6_hasPart N x4 x5 v_shelves4_size) (fun (r_442 : Bool) =>
    if r_442 = false then
    (some ((-13 : Int32), v_shelves0_items, v_shelves1_items, v_shelves2_items, v_shelves3_items, v_shelves4_items, v_shelves5_items))
    else (mm_ck (mm_cok x2 x4 x5 v_shelves4_items.length v_shelves4_items.length) (mm_nm (mm_cp v_shelves4_items v_shelves4_items x2 x4 x5) (fun (l_446 : List Int64) =>
    some (x5, v_shelves0_items, v_shelves1_items, v_shelves2_items, v_shelves3_items, l_446, v_shelves5_items)))))))))
    else (some ((-12 : Int32), v_shelves0_items, v_shelves1_items, v_shelves2_items, v_shelves3_items, v_shelves4_items, v_shelves5_items)))
    else (some ((-12 : Int32), v_shelves0_items, v_shelves1_items, v_shelves2_items, v_shelves3_items, v_shelves4_items, v_shelves5_items)))
    else (some ((-12 : Int32), v_shelves0_items, v_shelves1_items, v_shelves2_items, v_shelves3_items, v_shelves4_items, v_shelves5_items)))))
    else (if x3 = (5 : Int32) then
    (if v_shelves4_holds = 0 then
    (some ((-11 : Int32), v_shelves0_items, v_shelves1_items, v_shelves2_items, v_shelves3_items, v_shelves4_items, v_shelves5_items))
    else (if v_shelves5_holds = 0 then
    (some ((-11 : Int32), v_shelves0_items, v_shelves1_items, v_shelves2_items, v_shelves3_items, v_shelves4_items, v_shelves5_items))
    else (if v_shelves4_holds = (2 : Int32) then
    (if v_shelves5_holds = (2 : Int32) then
    (if v_shelves4_sort = v_shelves5_sort then
    (if x5 < 0 then
    (some ((-13 : Int32), v_shelves0_items, v_shelves1_items, v_shelves2_items, v_shelves3_items, v_shelves4_items, v_shelves5_items))
    else (mm_bd1 (fX6_hasPart N x2 x5 v_shelves4_size) (fun (r_454 : Bool) =>
    if r_454 = false then
    (some ((-13 : Int32), v_shelves0_items, v_shelves1_items, v_shelves2_items, v_shelves3_items, v_shelves4_items, v_shelves5_items))
    else (mm_bd1 (fX6_hasPart N x4 x5 v_shelves5_size) (fun (r_457 : Bool) =>
    if r_457 = false then
    (some ((-13 : Int32), v_shelves0_items, v_shelves1_items, v_shelves2_items, v_shelves3_items, v_shelves4_items, v_shelves5_items))
    else (mm_ck (mm_cok x2 x4 x5 v_shelves4_items.length v_shelves5_items.length) (mm_nm (mm_cp v_shelves4_items v_shelves5_items x2 x4 x5) (fun (l_461 : List Int64) =>
    some (x5, v_shelves0_items, v_shelves1_items, v_shelves2_items, v_shelves3_items, v_shelves4_items, l_461)))))))))
    else (some ((-12 : Int32), v_shelves0_items, v_shelves1_items, v_shelves2_items, v_shelves3_items, v_shelves4_items, v_shelves5_items)))
    else (some ((-12 : Int32), v_shelves0_items, v_shelves1_items, v_shelves2_items, v_shelves3_items, v_shelves4_items, v_shelves5_items)))
    else (some ((-12 : Int32), v_shelves0_items, v_shelves1_items, v_shelves2_items, v_shelves3_items, v_shelves4_items, v_shelves5_items)))))
    else (none)))))))
    else (if x1 = (5 : Int32) then
    (if x3 = (0 : Int32) then
    (if v_shelves5_holds = 0 then
    (some ((-11 : Int32), v_shelves0_items, v_shelves1_items, v_shelves2_items, v_shelves3_items, v_shelves4_items, v_shelves5_items))
    else (if v_shelves0_holds = 0 then
    (some ((-11 : Int32), v_shelves0_items, v_shelves1_items, v_shelves2_items, v_shelves3_items, v_shelves4_items, v_shelves5_items))
    else (if v_shelves5_holds = (2 : Int32) then
    (if v_shelves0_holds = (2 : Int32) then
    (if v_shelves5_sort = v_shelves0_sort then
    (if x5 < 0 then
    (some ((-13 : Int32), v_shelves0_items, v_shelves1_items, v_shelves2_items, v_shelves3_items, v_shelves4_items, v_shelves5_items))
    else (mm_bd1 (fX6_hasPart N x2 x5 v_shelves5_size) (fun (r_470 : Bool) =>
    if r_470 = false then
    (some ((-13 : Int32), v_shelves0_items, v_shelves1_items, v_shelves2_items, v_shelves3_items, v_shelves4_items, v_shelves5_items))
    else (mm_bd1 (fX6_hasPart N x4 x5 v_shelves0_size) (fun (r_473 : Bool) =>
    if r_473 = false then
    (some ((-13 : Int32), v_shelves0_items, v_shelves1_items, v_shelves2_items, v_shelves3_items, v_shelves4_items, v_shelves5_items))
    else (mm_ck (mm_cok x2 x4 x5 v_shelves5_items.length v_shelves0_items.length) (mm_nm (mm_cp v_shelves5_items v_shelves0_items x2 x4 x5) (fun (l_477 : List Int64) =>
    some (x5, l_477, v_shelves1_items, v_shelves2_items, v_shelves3_items, v_shelves4_items, v_shelves5_items)))))))))
    else (some ((-12 : Int32), v_shelves0_items, v_shelves1_items, v_shelves2_items, v_shelves3_items, v_shelves4_items, v_shelves5_items)))
    else (some ((-12 : Int32), v_shelves0_items, v_shelves1_items, v_shelves2_items, v_shelves3_items, v_shelves4_items, v_shelves5_items)))
    else (some ((-12 : Int32), v_shelves0_items, v_shelves1_items, v_shelves2_items, v_shelves3_items, v_shelves4_items, v_shelves5_items)))))
    else (if x3 = (1 : Int32) then
    (if v_shelves5_holds = 0 then
    (some ((-11 : Int32), v_shelves0_items, v_shelves1_items, v_shelves2_items, v_shelves3_items, v_shelves4_items, v_shelves5_items))
    else (if v_shelves1_holds = 0 then
    (some ((-11 : Int32), v_shelves0_items, v_shelves1_items, v_shelves2_items, v_shelves3_items, v_shelves4_items, v_shelves5_items))
    else (if v_shelves5_holds = (2 : Int32) then
    (if v_shelves1_holds = (2 : Int32) then
    (if v_shelves5_sort = v_shelves1_sort then
    (if x5 < 0 then
    (some ((-13 : Int32), v_shelves0_items, v_shelves1_items, v_shelves2_items, v_shelves3_items, v_shelves4_items, v_shelves5_items))
    else (mm_bd1 (fX6_hasPart N x2 x5 v_shelves5_size) (fun (r_485 : Bool) =>
    if r_485 = false then
    (some ((-13 : Int32), v_shelves0_items, v_shelves1_items, v_shelves2_items, v_shelves3_items, v_shelves4_items, v_shelves5_items))
    else (mm_bd1 (fX6_hasPart N x4 x5 v_shelves1_size) (fun (r_488 : Bool) =>
    if r_488 = false then
    (some ((-13 : Int32), v_shelves0_items, v_shelves1_items, v_shelves2_items, v_shelves3_items, v_shelves4_items, v_shelves5_items))
    else (mm_ck (mm_cok x2 x4 x5 v_shelves5_items.length v_shelves1_items.length) (mm_nm (mm_cp v_shelves5_items v_shelves1_items x2 x4 x5) (fun (l_492 : List Int64) =>
    some (x5, v_shelves0_items, l_492, v_shelves2_items, v_shelves3_items, v_shelves4_items, v_shelves5_items)))))))))
    else (some ((-12 : Int32), v_shelves0_items, v_shelves1_items, v_shelves2_items, v_shelves3_items, v_shelves4_items, v_shelves5_items)))
    else (some ((-12 : Int32), v_shelves0_items, v_shelves1_items, v_shelves2_items, v_shelves3_items, v_shelves4_items, v_shelves5_items)))
    else (some ((-12 : Int32), v_shelves0_items, v_shelves1_items, v_shelves2_items, v_shelves3_items, v_shelves4_items, v_shelves5_items)))))
    else (if x3 = (2 : Int32) then
    (if v_shelves5_holds = 0 then
    (some ((-11 : Int32), v_shelves0_items, v_shelves1_items, v_shelves2_items, v_shelves3_items, v_shelves4_items, v_shelves5_items))
    else (if v_shelves2_holds = 0 then
    (some ((-11 : Int32), v_shelves0_items, v_shelves1_items, v_shelves2_items, v_shelves3_items, v_shelves4_items, v_shelves5_items))
    else (if v_shelves5_holds = (2 : Int32) then
    (if v_shelves2_holds = (2 : Int32) then
    (if v_shelves5_sort = v_shelves2_sort then
    (if x5 < 0 then
    (some ((-13 : Int32), v_shelves0_items, v_shelves1_items, v_shelves2_items, v_shelves3_items, v_shelves4_items, v_shelves5_items))
    else (mm_bd1 (fX6_hasPart N x2 x5 v_shelves5_size) (fun (r_500 : Bool) =>
    if r_500 = false then
    (some ((-13 : Int32), v_shelves0_items, v_shelves1_items, v_shelves2_items, v_shelves3_items, v_shelves4_items, v_shelves5_items))
    else (mm_bd1 (fX6_hasPart N x4 x5 v_shelves2_size) (fun (r_503 : Bool) =>
    if r_503 = false then
    (some ((-13 : Int32), v_shelves0_items, v_shelves1_items, v_shelves2_items, v_shelves3_items, v_shelves4_items, v_shelves5_items))
    else (mm_ck (mm_cok x2 x4 x5 v_shelves5_items.length v_shelves2_items.length) (mm_nm (mm_cp v_shelves5_items v_shelves2_items x2 x4 x5) (fun (l_507 : List Int64) =>
    some (x5, v_shelves0_items, v_shelves1_items, l_507, v_shelves3_items, v_shelves4_items, v_shelves5_items)))))))))
    else (some ((-12 : Int32), v_shelves0_items, v_shelves1_items, v_shelves2_items, v_shelves3_items, v_shelves4_items, v_shelves5_items)))
    else (some ((-12 : Int32), v_shelves0_items, v_shelves1_items, v_shelves2_items, v_shelves3_items, v_shelves4_items, v_shelves5_items)))
    else (some ((-12 : Int32), v_shelves0_items, v_shelves1_items, v_shelves2_items, v_shelves3_items, v_shelves4_items, v_shelves5_items)))))
    else (if x3 = (3 : Int32) then
    (if v_shelves5_holds = 0 then
    (some ((-11 : Int32), v_shelves0_items, v_shelves1_items, v_shelves2_items, v_shelves3_items, v_shelves4_items, v_shelves5_items))
    else (if v_shelves3_holds = 0 then
    (some ((-11 : Int32), v_shelves0_items, v_shelves1_items, v_shelves2_items, v_shelves3_items, v_shelves4_items, v_shelves5_items))
    else (if v_shelves5_holds = (2 : Int32) then
    (if v_shelves3_holds = (2 : Int32) then
    (if v_shelves5_sort = v_shelves3_sort then
    (if x5 < 0 then
    (some ((-13 : Int32), v_shelves0_items, v_shelves1_items, v_shelves2_items, v_shelves3_items, v_shelves4_items, v_shelves5_items))
    else (mm_bd1 (fX6_hasPart N x2 x5 v_shelves5_size) (fun (r_515 : Bool) =>
    if r_515 = false then
    (some ((-13 : Int32), v_shelves0_items, v_shelves1_items, v_shelves2_items, v_shelves3_items, v_shelves4_items, v_shelves5_items))
    else (mm_bd1 (fX6_hasPart N x4 x5 v_shelves3_size) (fun (r_518 : Bool) =>
    if r_518 = false then
    (some ((-13 : Int32), v_shelves0_items, v_shelves1_items, v_shelves2_items, v_shelves3_items, v_shelves4_items, v_shelves5_items))
    else (mm_ck (mm_cok x2 x4 x5 v_shelves5_items.length v_shelves3_items.length) (mm_nm (mm_cp v_shelves5_items v_shelves3_items x2 x4 x5) (fun (l_522 : List Int64) =>
    some (x5, v_shelves0_items, v_shelves1_items, v_shelves2_items, l_522, v_shelves4_items, v_shelves5_items)))))))))
    else (some ((-12 : Int32), v_shelves0_items, v_shelves1_items, v_shelves2_items, v_shelves3_items, v_shelves4_items, v_shelves5_items)))
    else (some ((-12 : Int32), v_shelves0_items, v_shelves1_items, v_shelves2_items, v_shelves3_items, v_shelves4_items, v_shelves5_items)))
    else (some ((-12 : Int32), v_shelves0_items, v_shelves1_items, v_shelves2_items, v_shelves3_items, v_shelves4_items, v_shelves5_items)))))
    else (if x3 = (4 : Int32) then
    (if v_shelves5_holds = 0 then
    (some ((-11 : Int32), v_shelves0_items, v_shelves1_items, v_shelves2_items, v_shelves3_items, v_shelves4_items, v_shelves5_items))
    else (if v_shelves4_holds = 0 then
    (some ((-11 : Int32), v_shelves0_items, v_shelves1_items, v_shelves2_items, v_shelves3_items, v_shelves4_items, v_shelves5_items))
    else (if v_shelves5_holds = (2 : Int32) then
    (if v_shelves4_holds = (2 : Int32) then
    (if v_shelves5_sort = v_shelves4_sort then
    (if x5 < 0 then
    (some ((-13 : Int32), v_shelves0_items, v_shelves1_items, v_shelves2_items, v_shelves3_items, v_shelves4_items, v_shelves5_items))
    else (mm_bd1 (fX6_hasPart N x2 x5 v_shelves5_size) (fun (r_530 : Bool) =>
    if r_530 = false then
    (some ((-13 : Int32), v_shelves0_items, v_shelves1_items, v_shelves2_items, v_shelves3_items, v_shelves4_items, v_shelves5_items))
    else (mm_bd1 (fX6_hasPart N x4 x5 v_shelves4_size) (fun (r_533 : Bool) =>
    if r_533 = false then
    (some ((-13 : Int32), v_shelves0_items, v_shelves1_items, v_shelves2_items, v_shelves3_items, v_shelves4_items, v_shelves5_items))
    else (mm_ck (mm_cok x2 x4 x5 v_shelves5_items.length v_shelves4_items.length) (mm_nm (mm_cp v_shelves5_items v_shelves4_items x2 x4 x5) (fun (l_537 : List Int64) =>
    some (x5, v_shelves0_items, v_shelves1_items, v_shelves2_items, v_shelves3_items, l_537, v_shelves5_items)))))))))
    else (some ((-12 : Int32), v_shelves0_items, v_shelves1_items, v_shelves2_items, v_shelves3_items, v_shelves4_items, v_shelves5_items)))
    else (some ((-12 : Int32), v_shelves0_items, v_shelves1_items, v_shelves2_items, v_shelves3_items, v_shelves4_items, v_shelves5_items)))
    else (some ((-12 : Int32), v_shelves0_items, v_shelves1_items, v_shelves2_items, v_shelves3_items, v_shelves4_items, v_shelves5_items)))))
    else (if x3 = (5 : Int32) then
    (if v_shelves5_holds = 0 then
    (some ((-11 : Int32), v_shelves0_items, v_shelves1_items, v_shelves2_items, v_shelves3_items, v_shelves4_items, v_shelves5_items))
    else (if v_shelves5_holds = 0 then
    (some ((-11 : Int32), v_shelves0_items, v_shelves1_items, v_shelves2_items, v_shelves3_items, v_shelves4_items, v_shelves5_items))
    else (if v_shelves5_holds = (2 : Int32) then
    (if v_shelves5_holds = (2 : Int32) then
    (if v_shelves5_sort = v_shelves5_sort then
    (if x5 < 0 then
    (some ((-13 : Int32), v_shelves0_items, v_shelves1_items, v_shelves2_items, v_shelves3_items, v_shelves4_items, v_shelves5_items))
    else (mm_bd1 (fX6_hasPart N x2 x5 v_shelves5_size) (fun (r_545 : Bool) =>
    if r_545 = false then
    (some ((-13 : Int32), v_shelves0_items, v_shelves1_items, v_shelves2_items, v_shelves3_items, v_shelves4_items, v_shelves5_items))
    else (mm_bd1 (fX6_hasPart N x4 x5 v_shelves5_size) (fun (r_548 : Bool) =>
    if r_548 = false then
    (some ((-13 : Int32), v_shelves0_items, v_shelves1_items, v_shelves2_items, v_shelves3_items, v_shelves4_items, v_shelves5_items))
    else (mm_ck (mm_cok x2 x4 x5 v_shelves5_items.length v_shelves5_items.length) (mm_nm (mm_cp v_shelves5_items v_shelves5_items x2 x4 x5) (fun (l_552 : List Int64) =>
    some (x5, v_shelves0_items, v_shelves1_items, v_shelves2_items, v_shelves3_items, v_shelves4_items, l_552)))))))))
    else (some ((-12 : Int32), v_shelves0_items, v_shelves1_items, v_shelves2_items, v_shelves3_items, v_shelves4_items, v_shelves5_items)))
    else (some ((-12 : Int32), v_shelves0_items, v_shelves1_items, v_shelves2_items, v_shelves3_items, v_shelves4_items, v_shelves5_items)))
    else (some ((-12 : Int32), v_shelves0_items, v_shelves1_items, v_shelves2_items, v_shelves3_items, v_shelves4_items, v_shelves5_items)))))
    else (none)))))))
    else (none)))))))))) := rfl

set_option maxHeartbeats 4000000 in
set_option maxRecDepth 20000 in
theorem sf_X8_shift {N : Nat} (hN : 700 ≤ N) {x1 : Int32} {x2 : Int32} {x3 : Int32} {x4 : Int32} {x5 : Int32} {v_shelves0_holds : Int32} {v_shelves0_sort : Int32} {v_shelves0_size : Int32} {v_shelves0_items : List Int64} {v_shelves1_holds : Int32} {v_shelves1_sort : Int32} {v_shelves1_size : Int32} {v_shelves1_items : List Int64} {v_shelves2_holds : Int32} {v_shelves2_sort : Int32} {v_shelves2_size : Int32} {v_shelves2_items : List Int64} {v_shelves3_holds : Int32} {v_shelves3_sort : Int32} {v_shelves3_size : Int32} {v_shelves3_items : List Int64} {v_shelves4_holds : Int32} {v_shelves4_sort : Int32} {v_shelves4_size : Int32} {v_shelves4_items : List Int64} {v_shelves5_holds : Int32} {v_shelves5_sort : Int32} {v_shelves5_size : Int32} {v_shelves5_items : List Int64} (h_0 : 0 ≤ v_shelves0_size.toInt) (h_1 : v_shelves0_size.toInt ≤ 60) (h_2 : v_shelves0_items.length = 60) (h_3 : 0 ≤ v_shelves1_size.toInt) (h_4 : v_shelves1_size.toInt ≤ 60) (h_5 : v_shelves1_items.length = 60) (h_6 : 0 ≤ v_shelves2_size.toInt) (h_7 : v_shelves2_size.toInt ≤ 60) (h_8 : v_shelves2_items.length = 60) (h_9 : 0 ≤ v_shelves3_size.toInt) (h_10 : v_shelves3_size.toInt ≤ 60) (h_11 : v_shelves3_items.length = 60) (h_12 : 0 ≤ v_shelves4_size.toInt) (h_13 : v_shelves4_size.toInt ≤ 60) (h_14 : v_shelves4_items.length = 60) (h_15 : 0 ≤ v_shelves5_size.toInt) (h_16 : v_shelves5_size.toInt ≤ 60) (h_17 : v_shelves5_items.length = 60) : wp (fX8_shift N x1 x2 x3 x4 x5 v_shelves0_holds v_shelves0_sort v_shelves0_size v_shelves0_items v_shelves1_holds v_shelves1_sort v_shelves1_size v_shelves1_items v_shelves2_holds v_shelves2_sort v_shelves2_size v_shelves2_items v_shelves3_holds v_shelves3_sort v_shelves3_size v_shelves3_items v_shelves4_holds v_shelves4_sort v_shelves4_size v_shelves4_items v_shelves5_holds v_shelves5_sort v_shelves5_size v_shelves5_items) (cu7 (fun (r : Int32) (wv_shelves0_items : List Int64) (wv_shelves1_items : List Int64) (wv_shelves2_items : List Int64) (wv_shelves3_items : List Int64) (wv_shelves4_items : List Int64) (wv_shelves5_items : List Int64) => wv_shelves0_items.length = 60 ∧ wv_shelves1_items.length = 60 ∧ wv_shelves2_items.length = 60 ∧ wv_shelves3_items.length = 60 ∧ wv_shelves4_items.length = 60 ∧ wv_shelves5_items.length = 60)) := by
  refine wp_of (uf_X8_shift _ _ _ _ _ _ _ _ _ _ _ _ _ _ _ _ _ _ _ _ _ _ _ _ _ _ _ _ _ _) ?_
  refine wp_in1 ?_
  refine wp_of (uf_X8_isShelf _ _) ?_
  have n_2 : (0 : Int32).toInt = 0 := by decide
  refine wp_if (fun c_1 => ?_) (fun c_1 => ?_)
  ·
    have dc_1 := i_lt c_1
    refine wp_so1 ?_
    show wp _ _
    refine wp_ifp (by decide) ?_
    exact wp_so7 ⟨h_2, h_5, h_8, h_11, h_14, h_17⟩
  ·
    have dc_1 := i_nlt c_1
    have n_4 : (6 : Int32).toInt = 6 := by decide
    refine wp_if (fun c_3 => ?_) (fun c_3 => ?_)
    ·
      have dc_3 := i_le c_3
      refine wp_so1 ?_
      show wp _ _
      refine wp_ifp (by decide) ?_
      exact wp_so7 ⟨h_2, h_5, h_8, h_11, h_14, h_17⟩
    ·
      have dc_3 := i_nle c_3
      refine wp_so1 ?_
      show wp _ _
      refine wp_ifn (by decide) ?_
      refine wp_in1 ?_
      refine wp_of (uf_X8_isShelf _ _) ?_
      refine wp_if (fun c_5 => ?_) (fun c_5 => ?_)
      ·
        have dc_5 := i_lt c_5
        refine wp_so1 ?_
        show wp _ _
        refine wp_ifp (by decide) ?_
        exact wp_so7 ⟨h_2, h_5, h_8, h_11, h_14, h_17⟩
      ·
        have dc_5 := i_nlt c_5
        refine wp_if (fun c_6 => ?_) (fun c_6 => ?_)
        ·
          have dc_6 := i_le c_6
          refine wp_so1 ?_
          show wp _ _
          refine wp_ifp (by decide) ?_
          exact wp_so7 ⟨h_2, h_5, h_8, h_11, h_14, h_17⟩
        ·
          have dc_6 := i_nle c_6
          refine wp_so1 ?_
          show wp _ _
          refine wp_ifn (by decide) ?_
          refine wp_if (fun c_7 => ?_) (fun c_7 => ?_)
          ·
            have dc_7 := i_eq c_7
            refine wp_if (fun c_8 => ?_) (fun c_8 => ?_)
            ·
              have dc_8 := i_eq c_8
              refine wp_if (fun c_9 => ?_) (fun c_9 => ?_)
              ·
                have dc_9 := i_eq c_9
                exact wp_so7 ⟨h_2, h_5, h_8, h_11, h_14, h_17⟩
              ·
                have dc_9 := i_ne c_9
                refine wp_ifn c_9 ?_
                have n_12 : (2 : Int32).toInt = 2 := by decide
                refine wp_if (fun c_11 => ?_) (fun c_11 => ?_)
                ·
                  have dc_11 := i_eq c_11
                  refine wp_ifp c_11 ?_
                  refine wp_if (fun c_13 => ?_) (fun c_13 => ?_)
                  ·
                    have dc_13 := i_eq c_13
                    refine wp_if (fun c_14 => ?_) (fun c_14 => ?_)
                    ·
                      have dc_14 := i_lt c_14
                      exact wp_so7 ⟨h_2, h_5, h_8, h_11, h_14, h_17⟩
                    ·
                      have dc_14 := i_nlt c_14
                      refine wp_bd1 (sf_X6_hasPart hN h_0 h_1) (fun r_15 q_15 => ?_)
                      rcases q_15 with ⟨rfl, q_15⟩ | ⟨rfl, q_15⟩
                      ·
                        refine wp_ifn (by decide) ?_
                        refine wp_bd1 (sf_X6_hasPart hN h_0 h_1) (fun r_18 q_16 => ?_)
                        rcases q_16 with ⟨rfl, q_16⟩ | ⟨rfl, q_16⟩
                        ·
                          refine wp_ifn (by decide) ?_
                          have hc_17 : (mm_cok x2 x4 x5 v_shelves0_items.length v_shelves0_items.length) = true := i_cok (by omega) (by omega) (by omega) (by omega) (by omega)
                          refine wp_ck hc_17 ?_
                          refine wp_nm (fun l_22 h_l_22 => ?_)
                          have nl_l_22 : l_22.length = 60 := by rw [h_l_22, cp_len hc_17]; assumption
                          exact wp_so7 ⟨nl_l_22, h_5, h_8, h_11, h_14, h_17⟩
                        ·
                          refine wp_ifp (by decide) ?_
                          exact wp_so7 ⟨h_2, h_5, h_8, h_11, h_14, h_17⟩
                      ·
                        refine wp_ifp (by decide) ?_
                        exact wp_so7 ⟨h_2, h_5, h_8, h_11, h_14, h_17⟩
                  ·
                    have dc_13 := i_ne c_13
                    exact wp_so7 ⟨h_2, h_5, h_8, h_11, h_14, h_17⟩
                ·
                  have dc_11 := i_ne c_11
                  exact wp_so7 ⟨h_2, h_5, h_8, h_11, h_14, h_17⟩
            ·
              have dc_8 := i_ne c_8
              have n_19 : (1 : Int32).toInt = 1 := by decide
              refine wp_if (fun c_18 => ?_) (fun c_18 => ?_)
              ·
                have dc_18 := i_eq c_18
                refine wp_if (fun c_20 => ?_) (fun c_20 => ?_)
                ·
                  have dc_20 := i_eq c_20
                  exact wp_so7 ⟨h_2, h_5, h_8, h_11, h_14, h_17⟩
                ·
                  have dc_20 := i_ne c_20
                  refine wp_if (fun c_21 => ?_) (fun c_21 => ?_)
                  ·
                    have dc_21 := i_eq c_21
                    exact wp_so7 ⟨h_2, h_5, h_8, h_11, h_14, h_17⟩
                  ·
                    have dc_21 := i_ne c_21
                    have n_23 : (2 : Int32).toInt = 2 := by decide
                    refine wp_if (fun c_22 => ?_) (fun c_22 => ?_)
                    ·
                      have dc_22 := i_eq c_22
                      refine wp_if (fun c_24 => ?_) (fun c_24 => ?_)
                      ·
                        have dc_24 := i_eq c_24
                        refine wp_if (fun c_25 => ?_) (fun c_25 => ?_)
                        ·
                          have dc_25 := i_eq c_25
                          refine wp_if (fun c_26 => ?_) (fun c_26 => ?_)
                          ·
                            have dc_26 := i_lt c_26
                            exact wp_so7 ⟨h_2, h_5, h_8, h_11, h_14, h_17⟩
                          ·
                            have dc_26 := i_nlt c_26
                            refine wp_bd1 (sf_X6_hasPart hN h_0 h_1) (fun r_30 q_27 => ?_)
                            rcases q_27 with ⟨rfl, q_27⟩ | ⟨rfl, q_27⟩
                            ·
                              refine wp_ifn (by decide) ?_
                              refine wp_bd1 (sf_X6_hasPart hN h_3 h_4) (fun r_33 q_28 => ?_)
                              rcases q_28 with ⟨rfl, q_28⟩ | ⟨rfl, q_28⟩
                              ·
                                refine wp_ifn (by decide) ?_
                                have hc_29 : (mm_cok x2 x4 x5 v_shelves0_items.length v_shelves1_items.length) = true := i_cok (by omega) (by omega) (by omega) (by omega) (by omega)
                                refine wp_ck hc_29 ?_
                                refine wp_nm (fun l_37 h_l_37 => ?_)
                                have nl_l_37 : l_37.length = 60 := by rw [h_l_37, cp_len hc_29]; assumption
                                exact wp_so7 ⟨h_2, nl_l_37, h_8, h_11, h_14, h_17⟩
                              ·
                                refine wp_ifp (by decide) ?_
                                exact wp_so7 ⟨h_2, h_5, h_8, h_11, h_14, h_17⟩
                            ·
                              refine wp_ifp (by decide) ?_
                              exact wp_so7 ⟨h_2, h_5, h_8, h_11, h_14, h_17⟩
                        ·
                          have dc_25 := i_ne c_25
                          exact wp_so7 ⟨h_2, h_5, h_8, h_11, h_14, h_17⟩
                      ·
                        have dc_24 := i_ne c_24
                        exact wp_so7 ⟨h_2, h_5, h_8, h_11, h_14, h_17⟩
                    ·
                      have dc_22 := i_ne c_22
                      exact wp_so7 ⟨h_2, h_5, h_8, h_11, h_14, h_17⟩
              ·
                have dc_18 := i_ne c_18
                have n_31 : (2 : Int32).toInt = 2 := by decide
                refine wp_if (fun c_30 => ?_) (fun c_30 => ?_)
                ·
                  have dc_30 := i_eq c_30
                  refine wp_if (fun c_32 => ?_) (fun c_32 => ?_)
                  ·
                    have dc_32 := i_eq c_32
                    exact wp_so7 ⟨h_2, h_5, h_8, h_11, h_14, h_17⟩
                  ·
                    have dc_32 := i_ne c_32
                    refine wp_if (fun c_33 => ?_) (fun c_33 => ?_)
                    ·
                      have dc_33 := i_eq c_33
                      exact wp_so7 ⟨h_2, h_5, h_8, h_11, h_14, h_17⟩
                    ·
                      have dc_33 := i_ne c_33
                      refine wp_if (fun c_34 => ?_) (fun c_34 => ?_)
                      ·
                        have dc_34 := i_eq c_34
                        refine wp_if (fun c_35 => ?_) (fun c_35 => ?_)
                        ·
                          have dc_35 := i_eq c_35
                          refine wp_if (fun c_36 => ?_) (fun c_36 => ?_)
                          ·
                            have dc_36 := i_eq c_36
                            refine wp_if (fun c_37 => ?_) (fun c_37 => ?_)
                            ·
                              have dc_37 := i_lt c_37
                              exact wp_so7 ⟨h_2, h_5, h_8, h_11, h_14, h_17⟩
                            ·
                              have dc_37 := i_nlt c_37
                              refine wp_bd1 (sf_X6_hasPart hN h_0 h_1) (fun r_45 q_38 => ?_)
                              rcases q_38 with ⟨rfl, q_38⟩ | ⟨rfl, q_38⟩
                              ·
                                refine wp_ifn (by decide) ?_
                                refine wp_bd1 (sf_X6_hasPart hN h_6 h_7) (fun r_48 q_39 => ?_)
                                rcases q_39 with ⟨rfl, q_39⟩ | ⟨rfl, q_39⟩
                                ·
                                  refine wp_ifn (by decide) ?_
                                  have hc_40 : (mm_cok x2 x4 x5 v_shelves0_items.length v_shelves2_items.length) = true := i_cok (by omega) (by omega) (by omega) (by omega) (by omega)
                                  refine wp_ck hc_40 ?_
                                  refine wp_nm (fun l_52 h_l_52 => ?_)
                                  have nl_l_52 : l_52.length = 60 := by rw [h_l_52, cp_len hc_40]; assumption
                                  exact wp_so7 ⟨h_2, h_5, nl_l_52, h_11, h_14, h_17⟩
                                ·
                                  refine wp_ifp (by decide) ?_
                                  exact wp_so7 ⟨h_2, h_5, h_8, h_11, h_14, h_17⟩
                              ·
                                refine wp_ifp (by decide) ?_
                                exact wp_so7 ⟨h_2, h_5, h_8, h_11, h_14, h_17⟩
                          ·
                            have dc_36 := i_ne c_36
                            exact wp_so7 ⟨h_2, h_5, h_8, h_11, h_14, h_17⟩
                        ·
                          have dc_35 := i_ne c_35
                          exact wp_so7 ⟨h_2, h_5, h_8, h_11, h_14, h_17⟩
                      ·
                        have dc_34 := i_ne c_34
                        exact wp_so7 ⟨h_2, h_5, h_8, h_11, h_14, h_17⟩
                ·
                  have dc_30 := i_ne c_30
                  have n_42 : (3 : Int32).toInt = 3 := by decide
                  refine wp_if (fun c_41 => ?_) (fun c_41 => ?_)
                  ·
                    have dc_41 := i_eq c_41
                    refine wp_if (fun c_43 => ?_) (fun c_43 => ?_)
                    ·
                      have dc_43 := i_eq c_43
                      exact wp_so7 ⟨h_2, h_5, h_8, h_11, h_14, h_17⟩
                    ·
                      have dc_43 := i_ne c_43
                      refine wp_if (fun c_44 => ?_) (fun c_44 => ?_)
                      ·
                        have dc_44 := i_eq c_44
                        exact wp_so7 ⟨h_2, h_5, h_8, h_11, h_14, h_17⟩
                      ·
                        have dc_44 := i_ne c_44
                        refine wp_if (fun c_45 => ?_) (fun c_45 => ?_)
                        ·
                          have dc_45 := i_eq c_45
                          refine wp_if (fun c_46 => ?_) (fun c_46 => ?_)
                          ·
                            have dc_46 := i_eq c_46
                            refine wp_if (fun c_47 => ?_) (fun c_47 => ?_)
                            ·
                              have dc_47 := i_eq c_47
                              refine wp_if (fun c_48 => ?_) (fun c_48 => ?_)
                              ·
                                have dc_48 := i_lt c_48
                                exact wp_so7 ⟨h_2, h_5, h_8, h_11, h_14, h_17⟩
                              ·
                                have dc_48 := i_nlt c_48
                                refine wp_bd1 (sf_X6_hasPart hN h_0 h_1) (fun r_60 q_49 => ?_)
                                rcases q_49 with ⟨rfl, q_49⟩ | ⟨rfl, q_49⟩
                                ·
                                  refine wp_ifn (by decide) ?_
                                  refine wp_bd1 (sf_X6_hasPart hN h_9 h_10) (fun r_63 q_50 => ?_)
                                  rcases q_50 with ⟨rfl, q_50⟩ | ⟨rfl, q_50⟩
                                  ·
                                    refine wp_ifn (by decide) ?_
                                    have hc_51 : (mm_cok x2 x4 x5 v_shelves0_items.length v_shelves3_items.length) = true := i_cok (by omega) (by omega) (by omega) (by omega) (by omega)
                                    refine wp_ck hc_51 ?_
                                    refine wp_nm (fun l_67 h_l_67 => ?_)
                                    have nl_l_67 : l_67.length = 60 := by rw [h_l_67, cp_len hc_51]; assumption
                                    exact wp_so7 ⟨h_2, h_5, h_8, nl_l_67, h_14, h_17⟩
                                  ·
                                    refine wp_ifp (by decide) ?_
                                    exact wp_so7 ⟨h_2, h_5, h_8, h_11, h_14, h_17⟩
                                ·
                                  refine wp_ifp (by decide) ?_
                                  exact wp_so7 ⟨h_2, h_5, h_8, h_11, h_14, h_17⟩
                            ·
                              have dc_47 := i_ne c_47
                              exact wp_so7 ⟨h_2, h_5, h_8, h_11, h_14, h_17⟩
                          ·
                            have dc_46 := i_ne c_46
                            exact wp_so7 ⟨h_2, h_5, h_8, h_11, h_14, h_17⟩
                        ·
                          have dc_45 := i_ne c_45
                          exact wp_so7 ⟨h_2, h_5, h_8, h_11, h_14, h_17⟩
                  ·
                    have dc_41 := i_ne c_41
                    have n_53 : (4 : Int32).toInt = 4 := by decide
                    refine wp_if (fun c_52 => ?_) (fun c_52 => ?_)
                    ·
                      have dc_52 := i_eq c_52
                      refine wp_if (fun c_54 => ?_) (fun c_54 => ?_)
                      ·
                        have dc_54 := i_eq c_54
                        exact wp_so7 ⟨h_2, h_5, h_8, h_11, h_14, h_17⟩
                      ·
                        have dc_54 := i_ne c_54
                        refine wp_if (fun c_55 => ?_) (fun c_55 => ?_)
                        ·
                          have dc_55 := i_eq c_55
                          exact wp_so7 ⟨h_2, h_5, h_8, h_11, h_14, h_17⟩
                        ·
                          have dc_55 := i_ne c_55
                          refine wp_if (fun c_56 => ?_) (fun c_56 => ?_)
                          ·
                            have dc_56 := i_eq c_56
                            refine wp_if (fun c_57 => ?_) (fun c_57 => ?_)
                            ·
                              have dc_57 := i_eq c_57
                              refine wp_if (fun c_58 => ?_) (fun c_58 => ?_)
                              ·
                                have dc_58 := i_eq c_58
                                refine wp_if (fun c_59 => ?_) (fun c_59 => ?_)
                                ·
                                  have dc_59 := i_lt c_59
                                  exact wp_so7 ⟨h_2, h_5, h_8, h_11, h_14, h_17⟩
                                ·
                                  have dc_59 := i_nlt c_59
                                  refine wp_bd1 (sf_X6_hasPart hN h_0 h_1) (fun r_75 q_60 => ?_)
                                  rcases q_60 with ⟨rfl, q_60⟩ | ⟨rfl, q_60⟩
                                  ·
                                    refine wp_ifn (by decide) ?_
                                    refine wp_bd1 (sf_X6_hasPart hN h_12 h_13) (fun r_78 q_61 => ?_)
                                    rcases q_61 with ⟨rfl, q_61⟩ | ⟨rfl, q_61⟩
                                    ·
                                      refine wp_ifn (by decide) ?_
                                      have hc_62 : (mm_cok x2 x4 x5 v_shelves0_items.length v_shelves4_items.length) = true := i_cok (by omega) (by omega) (by omega) (by omega) (by omega)
                                      refine wp_ck hc_62 ?_
                                      refine wp_nm (fun l_82 h_l_82 => ?_)
                                      have nl_l_82 : l_82.length = 60 := by rw [h_l_82, cp_len hc_62]; assumption
                                      exact wp_so7 ⟨h_2, h_5, h_8, h_11, nl_l_82, h_17⟩
                                    ·
                                      refine wp_ifp (by decide) ?_
                                      exact wp_so7 ⟨h_2, h_5, h_8, h_11, h_14, h_17⟩
                                  ·
                                    refine wp_ifp (by decide) ?_
                                    exact wp_so7 ⟨h_2, h_5, h_8, h_11, h_14, h_17⟩
                              ·
                                have dc_58 := i_ne c_58
                                exact wp_so7 ⟨h_2, h_5, h_8, h_11, h_14, h_17⟩
                            ·
                              have dc_57 := i_ne c_57
                              exact wp_so7 ⟨h_2, h_5, h_8, h_11, h_14, h_17⟩
                          ·
                            have dc_56 := i_ne c_56
                            exact wp_so7 ⟨h_2, h_5, h_8, h_11, h_14, h_17⟩
                    ·
                      have dc_52 := i_ne c_52
                      have n_64 : (5 : Int32).toInt = 5 := by decide
                      refine wp_if (fun c_63 => ?_) (fun c_63 => ?_)
                      ·
                        have dc_63 := i_eq c_63
                        refine wp_if (fun c_65 => ?_) (fun c_65 => ?_)
                        ·
                          have dc_65 := i_eq c_65
                          exact wp_so7 ⟨h_2, h_5, h_8, h_11, h_14, h_17⟩
                        ·
                          have dc_65 := i_ne c_65
                          refine wp_if (fun c_66 => ?_) (fun c_66 => ?_)
                          ·
                            have dc_66 := i_eq c_66
                            exact wp_so7 ⟨h_2, h_5, h_8, h_11, h_14, h_17⟩
                          ·
                            have dc_66 := i_ne c_66
                            refine wp_if (fun c_67 => ?_) (fun c_67 => ?_)
                            ·
                              have dc_67 := i_eq c_67
                              refine wp_if (fun c_68 => ?_) (fun c_68 => ?_)
                              ·
                                have dc_68 := i_eq c_68
                                refine wp_if (fun c_69 => ?_) (fun c_69 => ?_)
                                ·
                                  have dc_69 := i_eq c_69
                                  refine wp_if (fun c_70 => ?_) (fun c_70 => ?_)
                                  ·
                                    have dc_70 := i_lt c_70
                                    exact wp_so7 ⟨h_2, h_5, h_8, h_11, h_14, h_17⟩
                                  ·
                                    have dc_70 := i_nlt c_70
                                    refine wp_bd1 (sf_X6_hasPart hN h_0 h_1) (fun r_90 q_71 => ?_)
                                    rcases q_71 with ⟨rfl, q_71⟩ | ⟨rfl, q_71⟩
                                    ·
                                      refine wp_ifn (by decide) ?_
                                      refine wp_bd1 (sf_X6_hasPart hN h_15 h_16) (fun r_93 q_72 => ?_)
                                      rcases q_72 with ⟨rfl, q_72⟩ | ⟨rfl, q_72⟩
                                      ·
                                        refine wp_ifn (by decide) ?_
                                        have hc_73 : (mm_cok x2 x4 x5 v_shelves0_items.length v_shelves5_items.length) = true := i_cok (by omega) (by omega) (by omega) (by omega) (by omega)
                                        refine wp_ck hc_73 ?_
                                        refine wp_nm (fun l_97 h_l_97 => ?_)
                                        have nl_l_97 : l_97.length = 60 := by rw [h_l_97, cp_len hc_73]; assumption
                                        exact wp_so7 ⟨h_2, h_5, h_8, h_11, h_14, nl_l_97⟩
                                      ·
                                        refine wp_ifp (by decide) ?_
                                        exact wp_so7 ⟨h_2, h_5, h_8, h_11, h_14, h_17⟩
                                    ·
                                      refine wp_ifp (by decide) ?_
                                      exact wp_so7 ⟨h_2, h_5, h_8, h_11, h_14, h_17⟩
                                ·
                                  have dc_69 := i_ne c_69
                                  exact wp_so7 ⟨h_2, h_5, h_8, h_11, h_14, h_17⟩
                              ·
                                have dc_68 := i_ne c_68
                                exact wp_so7 ⟨h_2, h_5, h_8, h_11, h_14, h_17⟩
                            ·
                              have dc_67 := i_ne c_67
                              exact wp_so7 ⟨h_2, h_5, h_8, h_11, h_14, h_17⟩
                      ·
                        have dc_63 := i_ne c_63
                        exact (show False by omega).elim
          ·
            have dc_7 := i_ne c_7
            have n_75 : (1 : Int32).toInt = 1 := by decide
            refine wp_if (fun c_74 => ?_) (fun c_74 => ?_)
            ·
              have dc_74 := i_eq c_74
              refine wp_if (fun c_76 => ?_) (fun c_76 => ?_)
              ·
                have dc_76 := i_eq c_76
                refine wp_if (fun c_77 => ?_) (fun c_77 => ?_)
                ·
                  have dc_77 := i_eq c_77
                  exact wp_so7 ⟨h_2, h_5, h_8, h_11, h_14, h_17⟩
                ·
                  have dc_77 := i_ne c_77
                  refine wp_if (fun c_78 => ?_) (fun c_78 => ?_)
                  ·
                    have dc_78 := i_eq c_78
                    exact wp_so7 ⟨h_2, h_5, h_8, h_11, h_14, h_17⟩
                  ·
                    have dc_78 := i_ne c_78
                    have n_80 : (2 : Int32).toInt = 2 := by decide
                    refine wp_if (fun c_79 => ?_) (fun c_79 => ?_)
                    ·
                      have dc_79 := i_eq c_79
                      refine wp_if (fun c_81 => ?_) (fun c_81 => ?_)
                      ·
                        have dc_81 := i_eq c_81
                        refine wp_if (fun c_82 => ?_) (fun c_82 => ?_)
                        ·
                          have dc_82 := i_eq c_82
                          refine wp_if (fun c_83 => ?_) (fun c_83 => ?_)
                          ·
                            have dc_83 := i_lt c_83
                            exact wp_so7 ⟨h_2, h_5, h_8, h_11, h_14, h_17⟩
                          ·
                            have dc_83 := i_nlt c_83
                            refine wp_bd1 (sf_X6_hasPart hN h_3 h_4) (fun r_106 q_84 => ?_)
                            rcases q_84 with ⟨rfl, q_84⟩ | ⟨rfl, q_84⟩
                            ·
                              refine wp_ifn (by decide) ?_
                              refine wp_bd1 (sf_X6_hasPart hN h_0 h_1) (fun r_109 q_85 => ?_)
                              rcases q_85 with ⟨rfl, q_85⟩ | ⟨rfl, q_85⟩
                              ·
                                refine wp_ifn (by decide) ?_
                                have hc_86 : (mm_cok x2 x4 x5 v_shelves1_items.length v_shelves0_items.length) = true := i_cok (by omega) (by omega) (by omega) (by omega) (by omega)
                                refine wp_ck hc_86 ?_
                                refine wp_nm (fun l_113 h_l_113 => ?_)
                                have nl_l_113 : l_113.length = 60 := by rw [h_l_113, cp_len hc_86]; assumption
                                exact wp_so7 ⟨nl_l_113, h_5, h_8, h_11, h_14, h_17⟩
                              ·
                                refine wp_ifp (by decide) ?_
                                exact wp_so7 ⟨h_2, h_5, h_8, h_11, h_14, h_17⟩
                            ·
                              refine wp_ifp (by decide) ?_
                              exact wp_so7 ⟨h_2, h_5, h_8, h_11, h_14, h_17⟩
                        ·
                          have dc_82 := i_ne c_82
                          exact wp_so7 ⟨h_2, h_5, h_8, h_11, h_14, h_17⟩
                      ·
                        have dc_81 := i_ne c_81
                        exact wp_so7 ⟨h_2, h_5, h_8, h_11, h_14, h_17⟩
                    ·
                      have dc_79 := i_ne c_79
                      exact wp_so7 ⟨h_2, h_5, h_8, h_11, h_14, h_17⟩
              ·
                have dc_76 := i_ne c_76
                refine wp_if (fun c_87 => ?_) (fun c_87 => ?_)
                ·
                  have dc_87 := i_eq c_87
                  refine wp_if (fun c_88 => ?_) (fun c_88 => ?_)
                  ·
                    have dc_88 := i_eq c_88
                    exact wp_so7 ⟨h_2, h_5, h_8, h_11, h_14, h_17⟩
                  ·
                    have dc_88 := i_ne c_88
                    refine wp_ifn c_88 ?_
                    have n_91 : (2 : Int32).toInt = 2 := by decide
                    refine wp_if (fun c_90 => ?_) (fun c_90 => ?_)
                    ·
                      have dc_90 := i_eq c_90
                      refine wp_ifp c_90 ?_
                      refine wp_if (fun c_92 => ?_) (fun c_92 => ?_)
                      ·
                        have dc_92 := i_eq c_92
                        refine wp_if (fun c_93 => ?_) (fun c_93 => ?_)
                        ·
                          have dc_93 := i_lt c_93
                          exact wp_so7 ⟨h_2, h_5, h_8, h_11, h_14, h_17⟩
                        ·
                          have dc_93 := i_nlt c_93
                          refine wp_bd1 (sf_X6_hasPart hN h_3 h_4) (fun r_121 q_94 => ?_)
                          rcases q_94 with ⟨rfl, q_94⟩ | ⟨rfl, q_94⟩
                          ·
                            refine wp_ifn (by decide) ?_
                            refine wp_bd1 (sf_X6_hasPart hN h_3 h_4) (fun r_124 q_95 => ?_)
                            rcases q_95 with ⟨rfl, q_95⟩ | ⟨rfl, q_95⟩
                            ·
                              refine wp_ifn (by decide) ?_
                              have hc_96 : (mm_cok x2 x4 x5 v_shelves1_items.length v_shelves1_items.length) = true := i_cok (by omega) (by omega) (by omega) (by omega) (by omega)
                              refine wp_ck hc_96 ?_
                              refine wp_nm (fun l_128 h_l_128 => ?_)
                              have nl_l_128 : l_128.length = 60 := by rw [h_l_128, cp_len hc_96]; assumption
                              exact wp_so7 ⟨h_2, nl_l_128, h_8, h_11, h_14, h_17⟩
                            ·
                              refine wp_ifp (by decide) ?_
                              exact wp_so7 ⟨h_2, h_5, h_8, h_11, h_14, h_17⟩
                          ·
                            refine wp_ifp (by decide) ?_
                            exact wp_so7 ⟨h_2, h_5, h_8, h_11, h_14, h_17⟩
                      ·
                        have dc_92 := i_ne c_92
                        exact wp_so7 ⟨h_2, h_5, h_8, h_11, h_14, h_17⟩
                    ·
                      have dc_90 := i_ne c_90
                      exact wp_so7 ⟨h_2, h_5, h_8, h_11, h_14, h_17⟩
                ·
                  have dc_87 := i_ne c_87
                  have n_98 : (2 : Int32).toInt = 2 := by decide
                  refine wp_if (fun c_97 => ?_) (fun c_97 => ?_)
                  ·
                    have dc_97 := i_eq c_97
                    refine wp_if (fun c_99 => ?_) (fun c_99 => ?_)
                    ·
                      have dc_99 := i_eq c_99
                      exact wp_so7 ⟨h_2, h_5, h_8, h_11, h_14, h_17⟩
                    ·
                      have dc_99 := i_ne c_99
                      refine wp_if (fun c_100 => ?_) (fun c_100 => ?_)
                      ·
                        have dc_100 := i_eq c_100
                        exact wp_so7 ⟨h_2, h_5, h_8, h_11, h_14, h_17⟩
                      ·
                        have dc_100 := i_ne c_100
                        refine wp_if (fun c_101 => ?_) (fun c_101 => ?_)
                        ·
                          have dc_101 := i_eq c_101
                          refine wp_if (fun c_102 => ?_) (fun c_102 => ?_)
                          ·
                            have dc_102 := i_eq c_102
                            refine wp_if (fun c_103 => ?_) (fun c_103 => ?_)
                            ·
                              have dc_103 := i_eq c_103
                              refine wp_if (fun c_104 => ?_) (fun c_104 => ?_)
                              ·
                                have dc_104 := i_lt c_104
                                exact wp_so7 ⟨h_2, h_5, h_8, h_11, h_14, h_17⟩
                              ·
                                have dc_104 := i_nlt c_104
                                refine wp_bd1 (sf_X6_hasPart hN h_3 h_4) (fun r_136 q_105 => ?_)
                                rcases q_105 with ⟨rfl, q_105⟩ | ⟨rfl, q_105⟩
                                ·
                                  refine wp_ifn (by decide) ?_
                                  refine wp_bd1 (sf_X6_hasPart hN h_6 h_7) (fun r_139 q_106 => ?_)
                                  rcases q_106 with ⟨rfl, q_106⟩ | ⟨rfl, q_106⟩
                                  ·
                                    refine wp_ifn (by decide) ?_
                                    have hc_107 : (mm_cok x2 x4 x5 v_shelves1_items.length v_shelves2_items.length) = true := i_cok (by omega) (by omega) (by omega) (by omega) (by omega)
                                    refine wp_ck hc_107 ?_
                                    refine wp_nm (fun l_143 h_l_143 => ?_)
                                    have nl_l_143 : l_143.length = 60 := by rw [h_l_143, cp_len hc_107]; assumption
                                    exact wp_so7 ⟨h_2, h_5, nl_l_143, h_11, h_14, h_17⟩
                                  ·
                                    refine wp_ifp (by decide) ?_
                                    exact wp_so7 ⟨h_2, h_5, h_8, h_11, h_14, h_17⟩
                                ·
                                  refine wp_ifp (by decide) ?_
                                  exact wp_so7 ⟨h_2, h_5, h_8, h_11, h_14, h_17⟩
                            ·
                              have dc_103 := i_ne c_103
                              exact wp_so7 ⟨h_2, h_5, h_8, h_11, h_14, h_17⟩
                          ·
                            have dc_102 := i_ne c_102
                            exact wp_so7 ⟨h_2, h_5, h_8, h_11, h_14, h_17⟩
                        ·
                          have dc_101 := i_ne c_101
                          exact wp_so7 ⟨h_2, h_5, h_8, h_11, h_14, h_17⟩
                  ·
                    have dc_97 := i_ne c_97
                    have n_109 : (3 : Int32).toInt = 3 := by decide
                    refine wp_if (fun c_108 => ?_) (fun c_108 => ?_)
                    ·
                      have dc_108 := i_eq c_108
                      refine wp_if (fun c_110 => ?_) (fun c_110 => ?_)
                      ·
                        have dc_110 := i_eq c_110
                        exact wp_so7 ⟨h_2, h_5, h_8, h_11, h_14, h_17⟩
                      ·
                        have dc_110 := i_ne c_110
                        refine wp_if (fun c_111 => ?_) (fun c_111 => ?_)
                        ·
                          have dc_111 := i_eq c_111
                          exact wp_so7 ⟨h_2, h_5, h_8, h_11, h_14, h_17⟩
                        ·
                          have dc_111 := i_ne c_111
                          refine wp_if (fun c_112 => ?_) (fun c_112 => ?_)
                          ·
                            have dc_112 := i_eq c_112
                            refine wp_if (fun c_113 => ?_) (fun c_113 => ?_)
                            ·
                              have dc_113 := i_eq c_113
                              refine wp_if (fun c_114 => ?_) (fun c_114 => ?_)
                              ·
                                have dc_114 := i_eq c_114
                                refine wp_if (fun c_115 => ?_) (fun c_115 => ?_)
                                ·
                                  have dc_115 := i_lt c_115
                                  exact wp_so7 ⟨h_2, h_5, h_8, h_11, h_14, h_17⟩
                                ·
                                  have dc_115 := i_nlt c_115
                                  refine wp_bd1 (sf_X6_hasPart hN h_3 h_4) (fun r_151 q_116 => ?_)
                                  rcases q_116 with ⟨rfl, q_116⟩ | ⟨rfl, q_116⟩
                                  ·
                                    refine wp_ifn (by decide) ?_
                                    refine wp_bd1 (sf_X6_hasPart hN h_9 h_10) (fun r_154 q_117 => ?_)
                                    rcases q_117 with ⟨rfl, q_117⟩ | ⟨rfl, q_117⟩
                                    ·
                                      refine wp_ifn (by decide) ?_
                                      have hc_118 : (mm_cok x2 x4 x5 v_shelves1_items.length v_shelves3_items.length) = true := i_cok (by omega) (by omega) (by omega) (by omega) (by omega)
                                      refine wp_ck hc_118 ?_
                                      refine wp_nm (fun l_158 h_l_158 => ?_)
                                      have nl_l_158 : l_158.length = 60 := by rw [h_l_158, cp_len hc_118]; assumption
                                      exact wp_so7 ⟨h_2, h_5, h_8, nl_l_158, h_14, h_17⟩
                                    ·
                                      refine wp_ifp (by decide) ?_
                                      exact wp_so7 ⟨h_2, h_5, h_8, h_11, h_14, h_17⟩
                                  ·
                                    refine wp_ifp (by decide) ?_
                                    exact wp_so7 ⟨h_2, h_5, h_8, h_11, h_14, h_17⟩
                              ·
                                have dc_114 := i_ne c_114
                                exact wp_so7 ⟨h_2, h_5, h_8, h_11, h_14, h_17⟩
                            ·
                              have dc_113 := i_ne c_113
                              exact wp_so7 ⟨h_2, h_5, h_8, h_11, h_14, h_17⟩
                          ·
                            have dc_112 := i_ne c_112
                            exact wp_so7 ⟨h_2, h_5, h_8, h_11, h_14, h_17⟩
                    ·
                      have dc_108 := i_ne c_108
                      have n_120 : (4 : Int32).toInt = 4 := by decide
                      refine wp_if (fun c_119 => ?_) (fun c_119 => ?_)
                      ·
                        have dc_119 := i_eq c_119
                        refine wp_if (fun c_121 => ?_) (fun c_121 => ?_)
                        ·
                          have dc_121 := i_eq c_121
                          exact wp_so7 ⟨h_2, h_5, h_8, h_11, h_14, h_17⟩
                        ·
                          have dc_121 := i_ne c_121
                          refine wp_if (fun c_122 => ?_) (fun c_122 => ?_)
                          ·
                            have dc_122 := i_eq c_122
                            exact wp_so7 ⟨h_2, h_5, h_8, h_11, h_14, h_17⟩
                          ·
                            have dc_122 := i_ne c_122
                            refine wp_if (fun c_123 => ?_) (fun c_123 => ?_)
                            ·
                              have dc_123 := i_eq c_123
                              refine wp_if (fun c_124 => ?_) (fun c_124 => ?_)
                              ·
                                have dc_124 := i_eq c_124
                                refine wp_if (fun c_125 => ?_) (fun c_125 => ?_)
                                ·
                                  have dc_125 := i_eq c_125
                                  refine wp_if (fun c_126 => ?_) (fun c_126 => ?_)
                                  ·
                                    have dc_126 := i_lt c_126
                                    exact wp_so7 ⟨h_2, h_5, h_8, h_11, h_14, h_17⟩
                                  ·
                                    have dc_126 := i_nlt c_126
                                    refine wp_bd1 (sf_X6_hasPart hN h_3 h_4) (fun r_166 q_127 => ?_)
                                    rcases q_127 with ⟨rfl, q_127⟩ | ⟨rfl, q_127⟩
                                    ·
                                      refine wp_ifn (by decide) ?_
                                      refine wp_bd1 (sf_X6_hasPart hN h_12 h_13) (fun r_169 q_128 => ?_)
                                      rcases q_128 with ⟨rfl, q_128⟩ | ⟨rfl, q_128⟩
                                      ·
                                        refine wp_ifn (by decide) ?_
                                        have hc_129 : (mm_cok x2 x4 x5 v_shelves1_items.length v_shelves4_items.length) = true := i_cok (by omega) (by omega) (by omega) (by omega) (by omega)
                                        refine wp_ck hc_129 ?_
                                        refine wp_nm (fun l_173 h_l_173 => ?_)
                                        have nl_l_173 : l_173.length = 60 := by rw [h_l_173, cp_len hc_129]; assumption
                                        exact wp_so7 ⟨h_2, h_5, h_8, h_11, nl_l_173, h_17⟩
                                      ·
                                        refine wp_ifp (by decide) ?_
                                        exact wp_so7 ⟨h_2, h_5, h_8, h_11, h_14, h_17⟩
                                    ·
                                      refine wp_ifp (by decide) ?_
                                      exact wp_so7 ⟨h_2, h_5, h_8, h_11, h_14, h_17⟩
                                ·
                                  have dc_125 := i_ne c_125
                                  exact wp_so7 ⟨h_2, h_5, h_8, h_11, h_14, h_17⟩
                              ·
                                have dc_124 := i_ne c_124
                                exact wp_so7 ⟨h_2, h_5, h_8, h_11, h_14, h_17⟩
                            ·
                              have dc_123 := i_ne c_123
                              exact wp_so7 ⟨h_2, h_5, h_8, h_11, h_14, h_17⟩
                      ·
                        have dc_119 := i_ne c_119
                        have n_131 : (5 : Int32).toInt = 5 := by decide
                        refine wp_if (fun c_130 => ?_) (fun c_130 => ?_)
                        ·
                          have dc_130 := i_eq c_130
                          refine wp_if (fun c_132 => ?_) (fun c_132 => ?_)
                          ·
                            have dc_132 := i_eq c_132
                            exact wp_so7 ⟨h_2, h_5, h_8, h_11, h_14, h_17⟩
                          ·
                            have dc_132 := i_ne c_132
                            refine wp_if (fun c_133 => ?_) (fun c_133 => ?_)
                            ·
                              have dc_133 := i_eq c_133
                              exact wp_so7 ⟨h_2, h_5, h_8, h_11, h_14, h_17⟩
                            ·
                              have dc_133 := i_ne c_133
                              refine wp_if (fun c_134 => ?_) (fun c_134 => ?_)
                              ·
                                have dc_134 := i_eq c_134
                                refine wp_if (fun c_135 => ?_) (fun c_135 => ?_)
                                ·
                                  have dc_135 := i_eq c_135
                                  refine wp_if (fun c_136 => ?_) (fun c_136 => ?_)
                                  ·
                                    have dc_136 := i_eq c_136
                                    refine wp_if (fun c_137 => ?_) (fun c_137 => ?_)
                                    ·
                                      have dc_137 := i_lt c_137
                                      exact wp_so7 ⟨h_2, h_5, h_8, h_11, h_14, h_17⟩
                                    ·
                                      have dc_137 := i_nlt c_137
                                      refine wp_bd1 (sf_X6_hasPart hN h_3 h_4) (fun r_181 q_138 => ?_)
                                      rcases q_138 with ⟨rfl, q_138⟩ | ⟨rfl, q_138⟩
                                      ·
                                        refine wp_ifn (by decide) ?_
                                        refine wp_bd1 (sf_X6_hasPart hN h_15 h_16) (fun r_184 q_139 => ?_)
                                        rcases q_139 with ⟨rfl, q_139⟩ | ⟨rfl, q_139⟩
                                        ·
                                          refine wp_ifn (by decide) ?_
                                          have hc_140 : (mm_cok x2 x4 x5 v_shelves1_items.length v_shelves5_items.length) = true := i_cok (by omega) (by omega) (by omega) (by omega) (by omega)
                                          refine wp_ck hc_140 ?_
                                          refine wp_nm (fun l_188 h_l_188 => ?_)
                                          have nl_l_188 : l_188.length = 60 := by rw [h_l_188, cp_len hc_140]; assumption
                                          exact wp_so7 ⟨h_2, h_5, h_8, h_11, h_14, nl_l_188⟩
                                        ·
                                          refine wp_ifp (by decide) ?_
                                          exact wp_so7 ⟨h_2, h_5, h_8, h_11, h_14, h_17⟩
                                      ·
                                        refine wp_ifp (by decide) ?_
                                        exact wp_so7 ⟨h_2, h_5, h_8, h_11, h_14, h_17⟩
                                  ·
                                    have dc_136 := i_ne c_136
                                    exact wp_so7 ⟨h_2, h_5, h_8, h_11, h_14, h_17⟩
                                ·
                                  have dc_135 := i_ne c_135
                                  exact wp_so7 ⟨h_2, h_5, h_8, h_11, h_14, h_17⟩
                              ·
                                have dc_134 := i_ne c_134
                                exact wp_so7 ⟨h_2, h_5, h_8, h_11, h_14, h_17⟩
                        ·
                          have dc_130 := i_ne c_130
                          exact (show False by omega).elim
            ·
              have dc_74 := i_ne c_74
              have n_142 : (2 : Int32).toInt = 2 := by decide
              refine wp_if (fun c_141 => ?_) (fun c_141 => ?_)
              ·
                have dc_141 := i_eq c_141
                refine wp_if (fun c_143 => ?_) (fun c_143 => ?_)
                ·
                  have dc_143 := i_eq c_143
                  refine wp_if (fun c_144 => ?_) (fun c_144 => ?_)
                  ·
                    have dc_144 := i_eq c_144
                    exact wp_so7 ⟨h_2, h_5, h_8, h_11, h_14, h_17⟩
                  ·
                    have dc_144 := i_ne c_144
                    refine wp_if (fun c_145 => ?_) (fun c_145 => ?_)
                    ·
                      have dc_145 := i_eq c_145
                      exact wp_so7 ⟨h_2, h_5, h_8, h_11, h_14, h_17⟩
                    ·
                      have dc_145 := i_ne c_145
                      refine wp_if (fun c_146 => ?_) (fun c_146 => ?_)
                      ·
                        have dc_146 := i_eq c_146
                        refine wp_if (fun c_147 => ?_) (fun c_147 => ?_)
                        ·
                          have dc_147 := i_eq c_147
                          refine wp_if (fun c_148 => ?_) (fun c_148 => ?_)
                          ·
                            have dc_148 := i_eq c_148
                            refine wp_if (fun c_149 => ?_) (fun c_149 => ?_)
                            ·
                              have dc_149 := i_lt c_149
                              exact wp_so7 ⟨h_2, h_5, h_8, h_11, h_14, h_17⟩
                            ·
                              have dc_149 := i_nlt c_149
                              refine wp_bd1 (sf_X6_hasPart hN h_6 h_7) (fun r_197 q_150 => ?_)
                              rcases q_150 with ⟨rfl, q_150⟩ | ⟨rfl, q_150⟩
                              ·
                                refine wp_ifn (by decide) ?_
                                refine wp_bd1 (sf_X6_hasPart hN h_0 h_1) (fun r_200 q_151 => ?_)
                                rcases q_151 with ⟨rfl, q_151⟩ | ⟨rfl, q_151⟩
                                ·
                                  refine wp_ifn (by decide) ?_
                                  have hc_152 : (mm_cok x2 x4 x5 v_shelves2_items.length v_shelves0_items.length) = true := i_cok (by omega) (by omega) (by omega) (by omega) (by omega)
                                  refine wp_ck hc_152 ?_
                                  refine wp_nm (fun l_204 h_l_204 => ?_)
                                  have nl_l_204 : l_204.length = 60 := by rw [h_l_204, cp_len hc_152]; assumption
                                  exact wp_so7 ⟨nl_l_204, h_5, h_8, h_11, h_14, h_17⟩
                                ·
                                  refine wp_ifp (by decide) ?_
                                  exact wp_so7 ⟨h_2, h_5, h_8, h_11, h_14, h_17⟩
                              ·
                                refine wp_ifp (by decide) ?_
                                exact wp_so7 ⟨h_2, h_5, h_8, h_11, h_14, h_17⟩
                          ·
                            have dc_148 := i_ne c_148
                            exact wp_so7 ⟨h_2, h_5, h_8, h_11, h_14, h_17⟩
                        ·
                          have dc_147 := i_ne c_147
                          exact wp_so7 ⟨h_2, h_5, h_8, h_11, h_14, h_17⟩
                      ·
                        have dc_146 := i_ne c_146
                        exact wp_so7 ⟨h_2, h_5, h_8, h_11, h_14, h_17⟩
                ·
                  have dc_143 := i_ne c_143
                  refine wp_if (fun c_153 => ?_) (fun c_153 => ?_)
                  ·
                    have dc_153 := i_eq c_153
                    refine wp_if (fun c_154 => ?_) (fun c_154 => ?_)
                    ·
                      have dc_154 := i_eq c_154
                      exact wp_so7 ⟨h_2, h_5, h_8, h_11, h_14, h_17⟩
                    ·
                      have dc_154 := i_ne c_154
                      refine wp_if (fun c_155 => ?_) (fun c_155 => ?_)
                      ·
                        have dc_155 := i_eq c_155
                        exact wp_so7 ⟨h_2, h_5, h_8, h_11, h_14, h_17⟩
                      ·
                        have dc_155 := i_ne c_155
                        refine wp_if (fun c_156 => ?_) (fun c_156 => ?_)
                        ·
                          have dc_156 := i_eq c_156
                          refine wp_if (fun c_157 => ?_) (fun c_157 => ?_)
                          ·
                            have dc_157 := i_eq c_157
                            refine wp_if (fun c_158 => ?_) (fun c_158 => ?_)
                            ·
                              have dc_158 := i_eq c_158
                              refine wp_if (fun c_159 => ?_) (fun c_159 => ?_)
                              ·
                                have dc_159 := i_lt c_159
                                exact wp_so7 ⟨h_2, h_5, h_8, h_11, h_14, h_17⟩
                              ·
                                have dc_159 := i_nlt c_159
                                refine wp_bd1 (sf_X6_hasPart hN h_6 h_7) (fun r_212 q_160 => ?_)
                                rcases q_160 with ⟨rfl, q_160⟩ | ⟨rfl, q_160⟩
                                ·
                                  refine wp_ifn (by decide) ?_
                                  refine wp_bd1 (sf_X6_hasPart hN h_3 h_4) (fun r_215 q_161 => ?_)
                                  rcases q_161 with ⟨rfl, q_161⟩ | ⟨rfl, q_161⟩
                                  ·
                                    refine wp_ifn (by decide) ?_
                                    have hc_162 : (mm_cok x2 x4 x5 v_shelves2_items.length v_shelves1_items.length) = true := i_cok (by omega) (by omega) (by omega) (by omega) (by omega)
                                    refine wp_ck hc_162 ?_
                                    refine wp_nm (fun l_219 h_l_219 => ?_)
                                    have nl_l_219 : l_219.length = 60 := by rw [h_l_219, cp_len hc_162]; assumption
                                    exact wp_so7 ⟨h_2, nl_l_219, h_8, h_11, h_14, h_17⟩
                                  ·
                                    refine wp_ifp (by decide) ?_
                                    exact wp_so7 ⟨h_2, h_5, h_8, h_11, h_14, h_17⟩
                                ·
                                  refine wp_ifp (by decide) ?_
                                  exact wp_so7 ⟨h_2, h_5, h_8, h_11, h_14, h_17⟩
                            ·
                              have dc_158 := i_ne c_158
                              exact wp_so7 ⟨h_2, h_5, h_8, h_11, h_14, h_17⟩
                          ·
                            have dc_157 := i_ne c_157
                            exact wp_so7 ⟨h_2, h_5, h_8, h_11, h_14, h_17⟩
                        ·
                          have dc_156 := i_ne c_156
                          exact wp_so7 ⟨h_2, h_5, h_8, h_11, h_14, h_17⟩
                  ·
                    have dc_153 := i_ne c_153
                    refine wp_if (fun c_163 => ?_) (fun c_163 => ?_)
                    ·
                      have dc_163 := i_eq c_163
                      refine wp_if (fun c_164 => ?_) (fun c_164 => ?_)
                      ·
                        have dc_164 := i_eq c_164
                        exact wp_so7 ⟨h_2, h_5, h_8, h_11, h_14, h_17⟩
                      ·
                        have dc_164 := i_ne c_164
                        refine wp_ifn c_164 ?_
                        refine wp_if (fun c_166 => ?_) (fun c_166 => ?_)
                        ·
                          have dc_166 := i_eq c_166
                          refine wp_ifp c_166 ?_
                          refine wp_if (fun c_167 => ?_) (fun c_167 => ?_)
                          ·
                            have dc_167 := i_eq c_167
                            refine wp_if (fun c_168 => ?_) (fun c_168 => ?_)
                            ·
                              have dc_168 := i_lt c_168
                              exact wp_so7 ⟨h_2, h_5, h_8, h_11, h_14, h_17⟩
                            ·
                              have dc_168 := i_nlt c_168
                              refine wp_bd1 (sf_X6_hasPart hN h_6 h_7) (fun r_227 q_169 => ?_)
                              rcases q_169 with ⟨rfl, q_169⟩ | ⟨rfl, q_169⟩
                              ·
                                refine wp_ifn (by decide) ?_
                                refine wp_bd1 (sf_X6_hasPart hN h_6 h_7) (fun r_230 q_170 => ?_)
                                rcases q_170 with ⟨rfl, q_170⟩ | ⟨rfl, q_170⟩
                                ·
                                  refine wp_ifn (by decide) ?_
                                  have hc_171 : (mm_cok x2 x4 x5 v_shelves2_items.length v_shelves2_items.length) = true := i_cok (by omega) (by omega) (by omega) (by omega) (by omega)
                                  refine wp_ck hc_171 ?_
                                  refine wp_nm (fun l_234 h_l_234 => ?_)
                                  have nl_l_234 : l_234.length = 60 := by rw [h_l_234, cp_len hc_171]; assumption
                                  exact wp_so7 ⟨h_2, h_5, nl_l_234, h_11, h_14, h_17⟩
                                ·
                                  refine wp_ifp (by decide) ?_
                                  exact wp_so7 ⟨h_2, h_5, h_8, h_11, h_14, h_17⟩
                              ·
                                refine wp_ifp (by decide) ?_
                                exact wp_so7 ⟨h_2, h_5, h_8, h_11, h_14, h_17⟩
                          ·
                            have dc_167 := i_ne c_167
                            exact wp_so7 ⟨h_2, h_5, h_8, h_11, h_14, h_17⟩
                        ·
                          have dc_166 := i_ne c_166
                          exact wp_so7 ⟨h_2, h_5, h_8, h_11, h_14, h_17⟩
                    ·
                      have dc_163 := i_ne c_163
                      have n_173 : (3 : Int32).toInt = 3 := by decide
                      refine wp_if (fun c_172 => ?_) (fun c_172 => ?_)
                      ·
                        have dc_172 := i_eq c_172
                        refine wp_if (fun c_174 => ?_) (fun c_174 => ?_)
                        ·
                          have dc_174 := i_eq c_174
                          exact wp_so7 ⟨h_2, h_5, h_8, h_11, h_14, h_17⟩
                        ·
                          have dc_174 := i_ne c_174
                          refine wp_if (fun c_175 => ?_) (fun c_175 => ?_)
                          ·
                            have dc_175 := i_eq c_175
                            exact wp_so7 ⟨h_2, h_5, h_8, h_11, h_14, h_17⟩
                          ·
                            have dc_175 := i_ne c_175
                            refine wp_if (fun c_176 => ?_) (fun c_176 => ?_)
                            ·
                              have dc_176 := i_eq c_176
                              refine wp_if (fun c_177 => ?_) (fun c_177 => ?_)
                              ·
                                have dc_177 := i_eq c_177
                                refine wp_if (fun c_178 => ?_) (fun c_178 => ?_)
                                ·
                                  have dc_178 := i_eq c_178
                                  refine wp_if (fun c_179 => ?_) (fun c_179 => ?_)
                                  ·
                                    have dc_179 := i_lt c_179
                                    exact wp_so7 ⟨h_2, h_5, h_8, h_11, h_14, h_17⟩
                                  ·
                                    have dc_179 := i_nlt c_179
                                    refine wp_bd1 (sf_X6_hasPart hN h_6 h_7) (fun r_242 q_180 => ?_)
                                    rcases q_180 with ⟨rfl, q_180⟩ | ⟨rfl, q_180⟩
                                    ·
                                      refine wp_ifn (by decide) ?_
                                      refine wp_bd1 (sf_X6_hasPart hN h_9 h_10) (fun r_245 q_181 => ?_)
                                      rcases q_181 with ⟨rfl, q_181⟩ | ⟨rfl, q_181⟩
                                      ·
                                        refine wp_ifn (by decide) ?_
                                        have hc_182 : (mm_cok x2 x4 x5 v_shelves2_items.length v_shelves3_items.length) = true := i_cok (by omega) (by omega) (by omega) (by omega) (by omega)
                                        refine wp_ck hc_182 ?_
                                        refine wp_nm (fun l_249 h_l_249 => ?_)
                                        have nl_l_249 : l_249.length = 60 := by rw [h_l_249, cp_len hc_182]; assumption
                                        exact wp_so7 ⟨h_2, h_5, h_8, nl_l_249, h_14, h_17⟩
                                      ·
                                        refine wp_ifp (by decide) ?_
                                        exact wp_so7 ⟨h_2, h_5, h_8, h_11, h_14, h_17⟩
                                    ·
                                      refine wp_ifp (by decide) ?_
                                      exact wp_so7 ⟨h_2, h_5, h_8, h_11, h_14, h_17⟩
                                ·
                                  have dc_178 := i_ne c_178
                                  exact wp_so7 ⟨h_2, h_5, h_8, h_11, h_14, h_17⟩
                              ·
                                have dc_177 := i_ne c_177
                                exact wp_so7 ⟨h_2, h_5, h_8, h_11, h_14, h_17⟩
                            ·
                              have dc_176 := i_ne c_176
                              exact wp_so7 ⟨h_2, h_5, h_8, h_11, h_14, h_17⟩
                      ·
                        have dc_172 := i_ne c_172
                        have n_184 : (4 : Int32).toInt = 4 := by decide
                        refine wp_if (fun c_183 => ?_) (fun c_183 => ?_)
                        ·
                          have dc_183 := i_eq c_183
                          refine wp_if (fun c_185 => ?_) (fun c_185 => ?_)
                          ·
                            have dc_185 := i_eq c_185
                            exact wp_so7 ⟨h_2, h_5, h_8, h_11, h_14, h_17⟩
                          ·
                            have dc_185 := i_ne c_185
                            refine wp_if (fun c_186 => ?_) (fun c_186 => ?_)
                            ·
                              have dc_186 := i_eq c_186
                              exact wp_so7 ⟨h_2, h_5, h_8, h_11, h_14, h_17⟩
                            ·
                              have dc_186 := i_ne c_186
                              refine wp_if (fun c_187 => ?_) (fun c_187 => ?_)
                              ·
                                have dc_187 := i_eq c_187
                                refine wp_if (fun c_188 => ?_) (fun c_188 => ?_)
                                ·
                                  have dc_188 := i_eq c_188
                                  refine wp_if (fun c_189 => ?_) (fun c_189 => ?_)
                                  ·
                                    have dc_189 := i_eq c_189
                                    refine wp_if (fun c_190 => ?_) (fun c_190 => ?_)
                                    ·
                                      have dc_190 := i_lt c_190
                                      exact wp_so7 ⟨h_2, h_5, h_8, h_11, h_14, h_17⟩
                                    ·
                                      have dc_190 := i_nlt c_190
                                      refine wp_bd1 (sf_X6_hasPart hN h_6 h_7) (fun r_257 q_191 => ?_)
                                      rcases q_191 with ⟨rfl, q_191⟩ | ⟨rfl, q_191⟩
                                      ·
                                        refine wp_ifn (by decide) ?_
                                        refine wp_bd1 (sf_X6_hasPart hN h_12 h_13) (fun r_260 q_192 => ?_)
                                        rcases q_192 with ⟨rfl, q_192⟩ | ⟨rfl, q_192⟩
                                        ·
                                          refine wp_ifn (by decide) ?_
                                          have hc_193 : (mm_cok x2 x4 x5 v_shelves2_items.length v_shelves4_items.length) = true := i_cok (by omega) (by omega) (by omega) (by omega) (by omega)
                                          refine wp_ck hc_193 ?_
                                          refine wp_nm (fun l_264 h_l_264 => ?_)
                                          have nl_l_264 : l_264.length = 60 := by rw [h_l_264, cp_len hc_193]; assumption
                                          exact wp_so7 ⟨h_2, h_5, h_8, h_11, nl_l_264, h_17⟩
                                        ·
                                          refine wp_ifp (by decide) ?_
                                          exact wp_so7 ⟨h_2, h_5, h_8, h_11, h_14, h_17⟩
                                      ·
                                        refine wp_ifp (by decide) ?_
                                        exact wp_so7 ⟨h_2, h_5, h_8, h_11, h_14, h_17⟩
                                  ·
                                    have dc_189 := i_ne c_189
                                    exact wp_so7 ⟨h_2, h_5, h_8, h_11, h_14, h_17⟩
                                ·
                                  have dc_188 := i_ne c_188
                                  exact wp_so7 ⟨h_2, h_5, h_8, h_11, h_14, h_17⟩
                              ·
                                have dc_187 := i_ne c_187
                                exact wp_so7 ⟨h_2, h_5, h_8, h_11, h_14, h_17⟩
                        ·
                          have dc_183 := i_ne c_183
                          have n_195 : (5 : Int32).toInt = 5 := by decide
                          refine wp_if (fun c_194 => ?_) (fun c_194 => ?_)
                          ·
                            have dc_194 := i_eq c_194
                            refine wp_if (fun c_196 => ?_) (fun c_196 => ?_)
                            ·
                              have dc_196 := i_eq c_196
                              exact wp_so7 ⟨h_2, h_5, h_8, h_11, h_14, h_17⟩
                            ·
                              have dc_196 := i_ne c_196
                              refine wp_if (fun c_197 => ?_) (fun c_197 => ?_)
                              ·
                                have dc_197 := i_eq c_197
                                exact wp_so7 ⟨h_2, h_5, h_8, h_11, h_14, h_17⟩
                              ·
                                have dc_197 := i_ne c_197
                                refine wp_if (fun c_198 => ?_) (fun c_198 => ?_)
                                ·
                                  have dc_198 := i_eq c_198
                                  refine wp_if (fun c_199 => ?_) (fun c_199 => ?_)
                                  ·
                                    have dc_199 := i_eq c_199
                                    refine wp_if (fun c_200 => ?_) (fun c_200 => ?_)
                                    ·
                                      have dc_200 := i_eq c_200
                                      refine wp_if (fun c_201 => ?_) (fun c_201 => ?_)
                                      ·
                                        have dc_201 := i_lt c_201
                                        exact wp_so7 ⟨h_2, h_5, h_8, h_11, h_14, h_17⟩
                                      ·
                                        have dc_201 := i_nlt c_201
                                        refine wp_bd1 (sf_X6_hasPart hN h_6 h_7) (fun r_272 q_202 => ?_)
                                        rcases q_202 with ⟨rfl, q_202⟩ | ⟨rfl, q_202⟩
                                        ·
                                          refine wp_ifn (by decide) ?_
                                          refine wp_bd1 (sf_X6_hasPart hN h_15 h_16) (fun r_275 q_203 => ?_)
                                          rcases q_203 with ⟨rfl, q_203⟩ | ⟨rfl, q_203⟩
                                          ·
                                            refine wp_ifn (by decide) ?_
                                            have hc_204 : (mm_cok x2 x4 x5 v_shelves2_items.length v_shelves5_items.length) = true := i_cok (by omega) (by omega) (by omega) (by omega) (by omega)
                                            refine wp_ck hc_204 ?_
                                            refine wp_nm (fun l_279 h_l_279 => ?_)
                                            have nl_l_279 : l_279.length = 60 := by rw [h_l_279, cp_len hc_204]; assumption
                                            exact wp_so7 ⟨h_2, h_5, h_8, h_11, h_14, nl_l_279⟩
                                          ·
                                            refine wp_ifp (by decide) ?_
                                            exact wp_so7 ⟨h_2, h_5, h_8, h_11, h_14, h_17⟩
                                        ·
                                          refine wp_ifp (by decide) ?_
                                          exact wp_so7 ⟨h_2, h_5, h_8, h_11, h_14, h_17⟩
                                    ·
                                      have dc_200 := i_ne c_200
                                      exact wp_so7 ⟨h_2, h_5, h_8, h_11, h_14, h_17⟩
                                  ·
                                    have dc_199 := i_ne c_199
                                    exact wp_so7 ⟨h_2, h_5, h_8, h_11, h_14, h_17⟩
                                ·
                                  have dc_198 := i_ne c_198
                                  exact wp_so7 ⟨h_2, h_5, h_8, h_11, h_14, h_17⟩
                          ·
                            have dc_194 := i_ne c_194
                            exact (show False by omega).elim
              ·
                have dc_141 := i_ne c_141
                have n_206 : (3 : Int32).toInt = 3 := by decide
                refine wp_if (fun c_205 => ?_) (fun c_205 => ?_)
                ·
                  have dc_205 := i_eq c_205
                  refine wp_if (fun c_207 => ?_) (fun c_207 => ?_)
                  ·
                    have dc_207 := i_eq c_207
                    refine wp_if (fun c_208 => ?_) (fun c_208 => ?_)
                    ·
                      have dc_208 := i_eq c_208
                      exact wp_so7 ⟨h_2, h_5, h_8, h_11, h_14, h_17⟩
                    ·
                      have dc_208 := i_ne c_208
                      refine wp_if (fun c_209 => ?_) (fun c_209 => ?_)
                      ·
                        have dc_209 := i_eq c_209
                        exact wp_so7 ⟨h_2, h_5, h_8, h_11, h_14, h_17⟩
                      ·
                        have dc_209 := i_ne c_209
                        refine wp_if (fun c_210 => ?_) (fun c_210 => ?_)
                        ·
                          have dc_210 := i_eq c_210
                          refine wp_if (fun c_211 => ?_) (fun c_211 => ?_)
                          ·
                            have dc_211 := i_eq c_211
                            refine wp_if (fun c_212 => ?_) (fun c_212 => ?_)
                            ·
                              have dc_212 := i_eq c_212
                              refine wp_if (fun c_213 => ?_) (fun c_213 => ?_)
                              ·
                                have dc_213 := i_lt c_213
                                exact wp_so7 ⟨h_2, h_5, h_8, h_11, h_14, h_17⟩
                              ·
                                have dc_213 := i_nlt c_213
                                refine wp_bd1 (sf_X6_hasPart hN h_9 h_10) (fun r_288 q_214 => ?_)
                                rcases q_214 with ⟨rfl, q_214⟩ | ⟨rfl, q_214⟩
                                ·
                                  refine wp_ifn (by decide) ?_
                                  refine wp_bd1 (sf_X6_hasPart hN h_0 h_1) (fun r_291 q_215 => ?_)
                                  rcases q_215 with ⟨rfl, q_215⟩ | ⟨rfl, q_215⟩
                                  ·
                                    refine wp_ifn (by decide) ?_
                                    have hc_216 : (mm_cok x2 x4 x5 v_shelves3_items.length v_shelves0_items.length) = true := i_cok (by omega) (by omega) (by omega) (by omega) (by omega)
                                    refine wp_ck hc_216 ?_
                                    refine wp_nm (fun l_295 h_l_295 => ?_)
                                    have nl_l_295 : l_295.length = 60 := by rw [h_l_295, cp_len hc_216]; assumption
                                    exact wp_so7 ⟨nl_l_295, h_5, h_8, h_11, h_14, h_17⟩
                                  ·
                                    refine wp_ifp (by decide) ?_
                                    exact wp_so7 ⟨h_2, h_5, h_8, h_11, h_14, h_17⟩
                                ·
                                  refine wp_ifp (by decide) ?_
                                  exact wp_so7 ⟨h_2, h_5, h_8, h_11, h_14, h_17⟩
                            ·
                              have dc_212 := i_ne c_212
                              exact wp_so7 ⟨h_2, h_5, h_8, h_11, h_14, h_17⟩
                          ·
                            have dc_211 := i_ne c_211
                            exact wp_so7 ⟨h_2, h_5, h_8, h_11, h_14, h_17⟩
                        ·
                          have dc_210 := i_ne c_210
                          exact wp_so7 ⟨h_2, h_5, h_8, h_11, h_14, h_17⟩
                  ·
                    have dc_207 := i_ne c_207
                    refine wp_if (fun c_217 => ?_) (fun c_217 => ?_)
                    ·
                      have dc_217 := i_eq c_217
                      refine wp_if (fun c_218 => ?_) (fun c_218 => ?_)
                      ·
                        have dc_218 := i_eq c_218
                        exact wp_so7 ⟨h_2, h_5, h_8, h_11, h_14, h_17⟩
                      ·
                        have dc_218 := i_ne c_218
                        refine wp_if (fun c_219 => ?_) (fun c_219 => ?_)
                        ·
                          have dc_219 := i_eq c_219
                          exact wp_so7 ⟨h_2, h_5, h_8, h_11, h_14, h_17⟩
                        ·
                          have dc_219 := i_ne c_219
                          refine wp_if (fun c_220 => ?_) (fun c_220 => ?_)
                          ·
                            have dc_220 := i_eq c_220
                            refine wp_if (fun c_221 => ?_) (fun c_221 => ?_)
                            ·
                              have dc_221 := i_eq c_221
                              refine wp_if (fun c_222 => ?_) (fun c_222 => ?_)
                              ·
                                have dc_222 := i_eq c_222
                                refine wp_if (fun c_223 => ?_) (fun c_223 => ?_)
                                ·
                                  have dc_223 := i_lt c_223
                                  exact wp_so7 ⟨h_2, h_5, h_8, h_11, h_14, h_17⟩
                                ·
                                  have dc_223 := i_nlt c_223
                                  refine wp_bd1 (sf_X6_hasPart hN h_9 h_10) (fun r_303 q_224 => ?_)
                                  rcases q_224 with ⟨rfl, q_224⟩ | ⟨rfl, q_224⟩
                                  ·
                                    refine wp_ifn (by decide) ?_
                                    refine wp_bd1 (sf_X6_hasPart hN h_3 h_4) (fun r_306 q_225 => ?_)
                                    rcases q_225 with ⟨rfl, q_225⟩ | ⟨rfl, q_225⟩
                                    ·
                                      refine wp_ifn (by decide) ?_
                                      have hc_226 : (mm_cok x2 x4 x5 v_shelves3_items.length v_shelves1_items.length) = true := i_cok (by omega) (by omega) (by omega) (by omega) (by omega)
                                      refine wp_ck hc_226 ?_
                                      refine wp_nm (fun l_310 h_l_310 => ?_)
                                      have nl_l_310 : l_310.length = 60 := by rw [h_l_310, cp_len hc_226]; assumption
                                      exact wp_so7 ⟨h_2, nl_l_310, h_8, h_11, h_14, h_17⟩
                                    ·
                                      refine wp_ifp (by decide) ?_
                                      exact wp_so7 ⟨h_2, h_5, h_8, h_11, h_14, h_17⟩
                                  ·
                                    refine wp_ifp (by decide) ?_
                                    exact wp_so7 ⟨h_2, h_5, h_8, h_11, h_14, h_17⟩
                              ·
                                have dc_222 := i_ne c_222
                                exact wp_so7 ⟨h_2, h_5, h_8, h_11, h_14, h_17⟩
                            ·
                              have dc_221 := i_ne c_221
                              exact wp_so7 ⟨h_2, h_5, h_8, h_11, h_14, h_17⟩
                          ·
                            have dc_220 := i_ne c_220
                            exact wp_so7 ⟨h_2, h_5, h_8, h_11, h_14, h_17⟩
                    ·
                      have dc_217 := i_ne c_217
                      refine wp_if (fun c_227 => ?_) (fun c_227 => ?_)
                      ·
                        have dc_227 := i_eq c_227
                        refine wp_if (fun c_228 => ?_) (fun c_228 => ?_)
                        ·
                          have dc_228 := i_eq c_228
                          exact wp_so7 ⟨h_2, h_5, h_8, h_11, h_14, h_17⟩
                        ·
                          have dc_228 := i_ne c_228
                          refine wp_if (fun c_229 => ?_) (fun c_229 => ?_)
                          ·
                            have dc_229 := i_eq c_229
                            exact wp_so7 ⟨h_2, h_5, h_8, h_11, h_14, h_17⟩
                          ·
                            have dc_229 := i_ne c_229
                            refine wp_if (fun c_230 => ?_) (fun c_230 => ?_)
                            ·
                              have dc_230 := i_eq c_230
                              refine wp_if (fun c_231 => ?_) (fun c_231 => ?_)
                              ·
                                have dc_231 := i_eq c_231
                                refine wp_if (fun c_232 => ?_) (fun c_232 => ?_)
                                ·
                                  have dc_232 := i_eq c_232
                                  refine wp_if (fun c_233 => ?_) (fun c_233 => ?_)
                                  ·
                                    have dc_233 := i_lt c_233
                                    exact wp_so7 ⟨h_2, h_5, h_8, h_11, h_14, h_17⟩
                                  ·
                                    have dc_233 := i_nlt c_233
                                    refine wp_bd1 (sf_X6_hasPart hN h_9 h_10) (fun r_318 q_234 => ?_)
                                    rcases q_234 with ⟨rfl, q_234⟩ | ⟨rfl, q_234⟩
                                    ·
                                      refine wp_ifn (by decide) ?_
                                      refine wp_bd1 (sf_X6_hasPart hN h_6 h_7) (fun r_321 q_235 => ?_)
                                      rcases q_235 with ⟨rfl, q_235⟩ | ⟨rfl, q_235⟩
                                      ·
                                        refine wp_ifn (by decide) ?_
                                        have hc_236 : (mm_cok x2 x4 x5 v_shelves3_items.length v_shelves2_items.length) = true := i_cok (by omega) (by omega) (by omega) (by omega) (by omega)
                                        refine wp_ck hc_236 ?_
                                        refine wp_nm (fun l_325 h_l_325 => ?_)
                                        have nl_l_325 : l_325.length = 60 := by rw [h_l_325, cp_len hc_236]; assumption
                                        exact wp_so7 ⟨h_2, h_5, nl_l_325, h_11, h_14, h_17⟩
                                      ·
                                        refine wp_ifp (by decide) ?_
                                        exact wp_so7 ⟨h_2, h_5, h_8, h_11, h_14, h_17⟩
                                    ·
                                      refine wp_ifp (by decide) ?_
                                      exact wp_so7 ⟨h_2, h_5, h_8, h_11, h_14, h_17⟩
                                ·
                                  have dc_232 := i_ne c_232
                                  exact wp_so7 ⟨h_2, h_5, h_8, h_11, h_14, h_17⟩
                              ·
                                have dc_231 := i_ne c_231
                                exact wp_so7 ⟨h_2, h_5, h_8, h_11, h_14, h_17⟩
                            ·
                              have dc_230 := i_ne c_230
                              exact wp_so7 ⟨h_2, h_5, h_8, h_11, h_14, h_17⟩
                      ·
                        have dc_227 := i_ne c_227
                        refine wp_if (fun c_237 => ?_) (fun c_237 => ?_)
                        ·
                          have dc_237 := i_eq c_237
                          refine wp_if (fun c_238 => ?_) (fun c_238 => ?_)
                          ·
                            have dc_238 := i_eq c_238
                            exact wp_so7 ⟨h_2, h_5, h_8, h_11, h_14, h_17⟩
                          ·
                            have dc_238 := i_ne c_238
                            refine wp_ifn c_238 ?_
                            refine wp_if (fun c_240 => ?_) (fun c_240 => ?_)
                            ·
                              have dc_240 := i_eq c_240
                              refine wp_ifp c_240 ?_
                              refine wp_if (fun c_241 => ?_) (fun c_241 => ?_)
                              ·
                                have dc_241 := i_eq c_241
                                refine wp_if (fun c_242 => ?_) (fun c_242 => ?_)
                                ·
                                  have dc_242 := i_lt c_242
                                  exact wp_so7 ⟨h_2, h_5, h_8, h_11, h_14, h_17⟩
                                ·
                                  have dc_242 := i_nlt c_242
                                  refine wp_bd1 (sf_X6_hasPart hN h_9 h_10) (fun r_333 q_243 => ?_)
                                  rcases q_243 with ⟨rfl, q_243⟩ | ⟨rfl, q_243⟩
                                  ·
                                    refine wp_ifn (by decide) ?_
                                    refine wp_bd1 (sf_X6_hasPart hN h_9 h_10) (fun r_336 q_244 => ?_)
                                    rcases q_244 with ⟨rfl, q_244⟩ | ⟨rfl, q_244⟩
                                    ·
                                      refine wp_ifn (by decide) ?_
                                      have hc_245 : (mm_cok x2 x4 x5 v_shelves3_items.length v_shelves3_items.length) = true := i_cok (by omega) (by omega) (by omega) (by omega) (by omega)
                                      refine wp_ck hc_245 ?_
                                      refine wp_nm (fun l_340 h_l_340 => ?_)
                                      have nl_l_340 : l_340.length = 60 := by rw [h_l_340, cp_len hc_245]; assumption
                                      exact wp_so7 ⟨h_2, h_5, h_8, nl_l_340, h_14, h_17⟩
                                    ·
                                      refine wp_ifp (by decide) ?_
                                      exact wp_so7 ⟨h_2, h_5, h_8, h_11, h_14, h_17⟩
                                  ·
                                    refine wp_ifp (by decide) ?_
                                    exact wp_so7 ⟨h_2, h_5, h_8, h_11, h_14, h_17⟩
                              ·
                                have dc_241 := i_ne c_241
                                exact wp_so7 ⟨h_2, h_5, h_8, h_11, h_14, h_17⟩
                            ·
                              have dc_240 := i_ne c_240
                              exact wp_so7 ⟨h_2, h_5, h_8, h_11, h_14, h_17⟩
                        ·
                          have dc_237 := i_ne c_237
                          have n_247 : (4 : Int32).toInt = 4 := by decide
                          refine wp_if (fun c_246 => ?_) (fun c_246 => ?_)
                          ·
                            have dc_246 := i_eq c_246
                            refine wp_if (fun c_248 => ?_) (fun c_248 => ?_)
                            ·
                              have dc_248 := i_eq c_248
                              exact wp_so7 ⟨h_2, h_5, h_8, h_11, h_14, h_17⟩
                            ·
                              have dc_248 := i_ne c_248
                              refine wp_if (fun c_249 => ?_) (fun c_249 => ?_)
                              ·
                                have dc_249 := i_eq c_249
                                exact wp_so7 ⟨h_2, h_5, h_8, h_11, h_14, h_17⟩
                              ·
                                have dc_249 := i_ne c_249
                                refine wp_if (fun c_250 => ?_) (fun c_250 => ?_)
                                ·
                                  have dc_250 := i_eq c_250
                                  refine wp_if (fun c_251 => ?_) (fun c_251 => ?_)
                                  ·
                                    have dc_251 := i_eq c_251
                                    refine wp_if (fun c_252 => ?_) (fun c_252 => ?_)
                                    ·
                                      have dc_252 := i_eq c_252
                                      refine wp_if (fun c_253 => ?_) (fun c_253 => ?_)
                                      ·
                                        have dc_253 := i_lt c_253
                                        exact wp_so7 ⟨h_2, h_5, h_8, h_11, h_14, h_17⟩
                                      ·
                                        have dc_253 := i_nlt c_253
                                        refine wp_bd1 (sf_X6_hasPart hN h_9 h_10) (fun r_348 q_254 => ?_)
                                        rcases q_254 with ⟨rfl, q_254⟩ | ⟨rfl, q_254⟩
                                        ·
                                          refine wp_ifn (by decide) ?_
                                          refine wp_bd1 (sf_X6_hasPart hN h_12 h_13) (fun r_351 q_255 => ?_)
                                          rcases q_255 with ⟨rfl, q_255⟩ | ⟨rfl, q_255⟩
                                          ·
                                            refine wp_ifn (by decide) ?_
                                            have hc_256 : (mm_cok x2 x4 x5 v_shelves3_items.length v_shelves4_items.length) = true := i_cok (by omega) (by omega) (by omega) (by omega) (by omega)
                                            refine wp_ck hc_256 ?_
                                            refine wp_nm (fun l_355 h_l_355 => ?_)
                                            have nl_l_355 : l_355.length = 60 := by rw [h_l_355, cp_len hc_256]; assumption
                                            exact wp_so7 ⟨h_2, h_5, h_8, h_11, nl_l_355, h_17⟩
                                          ·
                                            refine wp_ifp (by decide) ?_
                                            exact wp_so7 ⟨h_2, h_5, h_8, h_11, h_14, h_17⟩
                                        ·
                                          refine wp_ifp (by decide) ?_
                                          exact wp_so7 ⟨h_2, h_5, h_8, h_11, h_14, h_17⟩
                                    ·
                                      have dc_252 := i_ne c_252
                                      exact wp_so7 ⟨h_2, h_5, h_8, h_11, h_14, h_17⟩
                                  ·
                                    have dc_251 := i_ne c_251
                                    exact wp_so7 ⟨h_2, h_5, h_8, h_11, h_14, h_17⟩
                                ·
                                  have dc_250 := i_ne c_250
                                  exact wp_so7 ⟨h_2, h_5, h_8, h_11, h_14, h_17⟩
                          ·
                            have dc_246 := i_ne c_246
                            have n_258 : (5 : Int32).toInt = 5 := by decide
                            refine wp_if (fun c_257 => ?_) (fun c_257 => ?_)
                            ·
                              have dc_257 := i_eq c_257
                              refine wp_if (fun c_259 => ?_) (fun c_259 => ?_)
                              ·
                                have dc_259 := i_eq c_259
                                exact wp_so7 ⟨h_2, h_5, h_8, h_11, h_14, h_17⟩
                              ·
                                have dc_259 := i_ne c_259
                                refine wp_if (fun c_260 => ?_) (fun c_260 => ?_)
                                ·
                                  have dc_260 := i_eq c_260
                                  exact wp_so7 ⟨h_2, h_5, h_8, h_11, h_14, h_17⟩
                                ·
                                  have dc_260 := i_ne c_260
                                  refine wp_if (fun c_261 => ?_) (fun c_261 => ?_)
                                  ·
                                    have dc_261 := i_eq c_261
                                    refine wp_if (fun c_262 => ?_) (fun c_262 => ?_)
                                    ·
                                      have dc_262 := i_eq c_262
                                      refine wp_if (fun c_263 => ?_) (fun c_263 => ?_)
                                      ·
                                        have dc_263 := i_eq c_263
                                        refine wp_if (fun c_264 => ?_) (fun c_264 => ?_)
                                        ·
                                          have dc_264 := i_lt c_264
                                          exact wp_so7 ⟨h_2, h_5, h_8, h_11, h_14, h_17⟩
                                        ·
                                          have dc_264 := i_nlt c_264
                                          refine wp_bd1 (sf_X6_hasPart hN h_9 h_10) (fun r_363 q_265 => ?_)
                                          rcases q_265 with ⟨rfl, q_265⟩ | ⟨rfl, q_265⟩
                                          ·
                                            refine wp_ifn (by decide) ?_
                                            refine wp_bd1 (sf_X6_hasPart hN h_15 h_16) (fun r_366 q_266 => ?_)
                                            rcases q_266 with ⟨rfl, q_266⟩ | ⟨rfl, q_266⟩
                                            ·
                                              refine wp_ifn (by decide) ?_
                                              have hc_267 : (mm_cok x2 x4 x5 v_shelves3_items.length v_shelves5_items.length) = true := i_cok (by omega) (by omega) (by omega) (by omega) (by omega)
                                              refine wp_ck hc_267 ?_
                                              refine wp_nm (fun l_370 h_l_370 => ?_)
                                              have nl_l_370 : l_370.length = 60 := by rw [h_l_370, cp_len hc_267]; assumption
                                              exact wp_so7 ⟨h_2, h_5, h_8, h_11, h_14, nl_l_370⟩
                                            ·
                                              refine wp_ifp (by decide) ?_
                                              exact wp_so7 ⟨h_2, h_5, h_8, h_11, h_14, h_17⟩
                                          ·
                                            refine wp_ifp (by decide) ?_
                                            exact wp_so7 ⟨h_2, h_5, h_8, h_11, h_14, h_17⟩
                                      ·
                                        have dc_263 := i_ne c_263
                                        exact wp_so7 ⟨h_2, h_5, h_8, h_11, h_14, h_17⟩
                                    ·
                                      have dc_262 := i_ne c_262
                                      exact wp_so7 ⟨h_2, h_5, h_8, h_11, h_14, h_17⟩
                                  ·
                                    have dc_261 := i_ne c_261
                                    exact wp_so7 ⟨h_2, h_5, h_8, h_11, h_14, h_17⟩
                            ·
                              have dc_257 := i_ne c_257
                              exact (show False by omega).elim
                ·
                  have dc_205 := i_ne c_205
                  have n_269 : (4 : Int32).toInt = 4 := by decide
                  refine wp_if (fun c_268 => ?_) (fun c_268 => ?_)
                  ·
                    have dc_268 := i_eq c_268
                    refine wp_if (fun c_270 => ?_) (fun c_270 => ?_)
                    ·
                      have dc_270 := i_eq c_270
                      refine wp_if (fun c_271 => ?_) (fun c_271 => ?_)
                      ·
                        have dc_271 := i_eq c_271
                        exact wp_so7 ⟨h_2, h_5, h_8, h_11, h_14, h_17⟩
                      ·
                        have dc_271 := i_ne c_271
                        refine wp_if (fun c_272 => ?_) (fun c_272 => ?_)
                        ·
                          have dc_272 := i_eq c_272
                          exact wp_so7 ⟨h_2, h_5, h_8, h_11, h_14, h_17⟩
                        ·
                          have dc_272 := i_ne c_272
                          refine wp_if (fun c_273 => ?_) (fun c_273 => ?_)
                          ·
                            have dc_273 := i_eq c_273
                            refine wp_if (fun c_274 => ?_) (fun c_274 => ?_)
                            ·
                              have dc_274 := i_eq c_274
                              refine wp_if (fun c_275 => ?_) (fun c_275 => ?_)
                              ·
                                have dc_275 := i_eq c_275
                                refine wp_if (fun c_276 => ?_) (fun c_276 => ?_)
                                ·
                                  have dc_276 := i_lt c_276
                                  exact wp_so7 ⟨h_2, h_5, h_8, h_11, h_14, h_17⟩
                                ·
                                  have dc_276 := i_nlt c_276
                                  refine wp_bd1 (sf_X6_hasPart hN h_12 h_13) (fun r_379 q_277 => ?_)
                                  rcases q_277 with ⟨rfl, q_277⟩ | ⟨rfl, q_277⟩
                                  ·
                                    refine wp_ifn (by decide) ?_
                                    refine wp_bd1 (sf_X6_hasPart hN h_0 h_1) (fun r_382 q_278 => ?_)
                                    rcases q_278 with ⟨rfl, q_278⟩ | ⟨rfl, q_278⟩
                                    ·
                                      refine wp_ifn (by decide) ?_
                                      have hc_279 : (mm_cok x2 x4 x5 v_shelves4_items.length v_shelves0_items.length) = true := i_cok (by omega) (by omega) (by omega) (by omega) (by omega)
                                      refine wp_ck hc_279 ?_
                                      refine wp_nm (fun l_386 h_l_386 => ?_)
                                      have nl_l_386 : l_386.length = 60 := by rw [h_l_386, cp_len hc_279]; assumption
                                      exact wp_so7 ⟨nl_l_386, h_5, h_8, h_11, h_14, h_17⟩
                                    ·
                                      refine wp_ifp (by decide) ?_
                                      exact wp_so7 ⟨h_2, h_5, h_8, h_11, h_14, h_17⟩
                                  ·
                                    refine wp_ifp (by decide) ?_
                                    exact wp_so7 ⟨h_2, h_5, h_8, h_11, h_14, h_17⟩
                              ·
                                have dc_275 := i_ne c_275
                                exact wp_so7 ⟨h_2, h_5, h_8, h_11, h_14, h_17⟩
                            ·
                              have dc_274 := i_ne c_274
                              exact wp_so7 ⟨h_2, h_5, h_8, h_11, h_14, h_17⟩
                          ·
                            have dc_273 := i_ne c_273
                            exact wp_so7 ⟨h_2, h_5, h_8, h_11, h_14, h_17⟩
                    ·
                      have dc_270 := i_ne c_270
                      refine wp_if (fun c_280 => ?_) (fun c_280 => ?_)
                      ·
                        have dc_280 := i_eq c_280
                        refine wp_if (fun c_281 => ?_) (fun c_281 => ?_)
                        ·
                          have dc_281 := i_eq c_281
                          exact wp_so7 ⟨h_2, h_5, h_8, h_11, h_14, h_17⟩
                        ·
                          have dc_281 := i_ne c_281
                          refine wp_if (fun c_282 => ?_) (fun c_282 => ?_)
                          ·
                            have dc_282 := i_eq c_282
                            exact wp_so7 ⟨h_2, h_5, h_8, h_11, h_14, h_17⟩
                          ·
                            have dc_282 := i_ne c_282
                            refine wp_if (fun c_283 => ?_) (fun c_283 => ?_)
                            ·
                              have dc_283 := i_eq c_283
                              refine wp_if (fun c_284 => ?_) (fun c_284 => ?_)
                              ·
                                have dc_284 := i_eq c_284
                                refine wp_if (fun c_285 => ?_) (fun c_285 => ?_)
                                ·
                                  have dc_285 := i_eq c_285
                                  refine wp_if (fun c_286 => ?_) (fun c_286 => ?_)
                                  ·
                                    have dc_286 := i_lt c_286
                                    exact wp_so7 ⟨h_2, h_5, h_8, h_11, h_14, h_17⟩
                                  ·
                                    have dc_286 := i_nlt c_286
                                    refine wp_bd1 (sf_X6_hasPart hN h_12 h_13) (fun r_394 q_287 => ?_)
                                    rcases q_287 with ⟨rfl, q_287⟩ | ⟨rfl, q_287⟩
                                    ·
                                      refine wp_ifn (by decide) ?_
                                      refine wp_bd1 (sf_X6_hasPart hN h_3 h_4) (fun r_397 q_288 => ?_)
                                      rcases q_288 with ⟨rfl, q_288⟩ | ⟨rfl, q_288⟩
                                      ·
                                        refine wp_ifn (by decide) ?_
                                        have hc_289 : (mm_cok x2 x4 x5 v_shelves4_items.length v_shelves1_items.length) = true := i_cok (by omega) (by omega) (by omega) (by omega) (by omega)
                                        refine wp_ck hc_289 ?_
                                        refine wp_nm (fun l_401 h_l_401 => ?_)
                                        have nl_l_401 : l_401.length = 60 := by rw [h_l_401, cp_len hc_289]; assumption
                                        exact wp_so7 ⟨h_2, nl_l_401, h_8, h_11, h_14, h_17⟩
                                      ·
                                        refine wp_ifp (by decide) ?_
                                        exact wp_so7 ⟨h_2, h_5, h_8, h_11, h_14, h_17⟩
                                    ·
                                      refine wp_ifp (by decide) ?_
                                      exact wp_so7 ⟨h_2, h_5, h_8, h_11, h_14, h_17⟩
                                ·
                                  have dc_285 := i_ne c_285
                                  exact wp_so7 ⟨h_2, h_5, h_8, h_11, h_14, h_17⟩
                              ·
                                have dc_284 := i_ne c_284
                                exact wp_so7 ⟨h_2, h_5, h_8, h_11, h_14, h_17⟩
                            ·
                              have dc_283 := i_ne c_283
                              exact wp_so7 ⟨h_2, h_5, h_8, h_11, h_14, h_17⟩
                      ·
                        have dc_280 := i_ne c_280
                        refine wp_if (fun c_290 => ?_) (fun c_290 => ?_)
                        ·
                          have dc_290 := i_eq c_290
                          refine wp_if (fun c_291 => ?_) (fun c_291 => ?_)
                          ·
                            have dc_291 := i_eq c_291
                            exact wp_so7 ⟨h_2, h_5, h_8, h_11, h_14, h_17⟩
                          ·
                            have dc_291 := i_ne c_291
                            refine wp_if (fun c_292 => ?_) (fun c_292 => ?_)
                            ·
                              have dc_292 := i_eq c_292
                              exact wp_so7 ⟨h_2, h_5, h_8, h_11, h_14, h_17⟩
                            ·
                              have dc_292 := i_ne c_292
                              refine wp_if (fun c_293 => ?_) (fun c_293 => ?_)
                              ·
                                have dc_293 := i_eq c_293
                                refine wp_if (fun c_294 => ?_) (fun c_294 => ?_)
                                ·
                                  have dc_294 := i_eq c_294
                                  refine wp_if (fun c_295 => ?_) (fun c_295 => ?_)
                                  ·
                                    have dc_295 := i_eq c_295
                                    refine wp_if (fun c_296 => ?_) (fun c_296 => ?_)
                                    ·
                                      have dc_296 := i_lt c_296
                                      exact wp_so7 ⟨h_2, h_5, h_8, h_11, h_14, h_17⟩
                                    ·
                                      have dc_296 := i_nlt c_296
                                      refine wp_bd1 (sf_X6_hasPart hN h_12 h_13) (fun r_409 q_297 => ?_)
                                      rcases q_297 with ⟨rfl, q_297⟩ | ⟨rfl, q_297⟩
                                      ·
                                        refine wp_ifn (by decide) ?_
                                        refine wp_bd1 (sf_X6_hasPart hN h_6 h_7) (fun r_412 q_298 => ?_)
                                        rcases q_298 with ⟨rfl, q_298⟩ | ⟨rfl, q_298⟩
                                        ·
                                          refine wp_ifn (by decide) ?_
                                          have hc_299 : (mm_cok x2 x4 x5 v_shelves4_items.length v_shelves2_items.length) = true := i_cok (by omega) (by omega) (by omega) (by omega) (by omega)
                                          refine wp_ck hc_299 ?_
                                          refine wp_nm (fun l_416 h_l_416 => ?_)
                                          have nl_l_416 : l_416.length = 60 := by rw [h_l_416, cp_len hc_299]; assumption
                                          exact wp_so7 ⟨h_2, h_5, nl_l_416, h_11, h_14, h_17⟩
                                        ·
                                          refine wp_ifp (by decide) ?_
                                          exact wp_so7 ⟨h_2, h_5, h_8, h_11, h_14, h_17⟩
                                      ·
                                        refine wp_ifp (by decide) ?_
                                        exact wp_so7 ⟨h_2, h_5, h_8, h_11, h_14, h_17⟩
                                  ·
                                    have dc_295 := i_ne c_295
                                    exact wp_so7 ⟨h_2, h_5, h_8, h_11, h_14, h_17⟩
                                ·
                                  have dc_294 := i_ne c_294
                                  exact wp_so7 ⟨h_2, h_5, h_8, h_11, h_14, h_17⟩
                              ·
                                have dc_293 := i_ne c_293
                                exact wp_so7 ⟨h_2, h_5, h_8, h_11, h_14, h_17⟩
                        ·
                          have dc_290 := i_ne c_290
                          refine wp_if (fun c_300 => ?_) (fun c_300 => ?_)
                          ·
                            have dc_300 := i_eq c_300
                            refine wp_if (fun c_301 => ?_) (fun c_301 => ?_)
                            ·
                              have dc_301 := i_eq c_301
                              exact wp_so7 ⟨h_2, h_5, h_8, h_11, h_14, h_17⟩
                            ·
                              have dc_301 := i_ne c_301
                              refine wp_if (fun c_302 => ?_) (fun c_302 => ?_)
                              ·
                                have dc_302 := i_eq c_302
                                exact wp_so7 ⟨h_2, h_5, h_8, h_11, h_14, h_17⟩
                              ·
                                have dc_302 := i_ne c_302
                                refine wp_if (fun c_303 => ?_) (fun c_303 => ?_)
                                ·
                                  have dc_303 := i_eq c_303
                                  refine wp_if (fun c_304 => ?_) (fun c_304 => ?_)
                                  ·
                                    have dc_304 := i_eq c_304
                                    refine wp_if (fun c_305 => ?_) (fun c_305 => ?_)
                                    ·
                                      have dc_305 := i_eq c_305
                                      refine wp_if (fun c_306 => ?_) (fun c_306 => ?_)
                                      ·
                                        have dc_306 := i_lt c_306
                                        exact wp_so7 ⟨h_2, h_5, h_8, h_11, h_14, h_17⟩
                                      ·
                                        have dc_306 := i_nlt c_306
                                        refine wp_bd1 (sf_X6_hasPart hN h_12 h_13) (fun r_424 q_307 => ?_)
                                        rcases q_307 with ⟨rfl, q_307⟩ | ⟨rfl, q_307⟩
                                        ·
                                          refine wp_ifn (by decide) ?_
                                          refine wp_bd1 (sf_X6_hasPart hN h_9 h_10) (fun r_427 q_308 => ?_)
                                          rcases q_308 with ⟨rfl, q_308⟩ | ⟨rfl, q_308⟩
                                          ·
                                            refine wp_ifn (by decide) ?_
                                            have hc_309 : (mm_cok x2 x4 x5 v_shelves4_items.length v_shelves3_items.length) = true := i_cok (by omega) (by omega) (by omega) (by omega) (by omega)
                                            refine wp_ck hc_309 ?_
                                            refine wp_nm (fun l_431 h_l_431 => ?_)
                                            have nl_l_431 : l_431.length = 60 := by rw [h_l_431, cp_len hc_309]; assumption
                                            exact wp_so7 ⟨h_2, h_5, h_8, nl_l_431, h_14, h_17⟩
                                          ·
                                            refine wp_ifp (by decide) ?_
                                            exact wp_so7 ⟨h_2, h_5, h_8, h_11, h_14, h_17⟩
                                        ·
                                          refine wp_ifp (by decide) ?_
                                          exact wp_so7 ⟨h_2, h_5, h_8, h_11, h_14, h_17⟩
                                    ·
                                      have dc_305 := i_ne c_305
                                      exact wp_so7 ⟨h_2, h_5, h_8, h_11, h_14, h_17⟩
                                  ·
                                    have dc_304 := i_ne c_304
                                    exact wp_so7 ⟨h_2, h_5, h_8, h_11, h_14, h_17⟩
                                ·
                                  have dc_303 := i_ne c_303
                                  exact wp_so7 ⟨h_2, h_5, h_8, h_11, h_14, h_17⟩
                          ·
                            have dc_300 := i_ne c_300
                            refine wp_if (fun c_310 => ?_) (fun c_310 => ?_)
                            ·
                              have dc_310 := i_eq c_310
                              refine wp_if (fun c_311 => ?_) (fun c_311 => ?_)
                              ·
                                have dc_311 := i_eq c_311
                                exact wp_so7 ⟨h_2, h_5, h_8, h_11, h_14, h_17⟩
                              ·
                                have dc_311 := i_ne c_311
                                refine wp_ifn c_311 ?_
                                refine wp_if (fun c_313 => ?_) (fun c_313 => ?_)
                                ·
                                  have dc_313 := i_eq c_313
                                  refine wp_ifp c_313 ?_
                                  refine wp_if (fun c_314 => ?_) (fun c_314 => ?_)
                                  ·
                                    have dc_314 := i_eq c_314
                                    refine wp_if (fun c_315 => ?_) (fun c_315 => ?_)
                                    ·
                                      have dc_315 := i_lt c_315
                                      exact wp_so7 ⟨h_2, h_5, h_8, h_11, h_14, h_17⟩
                                    ·
                                      have dc_315 := i_nlt c_315
                                      refine wp_bd1 (sf_X6_hasPart hN h_12 h_13) (fun r_439 q_316 => ?_)
                                      rcases q_316 with ⟨rfl, q_316⟩ | ⟨rfl, q_316⟩
                                      ·
                                        refine wp_ifn (by decide) ?_
                                        refine wp_bd1 (sf_X6_hasPart hN h_12 h_13) (fun r_442 q_317 => ?_)
                                        rcases q_317 with ⟨rfl, q_317⟩ | ⟨rfl, q_317⟩
                                        ·
                                          refine wp_ifn (by decide) ?_
                                          have hc_318 : (mm_cok x2 x4 x5 v_shelves4_items.length v_shelves4_items.length) = true := i_cok (by omega) (by omega) (by omega) (by omega) (by omega)
                                          refine wp_ck hc_318 ?_
                                          refine wp_nm (fun l_446 h_l_446 => ?_)
                                          have nl_l_446 : l_446.length = 60 := by rw [h_l_446, cp_len hc_318]; assumption
                                          exact wp_so7 ⟨h_2, h_5, h_8, h_11, nl_l_446, h_17⟩
                                        ·
                                          refine wp_ifp (by decide) ?_
                                          exact wp_so7 ⟨h_2, h_5, h_8, h_11, h_14, h_17⟩
                                      ·
                                        refine wp_ifp (by decide) ?_
                                        exact wp_so7 ⟨h_2, h_5, h_8, h_11, h_14, h_17⟩
                                  ·
                                    have dc_314 := i_ne c_314
                                    exact wp_so7 ⟨h_2, h_5, h_8, h_11, h_14, h_17⟩
                                ·
                                  have dc_313 := i_ne c_313
                                  exact wp_so7 ⟨h_2, h_5, h_8, h_11, h_14, h_17⟩
                            ·
                              have dc_310 := i_ne c_310
                              have n_320 : (5 : Int32).toInt = 5 := by decide
                              refine wp_if (fun c_319 => ?_) (fun c_319 => ?_)
                              ·
                                have dc_319 := i_eq c_319
                                refine wp_if (fun c_321 => ?_) (fun c_321 => ?_)
                                ·
                                  have dc_321 := i_eq c_321
                                  exact wp_so7 ⟨h_2, h_5, h_8, h_11, h_14, h_17⟩
                                ·
                                  have dc_321 := i_ne c_321
                                  refine wp_if (fun c_322 => ?_) (fun c_322 => ?_)
                                  ·
                                    have dc_322 := i_eq c_322
                                    exact wp_so7 ⟨h_2, h_5, h_8, h_11, h_14, h_17⟩
                                  ·
                                    have dc_322 := i_ne c_322
                                    refine wp_if (fun c_323 => ?_) (fun c_323 => ?_)
                                    ·
                                      have dc_323 := i_eq c_323
                                      refine wp_if (fun c_324 => ?_) (fun c_324 => ?_)
                                      ·
                                        have dc_324 := i_eq c_324
                                        refine wp_if (fun c_325 => ?_) (fun c_325 => ?_)
                                        ·
                                          have dc_325 := i_eq c_325
                                          refine wp_if (fun c_326 => ?_) (fun c_326 => ?_)
                                          ·
                                            have dc_326 := i_lt c_326
                                            exact wp_so7 ⟨h_2, h_5, h_8, h_11, h_14, h_17⟩
                                          ·
                                            have dc_326 := i_nlt c_326
                                            refine wp_bd1 (sf_X6_hasPart hN h_12 h_13) (fun r_454 q_327 => ?_)
                                            rcases q_327 with ⟨rfl, q_327⟩ | ⟨rfl, q_327⟩
                                            ·
                                              refine wp_ifn (by decide) ?_
                                              refine wp_bd1 (sf_X6_hasPart hN h_15 h_16) (fun r_457 q_328 => ?_)
                                              rcases q_328 with ⟨rfl, q_328⟩ | ⟨rfl, q_328⟩
                                              ·
                                                refine wp_ifn (by decide) ?_
                                                have hc_329 : (mm_cok x2 x4 x5 v_shelves4_items.length v_shelves5_items.length) = true := i_cok (by omega) (by omega) (by omega) (by omega) (by omega)
                                                refine wp_ck hc_329 ?_
                                                refine wp_nm (fun l_461 h_l_461 => ?_)
                                                have nl_l_461 : l_461.length = 60 := by rw [h_l_461, cp_len hc_329]; assumption
                                                exact wp_so7 ⟨h_2, h_5, h_8, h_11, h_14, nl_l_461⟩
                                              ·
                                                refine wp_ifp (by decide) ?_
                                                exact wp_so7 ⟨h_2, h_5, h_8, h_11, h_14, h_17⟩
                                            ·
                                              refine wp_ifp (by decide) ?_
                                              exact wp_so7 ⟨h_2, h_5, h_8, h_11, h_14, h_17⟩
                                        ·
                                          have dc_325 := i_ne c_325
                                          exact wp_so7 ⟨h_2, h_5, h_8, h_11, h_14, h_17⟩
                                      ·
                                        have dc_324 := i_ne c_324
                                        exact wp_so7 ⟨h_2, h_5, h_8, h_11, h_14, h_17⟩
                                    ·
                                      have dc_323 := i_ne c_323
                                      exact wp_so7 ⟨h_2, h_5, h_8, h_11, h_14, h_17⟩
                              ·
                                have dc_319 := i_ne c_319
                                exact (show False by omega).elim
                  ·
                    have dc_268 := i_ne c_268
                    have n_331 : (5 : Int32).toInt = 5 := by decide
                    refine wp_if (fun c_330 => ?_) (fun c_330 => ?_)
                    ·
                      have dc_330 := i_eq c_330
                      refine wp_if (fun c_332 => ?_) (fun c_332 => ?_)
                      ·
                        have dc_332 := i_eq c_332
                        refine wp_if (fun c_333 => ?_) (fun c_333 => ?_)
                        ·
                          have dc_333 := i_eq c_333
                          exact wp_so7 ⟨h_2, h_5, h_8, h_11, h_14, h_17⟩
                        ·
                          have dc_333 := i_ne c_333
                          refine wp_if (fun c_334 => ?_) (fun c_334 => ?_)
                          ·
                            have dc_334 := i_eq c_334
                            exact wp_so7 ⟨h_2, h_5, h_8, h_11, h_14, h_17⟩
                          ·
                            have dc_334 := i_ne c_334
                            refine wp_if (fun c_335 => ?_) (fun c_335 => ?_)
                            ·
                              have dc_335 := i_eq c_335
                              refine wp_if (fun c_336 => ?_) (fun c_336 => ?_)
                              ·
                                have dc_336 := i_eq c_336
                                refine wp_if (fun c_337 => ?_) (fun c_337 => ?_)
                                ·
                                  have dc_337 := i_eq c_337
                                  refine wp_if (fun c_338 => ?_) (fun c_338 => ?_)
                                  ·
                                    have dc_338 := i_lt c_338
                                    exact wp_so7 ⟨h_2, h_5, h_8, h_11, h_14, h_17⟩
                                  ·
                                    have dc_338 := i_nlt c_338
                                    refine wp_bd1 (sf_X6_hasPart hN h_15 h_16) (fun r_470 q_339 => ?_)
                                    rcases q_339 with ⟨rfl, q_339⟩ | ⟨rfl, q_339⟩
                                    ·
                                      refine wp_ifn (by decide) ?_
                                      refine wp_bd1 (sf_X6_hasPart hN h_0 h_1) (fun r_473 q_340 => ?_)
                                      rcases q_340 with ⟨rfl, q_340⟩ | ⟨rfl, q_340⟩
                                      ·
                                        refine wp_ifn (by decide) ?_
                                        have hc_341 : (mm_cok x2 x4 x5 v_shelves5_items.length v_shelves0_items.length) = true := i_cok (by omega) (by omega) (by omega) (by omega) (by omega)
                                        refine wp_ck hc_341 ?_
                                        refine wp_nm (fun l_477 h_l_477 => ?_)
                                        have nl_l_477 : l_477.length = 60 := by rw [h_l_477, cp_len hc_341]; assumption
                                        exact wp_so7 ⟨nl_l_477, h_5, h_8, h_11, h_14, h_17⟩
                                      ·
                                        refine wp_ifp (by decide) ?_
                                        exact wp_so7 ⟨h_2, h_5, h_8, h_11, h_14, h_17⟩
                                    ·
                                      refine wp_ifp (by decide) ?_
                                      exact wp_so7 ⟨h_2, h_5, h_8, h_11, h_14, h_17⟩
                                ·
                                  have dc_337 := i_ne c_337
                                  exact wp_so7 ⟨h_2, h_5, h_8, h_11, h_14, h_17⟩
                              ·
                                have dc_336 := i_ne c_336
                                exact wp_so7 ⟨h_2, h_5, h_8, h_11, h_14, h_17⟩
                            ·
                              have dc_335 := i_ne c_335
                              exact wp_so7 ⟨h_2, h_5, h_8, h_11, h_14, h_17⟩
                      ·
                        have dc_332 := i_ne c_332
                        refine wp_if (fun c_342 => ?_) (fun c_342 => ?_)
                        ·
                          have dc_342 := i_eq c_342
                          refine wp_if (fun c_343 => ?_) (fun c_343 => ?_)
                          ·
                            have dc_343 := i_eq c_343
                            exact wp_so7 ⟨h_2, h_5, h_8, h_11, h_14, h_17⟩
                          ·
                            have dc_343 := i_ne c_343
                            refine wp_if (fun c_344 => ?_) (fun c_344 => ?_)
                            ·
                              have dc_344 := i_eq c_344
                              exact wp_so7 ⟨h_2, h_5, h_8, h_11, h_14, h_17⟩
                            ·
                              have dc_344 := i_ne c_344
                              refine wp_if (fun c_345 => ?_) (fun c_345 => ?_)
                              ·
                                have dc_345 := i_eq c_345
                                refine wp_if (fun c_346 => ?_) (fun c_346 => ?_)
                                ·
                                  have dc_346 := i_eq c_346
                                  refine wp_if (fun c_347 => ?_) (fun c_347 => ?_)
                                  ·
                                    have dc_347 := i_eq c_347
                                    refine wp_if (fun c_348 => ?_) (fun c_348 => ?_)
                                    ·
                                      have dc_348 := i_lt c_348
                                      exact wp_so7 ⟨h_2, h_5, h_8, h_11, h_14, h_17⟩
                                    ·
                                      have dc_348 := i_nlt c_348
                                      refine wp_bd1 (sf_X6_hasPart hN h_15 h_16) (fun r_485 q_349 => ?_)
                                      rcases q_349 with ⟨rfl, q_349⟩ | ⟨rfl, q_349⟩
                                      ·
                                        refine wp_ifn (by decide) ?_
                                        refine wp_bd1 (sf_X6_hasPart hN h_3 h_4) (fun r_488 q_350 => ?_)
                                        rcases q_350 with ⟨rfl, q_350⟩ | ⟨rfl, q_350⟩
                                        ·
                                          refine wp_ifn (by decide) ?_
                                          have hc_351 : (mm_cok x2 x4 x5 v_shelves5_items.length v_shelves1_items.length) = true := i_cok (by omega) (by omega) (by omega) (by omega) (by omega)
                                          refine wp_ck hc_351 ?_
                                          refine wp_nm (fun l_492 h_l_492 => ?_)
                                          have nl_l_492 : l_492.length = 60 := by rw [h_l_492, cp_len hc_351]; assumption
                                          exact wp_so7 ⟨h_2, nl_l_492, h_8, h_11, h_14, h_17⟩
                                        ·
                                          refine wp_ifp (by decide) ?_
                                          exact wp_so7 ⟨h_2, h_5, h_8, h_11, h_14, h_17⟩
                                      ·
                                        refine wp_ifp (by decide) ?_
                                        exact wp_so7 ⟨h_2, h_5, h_8, h_11, h_14, h_17⟩
                                  ·
                                    have dc_347 := i_ne c_347
                                    exact wp_so7 ⟨h_2, h_5, h_8, h_11, h_14, h_17⟩
                                ·
                                  have dc_346 := i_ne c_346
                                  exact wp_so7 ⟨h_2, h_5, h_8, h_11, h_14, h_17⟩
                              ·
                                have dc_345 := i_ne c_345
                                exact wp_so7 ⟨h_2, h_5, h_8, h_11, h_14, h_17⟩
                        ·
                          have dc_342 := i_ne c_342
                          refine wp_if (fun c_352 => ?_) (fun c_352 => ?_)
                          ·
                            have dc_352 := i_eq c_352
                            refine wp_if (fun c_353 => ?_) (fun c_353 => ?_)
                            ·
                              have dc_353 := i_eq c_353
                              exact wp_so7 ⟨h_2, h_5, h_8, h_11, h_14, h_17⟩
                            ·
                              have dc_353 := i_ne c_353
                              refine wp_if (fun c_354 => ?_) (fun c_354 => ?_)
                              ·
                                have dc_354 := i_eq c_354
                                exact wp_so7 ⟨h_2, h_5, h_8, h_11, h_14, h_17⟩
                              ·
                                have dc_354 := i_ne c_354
                                refine wp_if (fun c_355 => ?_) (fun c_355 => ?_)
                                ·
                                  have dc_355 := i_eq c_355
                                  refine wp_if (fun c_356 => ?_) (fun c_356 => ?_)
                                  ·
                                    have dc_356 := i_eq c_356
                                    refine wp_if (fun c_357 => ?_) (fun c_357 => ?_)
                                    ·
                                      have dc_357 := i_eq c_357
                                      refine wp_if (fun c_358 => ?_) (fun c_358 => ?_)
                                      ·
                                        have dc_358 := i_lt c_358
                                        exact wp_so7 ⟨h_2, h_5, h_8, h_11, h_14, h_17⟩
                                      ·
                                        have dc_358 := i_nlt c_358
                                        refine wp_bd1 (sf_X6_hasPart hN h_15 h_16) (fun r_500 q_359 => ?_)
                                        rcases q_359 with ⟨rfl, q_359⟩ | ⟨rfl, q_359⟩
                                        ·
                                          refine wp_ifn (by decide) ?_
                                          refine wp_bd1 (sf_X6_hasPart hN h_6 h_7) (fun r_503 q_360 => ?_)
                                          rcases q_360 with ⟨rfl, q_360⟩ | ⟨rfl, q_360⟩
                                          ·
                                            refine wp_ifn (by decide) ?_
                                            have hc_361 : (mm_cok x2 x4 x5 v_shelves5_items.length v_shelves2_items.length) = true := i_cok (by omega) (by omega) (by omega) (by omega) (by omega)
                                            refine wp_ck hc_361 ?_
                                            refine wp_nm (fun l_507 h_l_507 => ?_)
                                            have nl_l_507 : l_507.length = 60 := by rw [h_l_507, cp_len hc_361]; assumption
                                            exact wp_so7 ⟨h_2, h_5, nl_l_507, h_11, h_14, h_17⟩
                                          ·
                                            refine wp_ifp (by decide) ?_
                                            exact wp_so7 ⟨h_2, h_5, h_8, h_11, h_14, h_17⟩
                                        ·
                                          refine wp_ifp (by decide) ?_
                                          exact wp_so7 ⟨h_2, h_5, h_8, h_11, h_14, h_17⟩
                                    ·
                                      have dc_357 := i_ne c_357
                                      exact wp_so7 ⟨h_2, h_5, h_8, h_11, h_14, h_17⟩
                                  ·
                                    have dc_356 := i_ne c_356
                                    exact wp_so7 ⟨h_2, h_5, h_8, h_11, h_14, h_17⟩
                                ·
                                  have dc_355 := i_ne c_355
                                  exact wp_so7 ⟨h_2, h_5, h_8, h_11, h_14, h_17⟩
                          ·
                            have dc_352 := i_ne c_352
                            refine wp_if (fun c_362 => ?_) (fun c_362 => ?_)
                            ·
                              have dc_362 := i_eq c_362
                              refine wp_if (fun c_363 => ?_) (fun c_363 => ?_)
                              ·
                                have dc_363 := i_eq c_363
                                exact wp_so7 ⟨h_2, h_5, h_8, h_11, h_14, h_17⟩
                              ·
                                have dc_363 := i_ne c_363
                                refine wp_if (fun c_364 => ?_) (fun c_364 => ?_)
                                ·
                                  have dc_364 := i_eq c_364
                                  exact wp_so7 ⟨h_2, h_5, h_8, h_11, h_14, h_17⟩
                                ·
                                  have dc_364 := i_ne c_364
                                  refine wp_if (fun c_365 => ?_) (fun c_365 => ?_)
                                  ·
                                    have dc_365 := i_eq c_365
                                    refine wp_if (fun c_366 => ?_) (fun c_366 => ?_)
                                    ·
                                      have dc_366 := i_eq c_366
                                      refine wp_if (fun c_367 => ?_) (fun c_367 => ?_)
                                      ·
                                        have dc_367 := i_eq c_367
                                        refine wp_if (fun c_368 => ?_) (fun c_368 => ?_)
                                        ·
                                          have dc_368 := i_lt c_368
                                          exact wp_so7 ⟨h_2, h_5, h_8, h_11, h_14, h_17⟩
                                        ·
                                          have dc_368 := i_nlt c_368
                                          refine wp_bd1 (sf_X6_hasPart hN h_15 h_16) (fun r_515 q_369 => ?_)
                                          rcases q_369 with ⟨rfl, q_369⟩ | ⟨rfl, q_369⟩
                                          ·
                                            refine wp_ifn (by decide) ?_
                                            refine wp_bd1 (sf_X6_hasPart hN h_9 h_10) (fun r_518 q_370 => ?_)
                                            rcases q_370 with ⟨rfl, q_370⟩ | ⟨rfl, q_370⟩
                                            ·
                                              refine wp_ifn (by decide) ?_
                                              have hc_371 : (mm_cok x2 x4 x5 v_shelves5_items.length v_shelves3_items.length) = true := i_cok (by omega) (by omega) (by omega) (by omega) (by omega)
                                              refine wp_ck hc_371 ?_
                                              refine wp_nm (fun l_522 h_l_522 => ?_)
                                              have nl_l_522 : l_522.length = 60 := by rw [h_l_522, cp_len hc_371]; assumption
                                              exact wp_so7 ⟨h_2, h_5, h_8, nl_l_522, h_14, h_17⟩
                                            ·
                                              refine wp_ifp (by decide) ?_
                                              exact wp_so7 ⟨h_2, h_5, h_8, h_11, h_14, h_17⟩
                                          ·
                                            refine wp_ifp (by decide) ?_
                                            exact wp_so7 ⟨h_2, h_5, h_8, h_11, h_14, h_17⟩
                                      ·
                                        have dc_367 := i_ne c_367
                                        exact wp_so7 ⟨h_2, h_5, h_8, h_11, h_14, h_17⟩
                                    ·
                                      have dc_366 := i_ne c_366
                                      exact wp_so7 ⟨h_2, h_5, h_8, h_11, h_14, h_17⟩
                                  ·
                                    have dc_365 := i_ne c_365
                                    exact wp_so7 ⟨h_2, h_5, h_8, h_11, h_14, h_17⟩
                            ·
                              have dc_362 := i_ne c_362
                              refine wp_if (fun c_372 => ?_) (fun c_372 => ?_)
                              ·
                                have dc_372 := i_eq c_372
                                refine wp_if (fun c_373 => ?_) (fun c_373 => ?_)
                                ·
                                  have dc_373 := i_eq c_373
                                  exact wp_so7 ⟨h_2, h_5, h_8, h_11, h_14, h_17⟩
                                ·
                                  have dc_373 := i_ne c_373
                                  refine wp_if (fun c_374 => ?_) (fun c_374 => ?_)
                                  ·
                                    have dc_374 := i_eq c_374
                                    exact wp_so7 ⟨h_2, h_5, h_8, h_11, h_14, h_17⟩
                                  ·
                                    have dc_374 := i_ne c_374
                                    refine wp_if (fun c_375 => ?_) (fun c_375 => ?_)
                                    ·
                                      have dc_375 := i_eq c_375
                                      refine wp_if (fun c_376 => ?_) (fun c_376 => ?_)
                                      ·
                                        have dc_376 := i_eq c_376
                                        refine wp_if (fun c_377 => ?_) (fun c_377 => ?_)
                                        ·
                                          have dc_377 := i_eq c_377
                                          refine wp_if (fun c_378 => ?_) (fun c_378 => ?_)
                                          ·
                                            have dc_378 := i_lt c_378
                                            exact wp_so7 ⟨h_2, h_5, h_8, h_11, h_14, h_17⟩
                                          ·
                                            have dc_378 := i_nlt c_378
                                            refine wp_bd1 (sf_X6_hasPart hN h_15 h_16) (fun r_530 q_379 => ?_)
                                            rcases q_379 with ⟨rfl, q_379⟩ | ⟨rfl, q_379⟩
                                            ·
                                              refine wp_ifn (by decide) ?_
                                              refine wp_bd1 (sf_X6_hasPart hN h_12 h_13) (fun r_533 q_380 => ?_)
                                              rcases q_380 with ⟨rfl, q_380⟩ | ⟨rfl, q_380⟩
                                              ·
                                                refine wp_ifn (by decide) ?_
                                                have hc_381 : (mm_cok x2 x4 x5 v_shelves5_items.length v_shelves4_items.length) = true := i_cok (by omega) (by omega) (by omega) (by omega) (by omega)
                                                refine wp_ck hc_381 ?_
                                                refine wp_nm (fun l_537 h_l_537 => ?_)
                                                have nl_l_537 : l_537.length = 60 := by rw [h_l_537, cp_len hc_381]; assumption
                                                exact wp_so7 ⟨h_2, h_5, h_8, h_11, nl_l_537, h_17⟩
                                              ·
                                                refine wp_ifp (by decide) ?_
                                                exact wp_so7 ⟨h_2, h_5, h_8, h_11, h_14, h_17⟩
                                            ·
                                              refine wp_ifp (by decide) ?_
                                              exact wp_so7 ⟨h_2, h_5, h_8, h_11, h_14, h_17⟩
                                        ·
                                          have dc_377 := i_ne c_377
                                          exact wp_so7 ⟨h_2, h_5, h_8, h_11, h_14, h_17⟩
                                      ·
                                        have dc_376 := i_ne c_376
                                        exact wp_so7 ⟨h_2, h_5, h_8, h_11, h_14, h_17⟩
                                    ·
                                      have dc_375 := i_ne c_375
                                      exact wp_so7 ⟨h_2, h_5, h_8, h_11, h_14, h_17⟩
                              ·
                                have dc_372 := i_ne c_372
                                refine wp_if (fun c_382 => ?_) (fun c_382 => ?_)
                                ·
                                  have dc_382 := i_eq c_382
                                  refine wp_if (fun c_383 => ?_) (fun c_383 => ?_)
                                  ·
                                    have dc_383 := i_eq c_383
                                    exact wp_so7 ⟨h_2, h_5, h_8, h_11, h_14, h_17⟩
                                  ·
                                    have dc_383 := i_ne c_383
                                    refine wp_ifn c_383 ?_
                                    refine wp_if (fun c_385 => ?_) (fun c_385 => ?_)
                                    ·
                                      have dc_385 := i_eq c_385
                                      refine wp_ifp c_385 ?_
                                      refine wp_if (fun c_386 => ?_) (fun c_386 => ?_)
                                      ·
                                        have dc_386 := i_eq c_386
                                        refine wp_if (fun c_387 => ?_) (fun c_387 => ?_)
                                        ·
                                          have dc_387 := i_lt c_387
                                          exact wp_so7 ⟨h_2, h_5, h_8, h_11, h_14, h_17⟩
                                        ·
                                          have dc_387 := i_nlt c_387
                                          refine wp_bd1 (sf_X6_hasPart hN h_15 h_16) (fun r_545 q_388 => ?_)
                                          rcases q_388 with ⟨rfl, q_388⟩ | ⟨rfl, q_388⟩
                                          ·
                                            refine wp_ifn (by decide) ?_
                                            refine wp_bd1 (sf_X6_hasPart hN h_15 h_16) (fun r_548 q_389 => ?_)
                                            rcases q_389 with ⟨rfl, q_389⟩ | ⟨rfl, q_389⟩
                                            ·
                                              refine wp_ifn (by decide) ?_
                                              have hc_390 : (mm_cok x2 x4 x5 v_shelves5_items.length v_shelves5_items.length) = true := i_cok (by omega) (by omega) (by omega) (by omega) (by omega)
                                              refine wp_ck hc_390 ?_
                                              refine wp_nm (fun l_552 h_l_552 => ?_)
                                              have nl_l_552 : l_552.length = 60 := by rw [h_l_552, cp_len hc_390]; assumption
                                              exact wp_so7 ⟨h_2, h_5, h_8, h_11, h_14, nl_l_552⟩
                                            ·
                                              refine wp_ifp (by decide) ?_
                                              exact wp_so7 ⟨h_2, h_5, h_8, h_11, h_14, h_17⟩
                                          ·
                                            refine wp_ifp (by decide) ?_
                                            exact wp_so7 ⟨h_2, h_5, h_8, h_11, h_14, h_17⟩
                                      ·
                                        have dc_386 := i_ne c_386
                                        exact wp_so7 ⟨h_2, h_5, h_8, h_11, h_14, h_17⟩
                                    ·
                                      have dc_385 := i_ne c_385
                                      exact wp_so7 ⟨h_2, h_5, h_8, h_11, h_14, h_17⟩
                                ·
                                  have dc_382 := i_ne c_382
                                  exact (show False by omega).elim
                    ·
                      have dc_330 := i_ne c_330
                      exact (show False by omega).elim

theorem uf_X8_taken (N : Nat) (x1 : Int32) (x2 : Int32) (v_foldings_size : Int32) (v_foldings_kinds : List Int32) (v_shelves0_holds : Int32) (v_shelves0_body : Int32) (v_shelves1_holds : Int32) (v_shelves1_body : Int32) (v_shelves2_holds : Int32) (v_shelves2_body : Int32) (v_shelves3_holds : Int32) (v_shelves3_body : Int32) (v_shelves4_holds : Int32) (v_shelves4_body : Int32) (v_shelves5_holds : Int32) (v_shelves5_body : Int32) : fX8_taken N x1 x2 v_foldings_size v_foldings_kinds v_shelves0_holds v_shelves0_body v_shelves1_holds v_shelves1_body v_shelves2_holds v_shelves2_body v_shelves3_holds v_shelves3_body v_shelves4_holds v_shelves4_body v_shelves5_holds v_shelves5_body = mm_bd1 (fX8_isShelf N x1) (fun (r_1 : Bool) =>
    if r_1 = false then
    (some ((-1 : Int32)))
    else (if x2 < 0 then
    (some ((-1 : Int32)))
    else (if x2 < (8 : Int32) then
    (if x1 = (0 : Int32) then
    (if v_shelves0_holds = 0 then
    (some ((-11 : Int32)))
    else (if v_shelves0_holds = (1 : Int32) then
    (mm_bd1 (fX1_isUnder N v_shelves0_body x2 v_foldings_size v_foldings_kinds) (fun (r_9 : Bool) =>
    if r_9 = false then
    (some ((-12 : Int32)))
    else (mm_ck (mm_inb v_shelves0_body v_foldings_kinds.length) (some ((mm_ig v_foldings_kinds v_shelves0_body))))))
    else (some ((-12 : Int32)))))
    else (if x1 = (1 : Int32) then
    (if v_shelves1_holds = 0 then
    (some ((-11 : Int32)))
    else (if v_shelves1_holds = (1 : Int32) then
    (mm_bd1 (fX1_isUnder N v_shelves1_body x2 v_foldings_size v_foldings_kinds) (fun (r_16 : Bool) =>
    if r_16 = false then
    (some ((-12 : Int32)))
    else (mm_ck (mm_inb v_shelves1_body v_foldings_kinds.length) (some ((mm_ig v_foldings_kinds v_shelves1_body))))))
    else (some ((-12 : Int32)))))
    else (if x1 = (2 : Int32) then
    (if v_shelves2_holds = 0 then
    (some ((-11 : Int32)))
    else (if v_shelves2_holds = (1 : Int32) then
    (mm_bd1 (fX1_isUnder N v_shelves2_body x2 v_foldings_size v_foldings_kinds) (fun (r_23 : Bool) =>
    if r_23 = false then
    (some ((-12 : Int32)))
    else (mm_ck (mm_inb v_shelves2_body v_foldings_kinds.length) (some ((mm_ig v_foldings_kinds v_shelves2_body))))))
    else (some ((-12 : Int32)))))
    else (if x1 = (3 : Int32) then
    (if v_shelves3_holds = 0 then
    (some ((-11 : Int32)))
    else (if v_shelves3_holds = (1 : Int32) then
    (mm_bd1 (fX1_isUnder N v_shelves3_body x2 v_foldings_size v_foldings_kinds) (fun (r_30 : Bool) =>
    if r_30 = false then
    (some ((-12 : Int32)))
    else (mm_ck (mm_inb v_shelves3_body v_foldings_kinds.length) (some ((mm_ig v_foldings_kinds v_shelves3_body))))))
    else (some ((-12 : Int32)))))
    else (if x1 = (4 : Int32) then
    (if v_shelves4_holds = 0 then
    (some ((-11 : Int32)))
    else (if v_shelves4_holds = (1 : Int32) then
    (mm_bd1 (fX1_isUnder N v_shelves4_body x2 v_foldings_size v_foldings_kinds) (fun (r_37 : Bool) =>
    if r_37 = false then
    (some ((-12 : Int32)))
    else (mm_ck (mm_inb v_shelves4_body v_foldings_kinds.length) (some ((mm_ig v_foldings_kinds v_shelves4_body))))))
    else (some ((-12 : Int32)))))
    else (if x1 = (5 : Int32) then
    (if v_shelves5_holds = 0 then
    (some ((-11 : Int32)))
    else (if v_shelves5_holds = (1 : Int32) then
    (mm_bd1 (fX1_isUnder N v_shelves5_body x2 v_foldings_size v_foldings_kinds) (fun (r_44 : Bool) =>
    if r_44 = false then
    (some ((-12 : Int32)))
    else (mm_ck (mm_inb v_shelves5_body v_foldings_kinds.length) (some ((mm_ig v_foldings_kinds v_shelves5_body))))))
    else (some ((-12 : Int32)))))
    else (none)))))))
    else (some ((-1 : Int32)))))) := rfl

set_option maxHeartbeats 4000000 in
set_option maxRecDepth 20000 in
theorem sf_X8_taken {N : Nat} (hN : 700 ≤ N) {x1 : Int32} {x2 : Int32} {v_foldings_size : Int32} {v_foldings_kinds : List Int32} {v_shelves0_holds : Int32} {v_shelves0_body : Int32} {v_shelves1_holds : Int32} {v_shelves1_body : Int32} {v_shelves2_holds : Int32} {v_shelves2_body : Int32} {v_shelves3_holds : Int32} {v_shelves3_body : Int32} {v_shelves4_holds : Int32} {v_shelves4_body : Int32} {v_shelves5_holds : Int32} {v_shelves5_body : Int32} (h_0 : 0 ≤ v_foldings_size.toInt) (h_1 : v_foldings_size.toInt ≤ 50) (h_2 : v_foldings_kinds.length = 50) (h_3 : zn v_foldings_kinds 0 v_foldings_size.toInt 0 8) : wp (fX8_taken N x1 x2 v_foldings_size v_foldings_kinds v_shelves0_holds v_shelves0_body v_shelves1_holds v_shelves1_body v_shelves2_holds v_shelves2_body v_shelves3_holds v_shelves3_body v_shelves4_holds v_shelves4_body v_shelves5_holds v_shelves5_body) (fun (r : Int32) => True) := by
  refine wp_of (uf_X8_taken _ _ _ _ _ _ _ _ _ _ _ _ _ _ _ _ _) ?_
  refine wp_in1 ?_
  refine wp_of (uf_X8_isShelf _ _) ?_
  have n_2 : (0 : Int32).toInt = 0 := by decide
  refine wp_if (fun c_1 => ?_) (fun c_1 => ?_)
  ·
    have dc_1 := i_lt c_1
    refine wp_so1 ?_
    show wp _ _
    refine wp_ifp (by decide) ?_
    exact wp_so1 trivial
  ·
    have dc_1 := i_nlt c_1
    have n_4 : (6 : Int32).toInt = 6 := by decide
    refine wp_if (fun c_3 => ?_) (fun c_3 => ?_)
    ·
      have dc_3 := i_le c_3
      refine wp_so1 ?_
      show wp _ _
      refine wp_ifp (by decide) ?_
      exact wp_so1 trivial
    ·
      have dc_3 := i_nle c_3
      refine wp_so1 ?_
      show wp _ _
      refine wp_ifn (by decide) ?_
      refine wp_if (fun c_5 => ?_) (fun c_5 => ?_)
      ·
        have dc_5 := i_lt c_5
        exact wp_so1 trivial
      ·
        have dc_5 := i_nlt c_5
        have n_7 : (8 : Int32).toInt = 8 := by decide
        refine wp_if (fun c_6 => ?_) (fun c_6 => ?_)
        ·
          have dc_6 := i_lt c_6
          refine wp_if (fun c_8 => ?_) (fun c_8 => ?_)
          ·
            have dc_8 := i_eq c_8
            refine wp_if (fun c_9 => ?_) (fun c_9 => ?_)
            ·
              have dc_9 := i_eq c_9
              exact wp_so1 trivial
            ·
              have dc_9 := i_ne c_9
              have n_11 : (1 : Int32).toInt = 1 := by decide
              refine wp_if (fun c_10 => ?_) (fun c_10 => ?_)
              ·
                have dc_10 := i_eq c_10
                refine wp_bd1 (sf_X1_isUnder hN h_0 h_1 h_2 h_3) (fun r_9 q_12 => ?_)
                rcases q_12 with ⟨rfl, q_12⟩ | ⟨rfl, q_12⟩
                ·
                  refine wp_ifn (by decide) ?_
                  refine wp_ck (i_inb (by omega) (by omega)) ?_
                  exact wp_so1 trivial
                ·
                  refine wp_ifp (by decide) ?_
                  exact wp_so1 trivial
              ·
                have dc_10 := i_ne c_10
                exact wp_so1 trivial
          ·
            have dc_8 := i_ne c_8
            have n_14 : (1 : Int32).toInt = 1 := by decide
            refine wp_if (fun c_13 => ?_) (fun c_13 => ?_)
            ·
              have dc_13 := i_eq c_13
              refine wp_if (fun c_15 => ?_) (fun c_15 => ?_)
              ·
                have dc_15 := i_eq c_15
                exact wp_so1 trivial
              ·
                have dc_15 := i_ne c_15
                refine wp_if (fun c_16 => ?_) (fun c_16 => ?_)
                ·
                  have dc_16 := i_eq c_16
                  refine wp_bd1 (sf_X1_isUnder hN h_0 h_1 h_2 h_3) (fun r_16 q_17 => ?_)
                  rcases q_17 with ⟨rfl, q_17⟩ | ⟨rfl, q_17⟩
                  ·
                    refine wp_ifn (by decide) ?_
                    refine wp_ck (i_inb (by omega) (by omega)) ?_
                    exact wp_so1 trivial
                  ·
                    refine wp_ifp (by decide) ?_
                    exact wp_so1 trivial
                ·
                  have dc_16 := i_ne c_16
                  exact wp_so1 trivial
            ·
              have dc_13 := i_ne c_13
              have n_19 : (2 : Int32).toInt = 2 := by decide
              refine wp_if (fun c_18 => ?_) (fun c_18 => ?_)
              ·
                have dc_18 := i_eq c_18
                refine wp_if (fun c_20 => ?_) (fun c_20 => ?_)
                ·
                  have dc_20 := i_eq c_20
                  exact wp_so1 trivial
                ·
                  have dc_20 := i_ne c_20
                  refine wp_if (fun c_21 => ?_) (fun c_21 => ?_)
                  ·
                    have dc_21 := i_eq c_21
                    refine wp_bd1 (sf_X1_isUnder hN h_0 h_1 h_2 h_3) (fun r_23 q_22 => ?_)
                    rcases q_22 with ⟨rfl, q_22⟩ | ⟨rfl, q_22⟩
                    ·
                      refine wp_ifn (by decide) ?_
                      refine wp_ck (i_inb (by omega) (by omega)) ?_
                      exact wp_so1 trivial
                    ·
                      refine wp_ifp (by decide) ?_
                      exact wp_so1 trivial
                  ·
                    have dc_21 := i_ne c_21
                    exact wp_so1 trivial
              ·
                have dc_18 := i_ne c_18
                have n_24 : (3 : Int32).toInt = 3 := by decide
                refine wp_if (fun c_23 => ?_) (fun c_23 => ?_)
                ·
                  have dc_23 := i_eq c_23
                  refine wp_if (fun c_25 => ?_) (fun c_25 => ?_)
                  ·
                    have dc_25 := i_eq c_25
                    exact wp_so1 trivial
                  ·
                    have dc_25 := i_ne c_25
                    refine wp_if (fun c_26 => ?_) (fun c_26 => ?_)
                    ·
                      have dc_26 := i_eq c_26
                      refine wp_bd1 (sf_X1_isUnder hN h_0 h_1 h_2 h_3) (fun r_30 q_27 => ?_)
                      rcases q_27 with ⟨rfl, q_27⟩ | ⟨rfl, q_27⟩
                      ·
                        refine wp_ifn (by decide) ?_
                        refine wp_ck (i_inb (by omega) (by omega)) ?_
                        exact wp_so1 trivial
                      ·
                        refine wp_ifp (by decide) ?_
                        exact wp_so1 trivial
                    ·
                      have dc_26 := i_ne c_26
                      exact wp_so1 trivial
                ·
                  have dc_23 := i_ne c_23
                  have n_29 : (4 : Int32).toInt = 4 := by decide
                  refine wp_if (fun c_28 => ?_) (fun c_28 => ?_)
                  ·
                    have dc_28 := i_eq c_28
                    refine wp_if (fun c_30 => ?_) (fun c_30 => ?_)
                    ·
                      have dc_30 := i_eq c_30
                      exact wp_so1 trivial
                    ·
                      have dc_30 := i_ne c_30
                      refine wp_if (fun c_31 => ?_) (fun c_31 => ?_)
                      ·
                        have dc_31 := i_eq c_31
                        refine wp_bd1 (sf_X1_isUnder hN h_0 h_1 h_2 h_3) (fun r_37 q_32 => ?_)
                        rcases q_32 with ⟨rfl, q_32⟩ | ⟨rfl, q_32⟩
                        ·
                          refine wp_ifn (by decide) ?_
                          refine wp_ck (i_inb (by omega) (by omega)) ?_
                          exact wp_so1 trivial
                        ·
                          refine wp_ifp (by decide) ?_
                          exact wp_so1 trivial
                      ·
                        have dc_31 := i_ne c_31
                        exact wp_so1 trivial
                  ·
                    have dc_28 := i_ne c_28
                    have n_34 : (5 : Int32).toInt = 5 := by decide
                    refine wp_if (fun c_33 => ?_) (fun c_33 => ?_)
                    ·
                      have dc_33 := i_eq c_33
                      refine wp_if (fun c_35 => ?_) (fun c_35 => ?_)
                      ·
                        have dc_35 := i_eq c_35
                        exact wp_so1 trivial
                      ·
                        have dc_35 := i_ne c_35
                        refine wp_if (fun c_36 => ?_) (fun c_36 => ?_)
                        ·
                          have dc_36 := i_eq c_36
                          refine wp_bd1 (sf_X1_isUnder hN h_0 h_1 h_2 h_3) (fun r_44 q_37 => ?_)
                          rcases q_37 with ⟨rfl, q_37⟩ | ⟨rfl, q_37⟩
                          ·
                            refine wp_ifn (by decide) ?_
                            refine wp_ck (i_inb (by omega) (by omega)) ?_
                            exact wp_so1 trivial
                          ·
                            refine wp_ifp (by decide) ?_
                            exact wp_so1 trivial
                        ·
                          have dc_36 := i_ne c_36
                          exact wp_so1 trivial
                    ·
                      have dc_33 := i_ne c_33
                      exact (show False by omega).elim
        ·
          have dc_6 := i_nlt c_6
          exact wp_so1 trivial

theorem uf_X8_count (N : Nat) (x1 : Int32) (v_now_rows : Int32) (v_now_cols : Int32) (v_wearing_size : Int32) (v_planned_size : Int32) (v_changes_done : Int32) (v_foldings_size : Int32) (v_foldings_ran : Int32) : fX8_count N x1 v_now_rows v_now_cols v_wearing_size v_planned_size v_changes_done v_foldings_size v_foldings_ran = if x1 = (0 : Int32) then
    (mm_bd1 (fX5_fields N v_now_rows v_now_cols) (fun (r_2 : Int32) =>
    some (r_2)))
    else (if x1 = (1 : Int32) then
    (some (v_planned_size))
    else (if x1 = (2 : Int32) then
    (some (v_wearing_size))
    else (if x1 = (3 : Int32) then
    (some (v_changes_done))
    else (if x1 = (4 : Int32) then
    (some (v_foldings_size))
    else (if x1 = (5 : Int32) then
    (some (v_foldings_ran))
    else (some ((-1 : Int32)))))))) := rfl

set_option maxHeartbeats 4000000 in
set_option maxRecDepth 20000 in
theorem sf_X8_count {N : Nat} (hN : 700 ≤ N) {x1 : Int32} {v_now_rows : Int32} {v_now_cols : Int32} {v_wearing_size : Int32} {v_planned_size : Int32} {v_changes_done : Int32} {v_foldings_size : Int32} {v_foldings_ran : Int32} (h_0 : 1 ≤ v_now_rows.toInt) (h_1 : v_now_rows.toInt ≤ 4) (h_2 : 1 ≤ v_now_cols.toInt) (h_3 : v_now_cols.toInt ≤ 8) (h_4 : 0 ≤ v_wearing_size.toInt) (h_5 : v_wearing_size.toInt ≤ 120) (h_6 : 0 ≤ v_planned_size.toInt) (h_7 : v_planned_size.toInt ≤ 12) (h_8 : 0 ≤ v_changes_done.toInt) (h_9 : v_changes_done.toInt ≤ 40) (h_10 : 0 ≤ v_foldings_size.toInt) (h_11 : v_foldings_size.toInt ≤ 50) : wp (fX8_count N x1 v_now_rows v_now_cols v_wearing_size v_planned_size v_changes_done v_foldings_size v_foldings_ran) (fun (r : Int32) => True) := by
  refine wp_of (uf_X8_count _ _ _ _ _ _ _ _ _) ?_
  have n_2 : (0 : Int32).toInt = 0 := by decide
  refine wp_if (fun c_1 => ?_) (fun c_1 => ?_)
  ·
    have dc_1 := i_eq c_1
    refine wp_bd1 (sf_X5_fields hN h_0 h_1 h_2 h_3) (fun r_2 ⟨q_3, q_4, q_5⟩ => ?_)
    exact wp_so1 trivial
  ·
    have dc_1 := i_ne c_1
    have n_7 : (1 : Int32).toInt = 1 := by decide
    refine wp_if (fun c_6 => ?_) (fun c_6 => ?_)
    ·
      have dc_6 := i_eq c_6
      exact wp_so1 trivial
    ·
      have dc_6 := i_ne c_6
      have n_9 : (2 : Int32).toInt = 2 := by decide
      refine wp_if (fun c_8 => ?_) (fun c_8 => ?_)
      ·
        have dc_8 := i_eq c_8
        exact wp_so1 trivial
      ·
        have dc_8 := i_ne c_8
        have n_11 : (3 : Int32).toInt = 3 := by decide
        refine wp_if (fun c_10 => ?_) (fun c_10 => ?_)
        ·
          have dc_10 := i_eq c_10
          exact wp_so1 trivial
        ·
          have dc_10 := i_ne c_10
          have n_13 : (4 : Int32).toInt = 4 := by decide
          refine wp_if (fun c_12 => ?_) (fun c_12 => ?_)
          ·
            have dc_12 := i_eq c_12
            exact wp_so1 trivial
          ·
            have dc_12 := i_ne c_12
            have n_15 : (5 : Int32).toInt = 5 := by decide
            refine wp_if (fun c_14 => ?_) (fun c_14 => ?_)
            ·
              have dc_14 := i_eq c_14
              exact wp_so1 trivial
            ·
              have dc_14 := i_ne c_14
              exact wp_so1 trivial
end
section
/-! safe -/
theorem uf_X9_within (N : Nat) (x0 : Int64) (x2 : Int64) (x4 : Int64) : fX9_within N x0 x2 x4 = if (lg_cmp x0 x2) < 0 then
    (some (false))
    else (if 0 < (lg_cmp x0 x4) then
    (some (false))
    else (some (true))) := rfl

theorem uf_X9_fields (N : Nat) (v_rowsOf : Int32) (v_columnsOf : Int32) : fX9_fields N v_rowsOf v_columnsOf = some ((v_rowsOf * v_columnsOf)) := rfl


theorem sf_X9_within {N : Nat} (hN : 700 ≤ N) {x0 x2 x4 : Int64} : wp (fX9_within N x0 x2 x4) (fun (r : Bool) => (r = true ∧ x2.toInt ≤ x0.toInt ∧ x0.toInt ≤ x4.toInt) ∨ (r = false ∧ (x0.toInt < x2.toInt ∨ x4.toInt < x0.toInt))) := by
  rw [uf_X9_within]
  refine wp_if (fun c => ?_) (fun c => ?_)
  · have := (lg_neg _ _).mp c
    exact wp_so1 (Or.inr ⟨rfl, by omega⟩)
  · have h1 : ¬ x0.toInt < x2.toInt := fun k => c ((lg_neg _ _).mpr k)
    refine wp_if (fun c => ?_) (fun c => ?_)
    · have := (lg_pos _ _).mp c
      exact wp_so1 (Or.inr ⟨rfl, by omega⟩)
    · have h2 : ¬ x4.toInt < x0.toInt := fun k => c ((lg_pos _ _).mpr k)
      exact wp_so1 (Or.inl ⟨rfl, by omega⟩)
theorem sf_X9_fields {N : Nat} (hN : 700 ≤ N) {v_rowsOf v_columnsOf : Int32} (h_0 : 1 ≤ v_rowsOf.toInt) (h_1 : v_rowsOf.toInt ≤ 4) (h_2 : 1 ≤ v_columnsOf.toInt) (h_3 : v_columnsOf.toInt ≤ 8) : wp (fX9_fields N v_rowsOf v_columnsOf) (fun (r : Int32) => r.toInt = v_rowsOf.toInt * v_columnsOf.toInt ∧ 1 ≤ r.toInt ∧ r.toInt ≤ 32) := by
  rw [uf_X9_fields]
  have h := i_fl h_0 h_1 h_2 h_3
  exact wp_so1 ⟨h.1, by rw [h.1]; exact h.2.1, by rw [h.1]; exact h.2.2⟩

theorem uf_X9_limit_39 (N : Nat) (n : Nat) (x1 : Int32) (x2 : Int32) (x3 : Int32) (v_keptMany : Int32) (v_done : Int32) (v_limit : List Int32) (v_changeWas : List Int32) (v_changeIs : List Int32) : fX9_limit_39 N (n + 1) x1 x2 x3 v_keptMany v_done v_limit v_changeWas v_changeIs = 
    if (40 : Int32) ≤ x3 then
    (mm_nm ((v_done - (1 : Int32))) (fun (y_9 : Int32) =>
    fX9_limit_89 N x1 x2 v_keptMany y_9 v_limit v_changeWas v_changeIs))
    else (mm_ck (mm_inb x3 v_changeWas.length) (mm_nm ((mm_ig v_changeWas x3)) (fun (y_11 : Int32) =>
    mm_ck (mm_inb (x3 - (1 : Int32)) v_changeWas.length) (mm_nm (mm_is v_changeWas (x3 - (1 : Int32)) y_11) (fun (l_13 : List Int32) =>
    mm_ck (mm_inb x3 v_changeIs.length) (mm_nm ((mm_ig v_changeIs x3)) (fun (y_15 : Int32) =>
    mm_ck (mm_inb (x3 - (1 : Int32)) v_changeIs.length) (mm_nm (mm_is v_changeIs (x3 - (1 : Int32)) y_15) (fun (l_17 : List Int32) =>
    mm_nm (x3 + (1 : Int32)) (fun (y_18 : Int32) =>
    fX9_limit_39 N n x1 x2 y_18 v_keptMany v_done v_limit l_13 l_17)))))))))) := rfl

theorem uf_X9_limit_89 (N : Nat) (x1 : Int32) (x2 : Int32) (v_keptMany : Int32) (v_done : Int32) (v_limit : List Int32) (v_changeWas : List Int32) (v_changeIs : List Int32) : fX9_limit_89 N x1 x2 v_keptMany v_done v_limit v_changeWas v_changeIs = mm_ck (mm_inb v_done v_changeWas.length) (mm_nm (mm_is v_changeWas v_done x2) (fun (l_20 : List Int32) =>
    mm_ck (mm_inb v_done v_changeIs.length) (mm_nm (mm_is v_changeIs v_done x1) (fun (l_22 : List Int32) =>
    mm_nm ((v_done + (1 : Int32))) (fun (y_23 : Int32) =>
    mm_ck (mm_inb (0 : Int32) v_limit.length) (mm_nm (mm_is v_limit (0 : Int32) x1) (fun (l_25 : List Int32) =>
    some (x2, y_23, y_23, l_25, l_20, l_22)))))))) := rfl

set_option maxHeartbeats 4000000 in
set_option maxRecDepth 20000 in
theorem sf_X9_limit_39 {N : Nat} (hN : 700 ≤ N)  : ∀ (n : Nat) (x1 : Int32) (x2 : Int32) (x3 : Int32) (v_keptMany : Int32) (v_done : Int32) (v_limit : List Int32) (v_changeWas : List Int32) (v_changeIs : List Int32), 0 ≤ v_keptMany.toInt → v_keptMany.toInt ≤ 40 → 0 ≤ v_done.toInt → v_done.toInt ≤ 40 → v_limit.length = 1 → v_changeWas.length = 40 → v_changeIs.length = 40 → 1 ≤ x3.toInt → x3.toInt ≤ 40 → 1 ≤ v_done.toInt → (40 - x3.toInt).toNat < n → wp (fX9_limit_39 N n x1 x2 x3 v_keptMany v_done v_limit v_changeWas v_changeIs) (cu6 (fun (r : Int32) (wv_keptMany : Int32) (wv_done : Int32) (wv_limit : List Int32) (wv_changeWas : List Int32) (wv_changeIs : List Int32) => 0 ≤ wv_keptMany.toInt ∧ wv_keptMany.toInt ≤ 40 ∧ 0 ≤ wv_done.toInt ∧ wv_done.toInt ≤ 40 ∧ wv_limit.length = 1 ∧ wv_changeWas.length = 40 ∧ wv_changeIs.length = 40 ∧ wv_done.toInt ≤ wv_keptMany.toInt)) := by
  intro n
  induction n with
  | zero =>
    intro x1 x2 x3 v_keptMany v_done v_limit v_changeWas v_changeIs h_0 h_1 h_2 h_3 h_4 h_5 h_6 h_7 h_8 h_9 hm
    exact absurd hm (by omega)
  | succ n ih =>
    intro x1 x2 x3 v_keptMany v_done v_limit v_changeWas v_changeIs h_0 h_1 h_2 h_3 h_4 h_5 h_6 h_7 h_8 h_9 hm
    refine wp_of (uf_X9_limit_39 _ _ _ _ _ _ _ _ _ _) ?_
    have n_2 : (40 : Int32).toInt = 40 := by decide
    refine wp_if (fun c_1 => ?_) (fun c_1 => ?_)
    ·
      have dc_1 := i_le c_1
      have n_3 : (1 : Int32).toInt = 1 := by decide
      refine wp_nm (fun y_9 h_y_9 => ?_)
      have e_4 := i_subE h_y_9.symm (by omega) (by omega)
      refine wp_of (uf_X9_limit_89 _ _ _ _ _ _ _ _) ?_
      refine wp_ck (i_inb (by omega) (by omega)) ?_
      refine wp_nm (fun l_20 h_l_20 => ?_)
      have nl_l_20 : l_20.length = 40 := by rw [h_l_20, is_len]; assumption
      refine wp_ck (i_inb (by omega) (by omega)) ?_
      refine wp_nm (fun l_22 h_l_22 => ?_)
      have nl_l_22 : l_22.length = 40 := by rw [h_l_22, is_len]; assumption
      refine wp_nm (fun y_23 h_y_23 => ?_)
      have e_5 := i_addE h_y_23.symm (by omega) (by omega)
      have n_6 : (0 : Int32).toInt = 0 := by decide
      refine wp_ck (i_inb (by omega) (by omega)) ?_
      refine wp_nm (fun l_25 h_l_25 => ?_)
      have nl_l_25 : l_25.length = 1 := by rw [h_l_25, is_len]; assumption
      exact wp_so6 ⟨(by omega), (by omega), (by omega), (by omega), nl_l_25, nl_l_20, nl_l_22, (by omega)⟩
    ·
      have dc_1 := i_nle c_1
      refine wp_ck (i_inb (by omega) (by omega)) ?_
      refine wp_nm (fun y_11 h_y_11 => ?_)
      have t_y_11 : y_11.toInt = ((mm_ig v_changeWas x3)).toInt := by rw [h_y_11]
      have n_7 : (1 : Int32).toInt = 1 := by decide
      generalize hz_z : (x3 - (1 : Int32)) = z
      have e_8 := i_subE hz_z (by omega) (by omega)
      refine wp_ck (i_inb (by omega) (by omega)) ?_
      refine wp_nm (fun l_13 h_l_13 => ?_)
      have nl_l_13 : l_13.length = 40 := by rw [h_l_13, is_len]; assumption
      refine wp_ck (i_inb (by omega) (by omega)) ?_
      refine wp_nm (fun y_15 h_y_15 => ?_)
      have t_y_15 : y_15.toInt = ((mm_ig v_changeIs x3)).toInt := by rw [h_y_15]
      refine wp_ck (i_inb (by omega) (by omega)) ?_
      refine wp_nm (fun l_17 h_l_17 => ?_)
      have nl_l_17 : l_17.length = 40 := by rw [h_l_17, is_len]; assumption
      refine wp_nm (fun y_18 h_y_18 => ?_)
      have e_9 := i_addE h_y_18.symm (by omega) (by omega)
      exact ih _ _ _ _ _ _ _ _ h_0 h_1 h_2 h_3 h_4 nl_l_13 nl_l_17 (by omega) (by omega) h_9 (by omega)

theorem uf_X9_limit (N : Nat) (x1 : Int32) (v_keptMany : Int32) (v_done : Int32) (v_limit : List Int32) (v_changeWas : List Int32) (v_changeIs : List Int32) : fX9_limit N x1 v_keptMany v_done v_limit v_changeWas v_changeIs = mm_bd1 (fX9_within N ((x1).toInt64) (1 : Int64) (99 : Int64)) (fun (r_1 : Bool) =>
    if r_1 = false then
    (some ((-1 : Int32), v_keptMany, v_done, v_limit, v_changeWas, v_changeIs))
    else (mm_ck (mm_inb (0 : Int32) v_limit.length) (mm_nm ((mm_ig v_limit (0 : Int32))) (fun (y_5 : Int32) =>
    if y_5 = x1 then
    (some (y_5, v_keptMany, v_done, v_limit, v_changeWas, v_changeIs))
    else (if v_done = (40 : Int32) then
    (fX9_limit_39 N N x1 y_5 (1 : Int32) v_keptMany v_done v_limit v_changeWas v_changeIs)
    else (fX9_limit_89 N x1 y_5 v_keptMany v_done v_limit v_changeWas v_changeIs)))))) := rfl

set_option maxHeartbeats 4000000 in
set_option maxRecDepth 20000 in
theorem sf_X9_limit {N : Nat} (hN : 700 ≤ N) {x1 : Int32} {v_keptMany : Int32} {v_done : Int32} {v_limit : List Int32} {v_changeWas : List Int32} {v_changeIs : List Int32} (h_0 : 0 ≤ v_keptMany.toInt) (h_1 : v_keptMany.toInt ≤ 40) (h_2 : 0 ≤ v_done.toInt) (h_3 : v_done.toInt ≤ 40) (h_4 : v_limit.length = 1) (h_5 : v_changeWas.length = 40) (h_6 : v_changeIs.length = 40) (h_7 : v_done.toInt ≤ v_keptMany.toInt) : wp (fX9_limit N x1 v_keptMany v_done v_limit v_changeWas v_changeIs) (cu6 (fun (r : Int32) (wv_keptMany : Int32) (wv_done : Int32) (wv_limit : List Int32) (wv_changeWas : List Int32) (wv_changeIs : List Int32) => 0 ≤ wv_keptMany.toInt ∧ wv_keptMany.toInt ≤ 40 ∧ 0 ≤ wv_done.toInt ∧ wv_done.toInt ≤ 40 ∧ wv_limit.length = 1 ∧ wv_changeWas.length = 40 ∧ wv_changeIs.length = 40 ∧ wv_done.toInt ≤ wv_keptMany.toInt)) := by
  refine wp_of (uf_X9_limit _ _ _ _ _ _ _) ?_
  have n_1 := i_64 x1
  have n_2 : (1 : Int64).toInt = 1 := by decide
  have n_3 : (99 : Int64).toInt = 99 := by decide
  refine wp_bd1 (sf_X9_within hN ) (fun r_1 q_4 => ?_)
  rcases q_4 with ⟨rfl, q_4⟩ | ⟨rfl, q_4⟩
  ·
    refine wp_ifn (by decide) ?_
    have n_5 : (0 : Int32).toInt = 0 := by decide
    refine wp_ck (i_inb (by omega) (by omega)) ?_
    refine wp_nm (fun y_5 h_y_5 => ?_)
    have t_y_5 : y_5.toInt = ((mm_ig v_limit (0 : Int32))).toInt := by rw [h_y_5]
    refine wp_if (fun c_6 => ?_) (fun c_6 => ?_)
    ·
      have dc_6 := i_eq c_6
      exact wp_so6 ⟨h_0, h_1, h_2, h_3, h_4, h_5, h_6, h_7⟩
    ·
      have dc_6 := i_ne c_6
      have n_8 : (40 : Int32).toInt = 40 := by decide
      refine wp_if (fun c_7 => ?_) (fun c_7 => ?_)
      ·
        have dc_7 := i_eq c_7
        have n_9 : (1 : Int32).toInt = 1 := by decide
        exact sf_X9_limit_39 hN _ _ _ _ _ _ _ _ _ h_0 h_1 h_2 h_3 h_4 h_5 h_6 (by omega) (by omega) (by omega) (by omega)
      ·
        have dc_7 := i_ne c_7
        refine wp_of (uf_X9_limit_89 _ _ _ _ _ _ _ _) ?_
        refine wp_ck (i_inb (by omega) (by omega)) ?_
        refine wp_nm (fun l_20 h_l_20 => ?_)
        have nl_l_20 : l_20.length = 40 := by rw [h_l_20, is_len]; assumption
        refine wp_ck (i_inb (by omega) (by omega)) ?_
        refine wp_nm (fun l_22 h_l_22 => ?_)
        have nl_l_22 : l_22.length = 40 := by rw [h_l_22, is_len]; assumption
        have n_10 : (1 : Int32).toInt = 1 := by decide
        refine wp_nm (fun y_23 h_y_23 => ?_)
        have e_11 := i_addE h_y_23.symm (by omega) (by omega)
        refine wp_ck (i_inb (by omega) (by omega)) ?_
        refine wp_nm (fun l_25 h_l_25 => ?_)
        have nl_l_25 : l_25.length = 1 := by rw [h_l_25, is_len]; assumption
        exact wp_so6 ⟨(by omega), (by omega), (by omega), (by omega), nl_l_25, nl_l_20, nl_l_22, (by omega)⟩
  ·
    refine wp_ifp (by decide) ?_
    exact wp_so6 ⟨h_0, h_1, h_2, h_3, h_4, h_5, h_6, h_7⟩

theorem uf_X9_undo (N : Nat) (v_done : Int32) (v_limit : List Int32) (v_changeWas : List Int32) : fX9_undo N v_done v_limit v_changeWas = if v_done = 0 then
    (some ((-5 : Int32), v_done, v_limit))
    else (mm_nm ((v_done - (1 : Int32))) (fun (y_2 : Int32) =>
    mm_ck (mm_inb y_2 v_changeWas.length) (mm_nm ((mm_ig v_changeWas y_2)) (fun (y_4 : Int32) =>
    mm_ck (mm_inb (0 : Int32) v_limit.length) (mm_nm (mm_is v_limit (0 : Int32) y_4) (fun (l_6 : List Int32) =>
    some (y_2, y_2, l_6))))))) := rfl

set_option maxHeartbeats 4000000 in
set_option maxRecDepth 20000 in
theorem sf_X9_undo {N : Nat} (hN : 700 ≤ N) {v_done : Int32} {v_limit : List Int32} {v_changeWas : List Int32} (h_0 : 0 ≤ v_done.toInt) (h_1 : v_done.toInt ≤ 40) (h_2 : v_limit.length = 1) (h_3 : v_changeWas.length = 40) : wp (fX9_undo N v_done v_limit v_changeWas) (cu3 (fun (r : Int32) (wv_done : Int32) (wv_limit : List Int32) => 0 ≤ wv_done.toInt ∧ wv_done.toInt ≤ 40 ∧ wv_limit.length = 1 ∧ wv_done.toInt ≤ v_done.toInt)) := by
  refine wp_of (uf_X9_undo _ _ _ _) ?_
  have n_2 : (0 : Int32).toInt = 0 := by decide
  refine wp_if (fun c_1 => ?_) (fun c_1 => ?_)
  ·
    have dc_1 := i_eq c_1
    exact wp_so3 ⟨h_0, h_1, h_2, (by omega)⟩
  ·
    have dc_1 := i_ne c_1
    have n_3 : (1 : Int32).toInt = 1 := by decide
    refine wp_nm (fun y_2 h_y_2 => ?_)
    have e_4 := i_subE h_y_2.symm (by omega) (by omega)
    refine wp_ck (i_inb (by omega) (by omega)) ?_
    refine wp_nm (fun y_4 h_y_4 => ?_)
    have t_y_4 : y_4.toInt = ((mm_ig v_changeWas y_2)).toInt := by rw [h_y_4]
    refine wp_ck (i_inb (by omega) (by omega)) ?_
    refine wp_nm (fun l_6 h_l_6 => ?_)
    have nl_l_6 : l_6.length = 1 := by rw [h_l_6, is_len]; assumption
    exact wp_so3 ⟨(by omega), (by omega), nl_l_6, (by omega)⟩

theorem uf_X9_redo (N : Nat) (v_keptMany : Int32) (v_done : Int32) (v_limit : List Int32) (v_changeIs : List Int32) : fX9_redo N v_keptMany v_done v_limit v_changeIs = if v_done = v_keptMany then
    (some ((-5 : Int32), v_done, v_limit))
    else (mm_ck (mm_inb v_done v_changeIs.length) (mm_nm ((mm_ig v_changeIs v_done)) (fun (y_3 : Int32) =>
    mm_ck (mm_inb (0 : Int32) v_limit.length) (mm_nm (mm_is v_limit (0 : Int32) y_3) (fun (l_5 : List Int32) =>
    mm_nm ((v_done + (1 : Int32))) (fun (y_6 : Int32) =>
    some ((v_keptMany - y_6), y_6, l_5))))))) := rfl

set_option maxHeartbeats 4000000 in
set_option maxRecDepth 20000 in
theorem sf_X9_redo {N : Nat} (hN : 700 ≤ N) {v_keptMany : Int32} {v_done : Int32} {v_limit : List Int32} {v_changeIs : List Int32} (h_0 : 0 ≤ v_keptMany.toInt) (h_1 : v_keptMany.toInt ≤ 40) (h_2 : 0 ≤ v_done.toInt) (h_3 : v_done.toInt ≤ 40) (h_4 : v_limit.length = 1) (h_5 : v_changeIs.length = 40) (h_6 : v_done.toInt ≤ v_keptMany.toInt) : wp (fX9_redo N v_keptMany v_done v_limit v_changeIs) (cu3 (fun (r : Int32) (wv_done : Int32) (wv_limit : List Int32) => 0 ≤ wv_done.toInt ∧ wv_done.toInt ≤ 40 ∧ wv_limit.length = 1 ∧ wv_done.toInt ≤ v_keptMany.toInt)) := by
  refine wp_of (uf_X9_redo _ _ _ _ _) ?_
  refine wp_if (fun c_1 => ?_) (fun c_1 => ?_)
  ·
    have dc_1 := i_eq c_1
    exact wp_so3 ⟨h_2, h_3, h_4, h_6⟩
  ·
    have dc_1 := i_ne c_1
    refine wp_ck (i_inb (by omega) (by omega)) ?_
    refine wp_nm (fun y_3 h_y_3 => ?_)
    have t_y_3 : y_3.toInt = ((mm_ig v_changeIs v_done)).toInt := by rw [h_y_3]
    have n_2 : (0 : Int32).toInt = 0 := by decide
    refine wp_ck (i_inb (by omega) (by omega)) ?_
    refine wp_nm (fun l_5 h_l_5 => ?_)
    have nl_l_5 : l_5.length = 1 := by rw [h_l_5, is_len]; assumption
    have n_3 : (1 : Int32).toInt = 1 := by decide
    refine wp_nm (fun y_6 h_y_6 => ?_)
    have e_4 := i_addE h_y_6.symm (by omega) (by omega)
    exact wp_so3 ⟨(by omega), (by omega), nl_l_5, (by omega)⟩

theorem uf_X9_feed (N : Nat) (x1 : Int32) (v_tapeMany : Int32) (v_tape : List Int32) : fX9_feed N x1 v_tapeMany v_tape = mm_bd1 (fX9_within N ((x1).toInt64) (0 : Int64) (255 : Int64)) (fun (r_1 : Bool) =>
    if r_1 = false then
    (some ((-1 : Int32), v_tapeMany, v_tape))
    else (if v_tapeMany = (120 : Int32) then
    (some ((-3 : Int32), v_tapeMany, v_tape))
    else (mm_ck (mm_inb v_tapeMany v_tape.length) (mm_nm (mm_is v_tape v_tapeMany x1) (fun (l_6 : List Int32) =>
    mm_nm ((v_tapeMany + (1 : Int32))) (fun (y_7 : Int32) =>
    some (y_7, y_7, l_6))))))) := rfl

set_option maxHeartbeats 4000000 in
set_option maxRecDepth 20000 in
theorem sf_X9_feed {N : Nat} (hN : 700 ≤ N) {x1 : Int32} {v_tapeMany : Int32} {v_tape : List Int32} (h_0 : 0 ≤ v_tapeMany.toInt) (h_1 : v_tapeMany.toInt ≤ 120) (h_2 : v_tape.length = 120) : wp (fX9_feed N x1 v_tapeMany v_tape) (cu3 (fun (r : Int32) (wv_tapeMany : Int32) (wv_tape : List Int32) => 0 ≤ wv_tapeMany.toInt ∧ wv_tapeMany.toInt ≤ 120 ∧ wv_tape.length = 120)) := by
  refine wp_of (uf_X9_feed _ _ _ _) ?_
  have n_1 := i_64 x1
  have n_2 : (0 : Int64).toInt = 0 := by decide
  have n_3 : (255 : Int64).toInt = 255 := by decide
  refine wp_bd1 (sf_X9_within hN ) (fun r_1 q_4 => ?_)
  rcases q_4 with ⟨rfl, q_4⟩ | ⟨rfl, q_4⟩
  ·
    refine wp_ifn (by decide) ?_
    have n_6 : (120 : Int32).toInt = 120 := by decide
    refine wp_if (fun c_5 => ?_) (fun c_5 => ?_)
    ·
      have dc_5 := i_eq c_5
      exact wp_so3 ⟨h_0, h_1, h_2⟩
    ·
      have dc_5 := i_ne c_5
      refine wp_ck (i_inb (by omega) (by omega)) ?_
      refine wp_nm (fun l_6 h_l_6 => ?_)
      have nl_l_6 : l_6.length = 120 := by rw [h_l_6, is_len]; assumption
      have n_7 : (1 : Int32).toInt = 1 := by decide
      refine wp_nm (fun y_7 h_y_7 => ?_)
      have e_8 := i_addE h_y_7.symm (by omega) (by omega)
      exact wp_so3 ⟨(by omega), (by omega), nl_l_6⟩
  ·
    refine wp_ifp (by decide) ?_
    exact wp_so3 ⟨h_0, h_1, h_2⟩
end
