/-! texts -/
def fX9_goesDeeper_35 (N : Nat) (go : Int32 → Int32 → Int32 → Int32 → Int32 → Int32 → Int32 → Int32 → Int32 → Int32 → Int32 → Int32 → Int32 → Int32 → Int32 → Bool → Int32 → Int32 → Int32 → List Int32 → List Int32 → List Int32 → List Int32 → List Int32 → List Int32 → List Int32 → List Int32 → List Int32 → List Int32 → List Int32 → List Int32 → List Int32 → List Int32 → List Int32 → List Int32 → List Int32 → List Int32 → Option (Int32 × Int32 × Int32 × Int32 × Int32 × Int32 × Int32 × Int32 × Bool × Int32 × Int32 × Int32 × List Int32 × List Int32 × List Int32 × List Int32 × List Int32 × List Int32 × List Int32 × List Int32 × List Int32 × List Int32 × List Int32 × List Int32 × List Int32 × List Int32 × List Int32))  (x1 : Int32) (x2 : Int32) (x3 : Int32) (x4 : Int32) (v_rowsOf : Int32) (v_columnsOf : Int32) (v_textMany : Int32) (v_base : Int32) (v_at : Int32) (v_ends : Int32) (v_fault : Int32) (v_opened : Int32) (v_bentMany : Int32) (v_bentWrong : Int32) (v_moreWorn : Int32) (v_wishedField : Int32) (v_isFound : Bool) (v_bestWrong : Int32) (v_bestWorn : Int32) (v_bestMany : Int32) (v_limit : List Int32) (v_shapeRows : List Int32) (v_shapeColumns : List Int32) (v_row : List Int32) (v_column : List Int32) (v_below : List Int32) (v_face : List Int32) (v_worn : List Int32) (v_lastBend : List Int32) (v_tape : List Int32) (v_text : List Int32) (v_names : List Int32) (v_bends : List Int32) (v_high : List Int32) (v_to : List Int32) (v_pileSize : List Int32) (v_way1 : List Int32) (v_bestWay : List Int32) : Option (Int32 × Int32 × Int32 × Int32 × Int32 × Int32 × Int32 × Int32 × Bool × Int32 × Int32 × Int32 × List Int32 × List Int32 × List Int32 × List Int32 × List Int32 × List Int32 × List Int32 × List Int32 × List Int32 × List Int32 × List Int32 × List Int32 × List Int32 × List Int32 × List Int32) :=
    mm_ck (mm_inb x4 v_shapeRows.length) (mm_bd1 (fX9_halvings N (mm_ig v_shapeRows x4)) (fun (r_13 : Int32) =>
    mm_ck (mm_inb x4 v_shapeColumns.length) (mm_bd1 (fX9_halvings N (mm_ig v_shapeColumns x4)) (fun (r_16 : Int32) =>
    if (r_13 + r_16) ≤ ((3 : Int32) - x1) then
    (fX9_goesDeeper_66 N go N x1 x2 x3 x4 (1 : Int32) v_rowsOf v_columnsOf v_textMany v_base v_at v_ends v_fault v_opened v_bentMany v_bentWrong v_moreWorn v_wishedField v_isFound v_bestWrong v_bestWorn v_bestMany v_limit v_shapeRows v_shapeColumns v_row v_column v_below v_face v_worn v_lastBend v_tape v_text v_names v_bends v_high v_to v_pileSize v_way1 v_bestWay)
    else (some (v_base, v_at, v_ends, v_fault, v_opened, v_bentMany, v_bentWrong, v_moreWorn, v_isFound, v_bestWrong, v_bestWorn, v_bestMany, v_shapeRows, v_shapeColumns, v_row, v_column, v_below, v_face, v_worn, v_lastBend, v_names, v_bends, v_high, v_to, v_pileSize, v_way1, v_bestWay))))))

def fX9_goesDeepero (N : Nat) (go : Int32 → Int32 → Int32 → Int32 → Int32 → Int32 → Int32 → Int32 → Int32 → Int32 → Int32 → Int32 → Int32 → Int32 → Int32 → Bool → Int32 → Int32 → Int32 → List Int32 → List Int32 → List Int32 → List Int32 → List Int32 → List Int32 → List Int32 → List Int32 → List Int32 → List Int32 → List Int32 → List Int32 → List Int32 → List Int32 → List Int32 → List Int32 → List Int32 → List Int32 → Option (Int32 × Int32 × Int32 × Int32 × Int32 × Int32 × Int32 × Int32 × Bool × Int32 × Int32 × Int32 × List Int32 × List Int32 × List Int32 × List Int32 × List Int32 × List Int32 × List Int32 × List Int32 × List Int32 × List Int32 × List Int32 × List Int32 × List Int32 × List Int32 × List Int32)) (x1 : Int32) (x2 : Int32) (x3 : Int32) (v_rowsOf : Int32) (v_columnsOf : Int32) (v_textMany : Int32) (v_base : Int32) (v_at : Int32) (v_ends : Int32) (v_fault : Int32) (v_opened : Int32) (v_bentMany : Int32) (v_bentWrong : Int32) (v_moreWorn : Int32) (v_wishedField : Int32) (v_isFound : Bool) (v_bestWrong : Int32) (v_bestWorn : Int32) (v_bestMany : Int32) (v_limit : List Int32) (v_shapeRows : List Int32) (v_shapeColumns : List Int32) (v_row : List Int32) (v_column : List Int32) (v_below : List Int32) (v_face : List Int32) (v_worn : List Int32) (v_lastBend : List Int32) (v_tape : List Int32) (v_text : List Int32) (v_names : List Int32) (v_bends : List Int32) (v_high : List Int32) (v_to : List Int32) (v_pileSize : List Int32) (v_way1 : List Int32) (v_bestWay : List Int32) : Option (Int32 × Int32 × Int32 × Int32 × Int32 × Int32 × Int32 × Int32 × Bool × Int32 × Int32 × Int32 × List Int32 × List Int32 × List Int32 × List Int32 × List Int32 × List Int32 × List Int32 × List Int32 × List Int32 × List Int32 × List Int32 × List Int32 × List Int32 × List Int32 × List Int32) :=
    mm_nm ((x1 + (1 : Int32))) (fun (y_1 : Int32) =>
    mm_ck (mm_inb y_1 v_shapeRows.length) (if (mm_ig v_shapeRows y_1) = (1 : Int32) then
    (mm_ck (mm_inb y_1 v_shapeColumns.length) (if (mm_ig v_shapeColumns y_1) = (1 : Int32) then
    (mm_bd5 (fX9_ends1 N x1 x2 x3 v_rowsOf v_columnsOf v_wishedField v_isFound v_bestWrong v_bestWorn v_bestMany v_row v_column v_below v_way1 v_bestWay) (fun (w_6 : Bool) (w_7 : Int32) (w_8 : Int32) (w_9 : Int32) (w_10 : List Int32) =>
    some (v_base, v_at, v_ends, v_fault, v_opened, v_bentMany, v_bentWrong, v_moreWorn, w_6, w_7, w_8, w_9, v_shapeRows, v_shapeColumns, v_row, v_column, v_below, v_face, v_worn, v_lastBend, v_names, v_bends, v_high, v_to, v_pileSize, v_way1, w_10)))
    else (fX9_goesDeeper_35 N go x1 x2 x3 y_1 v_rowsOf v_columnsOf v_textMany v_base v_at v_ends v_fault v_opened v_bentMany v_bentWrong v_moreWorn v_wishedField v_isFound v_bestWrong v_bestWorn v_bestMany v_limit v_shapeRows v_shapeColumns v_row v_column v_below v_face v_worn v_lastBend v_tape v_text v_names v_bends v_high v_to v_pileSize v_way1 v_bestWay)))
    else (fX9_goesDeeper_35 N go x1 x2 x3 y_1 v_rowsOf v_columnsOf v_textMany v_base v_at v_ends v_fault v_opened v_bentMany v_bentWrong v_moreWorn v_wishedField v_isFound v_bestWrong v_bestWorn v_bestMany v_limit v_shapeRows v_shapeColumns v_row v_column v_below v_face v_worn v_lastBend v_tape v_text v_names v_bends v_high v_to v_pileSize v_way1 v_bestWay)))

def fX9_goesDeeper (N : Nat) : Nat → Int32 → Int32 → Int32 → Int32 → Int32 → Int32 → Int32 → Int32 → Int32 → Int32 → Int32 → Int32 → Int32 → Int32 → Int32 → Bool → Int32 → Int32 → Int32 → List Int32 → List Int32 → List Int32 → List Int32 → List Int32 → List Int32 → List Int32 → List Int32 → List Int32 → List Int32 → List Int32 → List Int32 → List Int32 → List Int32 → List Int32 → List Int32 → List Int32 → List Int32 → Option (Int32 × Int32 × Int32 × Int32 × Int32 × Int32 × Int32 × Int32 × Bool × Int32 × Int32 × Int32 × List Int32 × List Int32 × List Int32 × List Int32 × List Int32 × List Int32 × List Int32 × List Int32 × List Int32 × List Int32 × List Int32 × List Int32 × List Int32 × List Int32 × List Int32)
  | 0 => fun _ _ _ _ _ _ _ _ _ _ _ _ _ _ _ _ _ _ _ _ _ _ _ _ _ _ _ _ _ _ _ _ _ _ _ _ _ => none
  | M + 1 => fX9_goesDeepero N (fX9_goesDeeper N M)

def fX9_searches (N : Nat) (x1 : Int32) (v_rowsOf : Int32) (v_columnsOf : Int32) (v_textMany : Int32) (v_base : Int32) (v_at : Int32) (v_ends : Int32) (v_fault : Int32) (v_opened : Int32) (v_bentMany : Int32) (v_bentWrong : Int32) (v_moreWorn : Int32) (v_wishedField : Int32) (v_isFound : Bool) (v_bestWrong : Int32) (v_bestWorn : Int32) (v_bestMany : Int32) (v_limit : List Int32) (v_shapeRows : List Int32) (v_shapeColumns : List Int32) (v_row : List Int32) (v_column : List Int32) (v_below : List Int32) (v_face : List Int32) (v_worn : List Int32) (v_lastBend : List Int32) (v_tape : List Int32) (v_text : List Int32) (v_names : List Int32) (v_bends : List Int32) (v_high : List Int32) (v_to : List Int32) (v_pileSize : List Int32) (v_way1 : List Int32) (v_bestWay : List Int32) : Option (Int32 × Int32 × Int32 × Int32 × Int32 × Int32 × Int32 × Int32 × Int32 × Bool × Int32 × Int32 × Int32 × List Int32 × List Int32 × List Int32 × List Int32 × List Int32 × List Int32 × List Int32 × List Int32 × List Int32 × List Int32 × List Int32 × List Int32 × List Int32 × List Int32 × List Int32) :=
    mm_bd8 (fX9_startsAt N (1 : Int32) v_rowsOf v_columnsOf v_shapeRows v_shapeColumns v_row v_column v_below v_face v_worn v_lastBend) (fun (w_1 : List Int32) (w_2 : List Int32) (w_3 : List Int32) (w_4 : List Int32) (w_5 : List Int32) (w_6 : List Int32) (w_7 : List Int32) (w_8 : List Int32) =>
    mm_bd27 (fX9_goesDeeper N 5 (0 : Int32) (0 : Int32) (0 : Int32) v_rowsOf v_columnsOf v_textMany v_base v_at v_ends v_fault v_opened v_bentMany v_bentWrong v_moreWorn x1 false (0 : Int32) (0 : Int32) (0 : Int32) v_limit w_1 w_2 w_3 w_4 w_5 w_6 w_7 w_8 v_tape v_text v_names v_bends v_high v_to v_pileSize v_way1 v_bestWay) (fun (w_10 : Int32) (w_11 : Int32) (w_12 : Int32) (w_13 : Int32) (w_14 : Int32) (w_15 : Int32) (w_16 : Int32) (w_17 : Int32) (w_18 : Bool) (w_19 : Int32) (w_20 : Int32) (w_21 : Int32) (w_22 : List Int32) (w_23 : List Int32) (w_24 : List Int32) (w_25 : List Int32) (w_26 : List Int32) (w_27 : List Int32) (w_28 : List Int32) (w_29 : List Int32) (w_30 : List Int32) (w_31 : List Int32) (w_32 : List Int32) (w_33 : List Int32) (w_34 : List Int32) (w_35 : List Int32) (w_36 : List Int32) =>
    some (w_10, w_11, w_12, w_13, w_14, w_15, w_16, w_17, x1, w_18, w_19, w_20, w_21, w_22, w_23, w_24, w_25, w_26, w_27, w_28, w_29, w_30, w_31, w_32, w_33, w_34, w_35, w_36)))

def fX9_wished (N : Nat) (x1 : Int32) (x2 : Int32) (v_rowsOf : Int32) (v_columnsOf : Int32) (v_textMany : Int32) (v_base : Int32) (v_at : Int32) (v_ends : Int32) (v_fault : Int32) (v_opened : Int32) (v_bentMany : Int32) (v_bentWrong : Int32) (v_moreWorn : Int32) (v_wishedField : Int32) (v_isFound : Bool) (v_bestWrong : Int32) (v_bestWorn : Int32) (v_bestMany : Int32) (v_limit : List Int32) (v_shapeRows : List Int32) (v_shapeColumns : List Int32) (v_row : List Int32) (v_column : List Int32) (v_below : List Int32) (v_face : List Int32) (v_worn : List Int32) (v_lastBend : List Int32) (v_tape : List Int32) (v_text : List Int32) (v_names : List Int32) (v_bends : List Int32) (v_high : List Int32) (v_to : List Int32) (v_pileSize : List Int32) (v_way1 : List Int32) (v_bestWay : List Int32) : Option (Int32 × Int32 × Int32 × Int32 × Int32 × Int32 × Int32 × Int32 × Int32 × Int32 × Bool × Int32 × Int32 × Int32 × List Int32 × List Int32 × List Int32 × List Int32 × List Int32 × List Int32 × List Int32 × List Int32 × List Int32 × List Int32 × List Int32 × List Int32 × List Int32 × List Int32 × List Int32) :=
    mm_bd1 (fX9_isField N x1 v_rowsOf v_columnsOf) (fun (r_1 : Bool) =>
    if r_1 = false then
    (some ((-1 : Int32), v_base, v_at, v_ends, v_fault, v_opened, v_bentMany, v_bentWrong, v_moreWorn, v_wishedField, v_isFound, v_bestWrong, v_bestWorn, v_bestMany, v_shapeRows, v_shapeColumns, v_row, v_column, v_below, v_face, v_worn, v_lastBend, v_names, v_bends, v_high, v_to, v_pileSize, v_way1, v_bestWay))
    else (if (-1 : Int32) ≤ x2 then
    (mm_bd1 (fX9_fields N v_rowsOf v_columnsOf) (fun (r_5 : Int32) =>
    if r_5 ≤ (16 : Int32) then
    (mm_bd28 (fX9_searches N x1 v_rowsOf v_columnsOf v_textMany v_base v_at v_ends v_fault v_opened v_bentMany v_bentWrong v_moreWorn v_wishedField v_isFound v_bestWrong v_bestWorn v_bestMany v_limit v_shapeRows v_shapeColumns v_row v_column v_below v_face v_worn v_lastBend v_tape v_text v_names v_bends v_high v_to v_pileSize v_way1 v_bestWay) (fun (w_8 : Int32) (w_9 : Int32) (w_10 : Int32) (w_11 : Int32) (w_12 : Int32) (w_13 : Int32) (w_14 : Int32) (w_15 : Int32) (w_16 : Int32) (w_17 : Bool) (w_18 : Int32) (w_19 : Int32) (w_20 : Int32) (w_21 : List Int32) (w_22 : List Int32) (w_23 : List Int32) (w_24 : List Int32) (w_25 : List Int32) (w_26 : List Int32) (w_27 : List Int32) (w_28 : List Int32) (w_29 : List Int32) (w_30 : List Int32) (w_31 : List Int32) (w_32 : List Int32) (w_33 : List Int32) (w_34 : List Int32) (w_35 : List Int32) =>
    if w_17 = false then
    (some ((-2 : Int32), w_8, w_9, w_10, w_11, w_12, w_13, w_14, w_15, w_16, w_17, w_18, w_19, w_20, w_21, w_22, w_23, w_24, w_25, w_26, w_27, w_28, w_29, w_30, w_31, w_32, w_33, w_34, w_35))
    else (if x2 = (-1 : Int32) then
    (some (w_20, w_8, w_9, w_10, w_11, w_12, w_13, w_14, w_15, w_16, w_17, w_18, w_19, w_20, w_21, w_22, w_23, w_24, w_25, w_26, w_27, w_28, w_29, w_30, w_31, w_32, w_33, w_34, w_35))
    else (if w_20 ≤ x2 then
    (some ((-1 : Int32), w_8, w_9, w_10, w_11, w_12, w_13, w_14, w_15, w_16, w_17, w_18, w_19, w_20, w_21, w_22, w_23, w_24, w_25, w_26, w_27, w_28, w_29, w_30, w_31, w_32, w_33, w_34, w_35))
    else (mm_ck (mm_inb x2 w_35.length) (some ((mm_ig w_35 x2), w_8, w_9, w_10, w_11, w_12, w_13, w_14, w_15, w_16, w_17, w_18, w_19, w_20, w_21, w_22, w_23, w_24, w_25, w_26, w_27, w_28, w_29, w_30, w_31, w_32, w_33, w_34, w_35)))))))
    else (some ((-5 : Int32), v_base, v_at, v_ends, v_fault, v_opened, v_bentMany, v_bentWrong, v_moreWorn, v_wishedField, v_isFound, v_bestWrong, v_bestWorn, v_bestMany, v_shapeRows, v_shapeColumns, v_row, v_column, v_below, v_face, v_worn, v_lastBend, v_names, v_bends, v_high, v_to, v_pileSize, v_way1, v_bestWay))))
    else (some ((-1 : Int32), v_base, v_at, v_ends, v_fault, v_opened, v_bentMany, v_bentWrong, v_moreWorn, v_wishedField, v_isFound, v_bestWrong, v_bestWorn, v_bestMany, v_shapeRows, v_shapeColumns, v_row, v_column, v_below, v_face, v_worn, v_lastBend, v_names, v_bends, v_high, v_to, v_pileSize, v_way1, v_bestWay))))

def fX9_right (N : Nat) (x1 : Int32) (v_rowsOf : Int32) (v_columnsOf : Int32) (v_textMany : Int32) (v_base : Int32) (v_at : Int32) (v_ends : Int32) (v_fault : Int32) (v_opened : Int32) (v_bentMany : Int32) (v_bentWrong : Int32) (v_moreWorn : Int32) (v_wishedField : Int32) (v_isFound : Bool) (v_bestWrong : Int32) (v_bestWorn : Int32) (v_bestMany : Int32) (v_limit : List Int32) (v_shapeRows : List Int32) (v_shapeColumns : List Int32) (v_row : List Int32) (v_column : List Int32) (v_below : List Int32) (v_face : List Int32) (v_worn : List Int32) (v_lastBend : List Int32) (v_tape : List Int32) (v_text : List Int32) (v_names : List Int32) (v_bends : List Int32) (v_high : List Int32) (v_to : List Int32) (v_pileSize : List Int32) (v_way1 : List Int32) (v_bestWay : List Int32) : Option (Int32 × Int32 × Int32 × Int32 × Int32 × Int32 × Int32 × Int32 × Int32 × Int32 × Bool × Int32 × Int32 × Int32 × List Int32 × List Int32 × List Int32 × List Int32 × List Int32 × List Int32 × List Int32 × List Int32 × List Int32 × List Int32 × List Int32 × List Int32 × List Int32 × List Int32 × List Int32) :=
    if (-3 : Int32) ≤ x1 then
    (mm_bd1 (fX9_fields N v_rowsOf v_columnsOf) (fun (r_2 : Int32) =>
    if r_2 ≤ (16 : Int32) then
    (mm_bd28 (fX9_searches N (-1 : Int32) v_rowsOf v_columnsOf v_textMany v_base v_at v_ends v_fault v_opened v_bentMany v_bentWrong v_moreWorn v_wishedField v_isFound v_bestWrong v_bestWorn v_bestMany v_limit v_shapeRows v_shapeColumns v_row v_column v_below v_face v_worn v_lastBend v_tape v_text v_names v_bends v_high v_to v_pileSize v_way1 v_bestWay) (fun (w_5 : Int32) (w_6 : Int32) (w_7 : Int32) (w_8 : Int32) (w_9 : Int32) (w_10 : Int32) (w_11 : Int32) (w_12 : Int32) (w_13 : Int32) (w_14 : Bool) (w_15 : Int32) (w_16 : Int32) (w_17 : Int32) (w_18 : List Int32) (w_19 : List Int32) (w_20 : List Int32) (w_21 : List Int32) (w_22 : List Int32) (w_23 : List Int32) (w_24 : List Int32) (w_25 : List Int32) (w_26 : List Int32) (w_27 : List Int32) (w_28 : List Int32) (w_29 : List Int32) (w_30 : List Int32) (w_31 : List Int32) (w_32 : List Int32) =>
    if w_14 = false then
    (some ((-2 : Int32), w_5, w_6, w_7, w_8, w_9, w_10, w_11, w_12, w_13, w_14, w_15, w_16, w_17, w_18, w_19, w_20, w_21, w_22, w_23, w_24, w_25, w_26, w_27, w_28, w_29, w_30, w_31, w_32))
    else (if x1 = (-3 : Int32) then
    (some (w_17, w_5, w_6, w_7, w_8, w_9, w_10, w_11, w_12, w_13, w_14, w_15, w_16, w_17, w_18, w_19, w_20, w_21, w_22, w_23, w_24, w_25, w_26, w_27, w_28, w_29, w_30, w_31, w_32))
    else (if x1 = (-2 : Int32) then
    (some (w_16, w_5, w_6, w_7, w_8, w_9, w_10, w_11, w_12, w_13, w_14, w_15, w_16, w_17, w_18, w_19, w_20, w_21, w_22, w_23, w_24, w_25, w_26, w_27, w_28, w_29, w_30, w_31, w_32))
    else (if x1 = (-1 : Int32) then
    (some (w_15, w_5, w_6, w_7, w_8, w_9, w_10, w_11, w_12, w_13, w_14, w_15, w_16, w_17, w_18, w_19, w_20, w_21, w_22, w_23, w_24, w_25, w_26, w_27, w_28, w_29, w_30, w_31, w_32))
    else (if w_17 ≤ x1 then
    (some ((-1 : Int32), w_5, w_6, w_7, w_8, w_9, w_10, w_11, w_12, w_13, w_14, w_15, w_16, w_17, w_18, w_19, w_20, w_21, w_22, w_23, w_24, w_25, w_26, w_27, w_28, w_29, w_30, w_31, w_32))
    else (mm_ck (mm_inb x1 w_32.length) (some ((mm_ig w_32 x1), w_5, w_6, w_7, w_8, w_9, w_10, w_11, w_12, w_13, w_14, w_15, w_16, w_17, w_18, w_19, w_20, w_21, w_22, w_23, w_24, w_25, w_26, w_27, w_28, w_29, w_30, w_31, w_32)))))))))
    else (some ((-5 : Int32), v_base, v_at, v_ends, v_fault, v_opened, v_bentMany, v_bentWrong, v_moreWorn, v_wishedField, v_isFound, v_bestWrong, v_bestWorn, v_bestMany, v_shapeRows, v_shapeColumns, v_row, v_column, v_below, v_face, v_worn, v_lastBend, v_names, v_bends, v_high, v_to, v_pileSize, v_way1, v_bestWay))))
    else (some ((-1 : Int32), v_base, v_at, v_ends, v_fault, v_opened, v_bentMany, v_bentWrong, v_moreWorn, v_wishedField, v_isFound, v_bestWrong, v_bestWorn, v_bestMany, v_shapeRows, v_shapeColumns, v_row, v_column, v_below, v_face, v_worn, v_lastBend, v_names, v_bends, v_high, v_to, v_pileSize, v_way1, v_bestWay))

def fX9_wind_93 (N : Nat) (k_53 : Int32 → Int32 → Int32 → Int32 → Int32 → Int32 → Int32 → Int32 → Int32 → Int32 → Int32 → Int32 → Int32 → Int32 → Int32 → Int32 → Int32 → Int32 → Int32 → List Int32 → List Int32 → List Int32 → List Int32 → List Int32 → List Int32 → List Int32 → List Int32 → List Int32 → List Int32 → List Int32 → List Int32 → List Int32 → List Int32 → List Int32 → List Int32 → List Int32 → List Int32 → Option (Int32 × Int32 × Int32 × Int32 × Int32 × Int32 × Int32 × Int32 × Int32 × Int32 × Int32 × Int32 × List Int32 × List Int32 × List Int32 × List Int32 × List Int32 × List Int32 × List Int32 × List Int32 × List Int32 × List Int32 × List Int32 × List Int32 × List Int32)) (x2 : Int32) (x3 : Int32) (x5 : Int32) (s0 : Int32) (s1 : Int32) (v_rowsOf : Int32) (v_columnsOf : Int32) (v_textMany : Int32) (v_base : Int32) (v_at : Int32) (v_ends : Int32) (v_fault : Int32) (v_opened : Int32) (v_bentMany : Int32) (v_bentWrong : Int32) (v_moreWorn : Int32) (v_planned : Int32) (v_allWrong : Int32) (v_allWorn : Int32) (v_z : Int32) (v_limit : List Int32) (v_shapeRows : List Int32) (v_shapeColumns : List Int32) (v_row : List Int32) (v_column : List Int32) (v_below : List Int32) (v_face : List Int32) (v_worn : List Int32) (v_lastBend : List Int32) (v_tape : List Int32) (v_text : List Int32) (v_names : List Int32) (v_bends : List Int32) (v_high : List Int32) (v_to : List Int32) (v_pileSize : List Int32) (v_planLine : List Int32) (v_planWay : List Int32) : Option (Int32 × Int32 × Int32 × Int32 × Int32 × Int32 × Int32 × Int32 × Int32 × Int32 × Int32 × Int32 × List Int32 × List Int32 × List Int32 × List Int32 × List Int32 × List Int32 × List Int32 × List Int32 × List Int32 × List Int32 × List Int32 × List Int32 × List Int32) :=
    mm_nm ((s1 + s0)) (fun (y_43 : Int32) =>
    mm_nm (x5 + (1 : Int32)) (fun (y_44 : Int32) =>
    k_53 x2 x3 y_43 y_44 v_rowsOf v_columnsOf v_textMany v_base v_at v_ends v_fault v_opened v_bentMany v_bentWrong v_moreWorn v_planned v_allWrong v_allWorn v_z v_limit v_shapeRows v_shapeColumns v_row v_column v_below v_face v_worn v_lastBend v_tape v_text v_names v_bends v_high v_to v_pileSize v_planLine v_planWay))

def fX9_wind_53 (N : Nat)  : Nat → Int32 → Int32 → Int32 → Int32 → Int32 → Int32 → Int32 → Int32 → Int32 → Int32 → Int32 → Int32 → Int32 → Int32 → Int32 → Int32 → Int32 → Int32 → Int32 → List Int32 → List Int32 → List Int32 → List Int32 → List Int32 → List Int32 → List Int32 → List Int32 → List Int32 → List Int32 → List Int32 → List Int32 → List Int32 → List Int32 → List Int32 → List Int32 → List Int32 → List Int32 → Option (Int32 × Int32 × Int32 × Int32 × Int32 × Int32 × Int32 × Int32 × Int32 × Int32 × Int32 × Int32 × List Int32 × List Int32 × List Int32 × List Int32 × List Int32 × List Int32 × List Int32 × List Int32 × List Int32 × List Int32 × List Int32 × List Int32 × List Int32)
  | 0 => fun _ _ _ _ _ _ _ _ _ _ _ _ _ _ _ _ _ _ _ _ _ _ _ _ _ _ _ _ _ _ _ _ _ _ _ _ _ => none
  | n + 1 => fun x2 x3 x4 x5 v_rowsOf v_columnsOf v_textMany v_base v_at v_ends v_fault v_opened v_bentMany v_bentWrong v_moreWorn v_planned v_allWrong v_allWorn v_z v_limit v_shapeRows v_shapeColumns v_row v_column v_below v_face v_worn v_lastBend v_tape v_text v_names v_bends v_high v_to v_pileSize v_planLine v_planWay =>
    mm_ck (mm_nz (1000 : Int32)) (if (x2 / (1000 : Int32)) ≤ x5 then
    (mm_ck (mm_nz (1000 : Int32)) (mm_ck (mm_nz (x2 / (1000 : Int32))) (some ((x4 / (x2 / (1000 : Int32))), v_base, v_at, v_ends, v_fault, v_opened, v_bentMany, v_bentWrong, v_moreWorn, v_allWrong, v_allWorn, v_z, v_shapeRows, v_shapeColumns, v_row, v_column, v_below, v_face, v_worn, v_lastBend, v_names, v_bends, v_high, v_to, v_pileSize))))
    else (mm_ck (mm_nz (1000 : Int32)) (mm_bd25 (fX9_goesPlan N (12 : Int32) (mm_rem x2 (1000 : Int32)) v_rowsOf v_columnsOf v_textMany v_base v_at v_ends v_fault v_opened v_bentMany v_bentWrong v_moreWorn v_planned v_allWrong v_allWorn v_z v_limit v_shapeRows v_shapeColumns v_row v_column v_below v_face v_worn v_lastBend v_tape v_text v_names v_bends v_high v_to v_pileSize v_planLine v_planWay) (fun (r_16 : Int32) (w_17 : Int32) (w_18 : Int32) (w_19 : Int32) (w_20 : Int32) (w_21 : Int32) (w_22 : Int32) (w_23 : Int32) (w_24 : Int32) (w_25 : Int32) (w_26 : Int32) (w_27 : Int32) (w_28 : List Int32) (w_29 : List Int32) (w_30 : List Int32) (w_31 : List Int32) (w_32 : List Int32) (w_33 : List Int32) (w_34 : List Int32) (w_35 : List Int32) (w_36 : List Int32) (w_37 : List Int32) (w_38 : List Int32) (w_39 : List Int32) (w_40 : List Int32) =>
    if x3 = 0 then
    (fX9_wind_93 N (fX9_wind_53 N n) x2 x3 x5 w_25 x4 v_rowsOf v_columnsOf v_textMany w_17 w_18 w_19 w_20 w_21 w_22 w_23 w_24 v_planned w_25 w_26 w_27 v_limit w_28 w_29 w_30 w_31 w_32 w_33 w_34 w_35 v_tape v_text w_36 w_37 w_38 w_39 w_40 v_planLine v_planWay)
    else (fX9_wind_93 N (fX9_wind_53 N n) x2 x3 x5 w_26 x4 v_rowsOf v_columnsOf v_textMany w_17 w_18 w_19 w_20 w_21 w_22 w_23 w_24 v_planned w_25 w_26 w_27 v_limit w_28 w_29 w_30 w_31 w_32 w_33 w_34 w_35 v_tape v_text w_36 w_37 w_38 w_39 w_40 v_planLine v_planWay)))))

def fX9_wind (N : Nat) (x1 : Int32) (x2 : Int32) (x3 : Int32) (v_rowsOf : Int32) (v_columnsOf : Int32) (v_textMany : Int32) (v_base : Int32) (v_at : Int32) (v_ends : Int32) (v_fault : Int32) (v_opened : Int32) (v_bentMany : Int32) (v_bentWrong : Int32) (v_moreWorn : Int32) (v_planned : Int32) (v_allWrong : Int32) (v_allWorn : Int32) (v_z : Int32) (v_limit : List Int32) (v_shapeRows : List Int32) (v_shapeColumns : List Int32) (v_row : List Int32) (v_column : List Int32) (v_below : List Int32) (v_face : List Int32) (v_worn : List Int32) (v_lastBend : List Int32) (v_tape : List Int32) (v_text : List Int32) (v_names : List Int32) (v_bends : List Int32) (v_high : List Int32) (v_to : List Int32) (v_pileSize : List Int32) (v_planLine : List Int32) (v_planWay : List Int32) : Option (Int32 × Int32 × Int32 × Int32 × Int32 × Int32 × Int32 × Int32 × Int32 × Int32 × Int32 × Int32 × List Int32 × List Int32 × List Int32 × List Int32 × List Int32 × List Int32 × List Int32 × List Int32 × List Int32 × List Int32 × List Int32 × List Int32 × List Int32) :=
    if x2 < 0 then
    (some ((-1 : Int32), v_base, v_at, v_ends, v_fault, v_opened, v_bentMany, v_bentWrong, v_moreWorn, v_allWrong, v_allWorn, v_z, v_shapeRows, v_shapeColumns, v_row, v_column, v_below, v_face, v_worn, v_lastBend, v_names, v_bends, v_high, v_to, v_pileSize))
    else (mm_ck (mm_nz (1000 : Int32)) (mm_bd1 (fX9_within N ((x2 / (1000 : Int32)).toInt64) (1 : Int64) (20 : Int64)) (fun (r_3 : Bool) =>
    if r_3 = false then
    (some ((-1 : Int32), v_base, v_at, v_ends, v_fault, v_opened, v_bentMany, v_bentWrong, v_moreWorn, v_allWrong, v_allWorn, v_z, v_shapeRows, v_shapeColumns, v_row, v_column, v_below, v_face, v_worn, v_lastBend, v_names, v_bends, v_high, v_to, v_pileSize))
    else (mm_ck (mm_nz (1000 : Int32)) (if (100 : Int32) < (mm_rem x2 (1000 : Int32)) then
    (some ((-1 : Int32), v_base, v_at, v_ends, v_fault, v_opened, v_bentMany, v_bentWrong, v_moreWorn, v_allWrong, v_allWorn, v_z, v_shapeRows, v_shapeColumns, v_row, v_column, v_below, v_face, v_worn, v_lastBend, v_names, v_bends, v_high, v_to, v_pileSize))
    else (mm_bd1 (fX9_within N ((x3).toInt64) (0 : Int64) (1 : Int64)) (fun (r_8 : Bool) =>
    if r_8 = false then
    (some ((-1 : Int32), v_base, v_at, v_ends, v_fault, v_opened, v_bentMany, v_bentWrong, v_moreWorn, v_allWrong, v_allWorn, v_z, v_shapeRows, v_shapeColumns, v_row, v_column, v_below, v_face, v_worn, v_lastBend, v_names, v_bends, v_high, v_to, v_pileSize))
    else (fX9_wind_53 N N x2 x3 (0 : Int32) (0 : Int32) v_rowsOf v_columnsOf v_textMany v_base v_at v_ends v_fault v_opened v_bentMany v_bentWrong v_moreWorn v_planned v_allWrong v_allWorn x1 v_limit v_shapeRows v_shapeColumns v_row v_column v_below v_face v_worn v_lastBend v_tape v_text v_names v_bends v_high v_to v_pileSize v_planLine v_planWay))))))))

def fX9_isStrip (N : Nat) (x0 : Int32) : Option (Bool) :=
    mm_bd1 (fX9_within N ((x0).toInt64) (2 : Int64) (7 : Int64)) (fun (r_1 : Bool) =>
    some (r_1))

def fX9_isOrder_10 (N : Nat)  : Nat → Int32 → Int32 → Int32 → Int32 → List Int32 → List Int32 → Option (Bool × List Int32 × List Int32)
  | 0 => fun _ _ _ _ _ _ => none
  | n + 1 => fun x1 x3 x4 x5 v_order1 v_placeIn =>
    if x5 < 0 then
    (if x4 = 0 then
    (some (true, v_order1, v_placeIn))
    else (some (false, v_order1, v_placeIn)))
    else (mm_ck (mm_nz (10 : Int32)) (mm_nm (((mm_rem x4 (10 : Int32)) - (1 : Int32))) (fun (y_5 : Int32) =>
    if x4 ≤ 0 then
    (some (false, v_order1, v_placeIn))
    else (mm_bd1 (fX9_within N ((y_5).toInt64) (0 : Int64) ((x1 - (1 : Int32)).toInt64)) (fun (r_7 : Bool) =>
    if r_7 = false then
    (some (false, v_order1, v_placeIn))
    else (if ((x3 >>> (y_5 &&& 31)) &&& (1 : Int32)) = (1 : Int32) then
    (some (false, v_order1, v_placeIn))
    else (mm_nm ((x3 ||| ((1 : Int32) <<< (y_5 &&& 31)))) (fun (y_11 : Int32) =>
    mm_ck (mm_inb x5 v_order1.length) (mm_nm (mm_is v_order1 x5 y_5) (fun (l_13 : List Int32) =>
    mm_ck (mm_inb y_5 v_placeIn.length) (mm_nm (mm_is v_placeIn y_5 x5) (fun (l_15 : List Int32) =>
    mm_ck (mm_nz (10 : Int32)) (mm_nm ((x4 / (10 : Int32))) (fun (y_17 : Int32) =>
    mm_nm (x5 + (-1 : Int32)) (fun (y_18 : Int32) =>
    fX9_isOrder_10 N n x1 y_11 y_17 y_18 l_13 l_15)))))))))))))))

def fX9_isOrder (N : Nat) (x1 : Int32) (x2 : Int32) (v_order1 : List Int32) (v_placeIn : List Int32) : Option (Bool × List Int32 × List Int32) :=
    mm_nm ((x1 - (1 : Int32))) (fun (y_1 : Int32) =>
    fX9_isOrder_10 N N x1 (0 : Int32) x2 y_1 v_order1 v_placeIn)

def fX9_isInside (N : Nat) (x1 : Int32) (x2 : Int32) (v_placeIn : List Int32) : Option (Bool) :=
    mm_ck (mm_inb x2 v_placeIn.length) (mm_nm ((mm_ig v_placeIn x2)) (fun (y_2 : Int32) =>
    mm_ck (mm_inb (x2 + (1 : Int32)) v_placeIn.length) (mm_nm ((mm_ig v_placeIn (x2 + (1 : Int32)))) (fun (y_4 : Int32) =>
    if y_4 ≤ y_2 then
    (if x1 ≤ y_4 then
    (some (false))
    else (if y_2 ≤ x1 then
    (some (false))
    else (some (true))))
    else (if x1 ≤ y_2 then
    (some (false))
    else (if y_4 ≤ x1 then
    (some (false))
    else (some (true))))))))

def fX9_areCrossed (N : Nat) (x1 : Int32) (x2 : Int32) (v_placeIn : List Int32) : Option (Bool) :=
    mm_ck (mm_inb x2 v_placeIn.length) (mm_bd1 (fX9_isInside N (mm_ig v_placeIn x2) x1 v_placeIn) (fun (r_2 : Bool) =>
    mm_ck (mm_inb (x2 + (1 : Int32)) v_placeIn.length) (mm_bd1 (fX9_isInside N (mm_ig v_placeIn (x2 + (1 : Int32))) x1 v_placeIn) (fun (r_5 : Bool) =>
    if (mm_b r_2) = (mm_b r_5) then
    (some (false))
    else (mm_ck (mm_inb x1 v_placeIn.length) (mm_bd1 (fX9_isInside N (mm_ig v_placeIn x1) x2 v_placeIn) (fun (r_9 : Bool) =>
    mm_ck (mm_inb (x1 + (1 : Int32)) v_placeIn.length) (mm_bd1 (fX9_isInside N (mm_ig v_placeIn (x1 + (1 : Int32))) x2 v_placeIn) (fun (r_12 : Bool) =>
    if (mm_b r_9) = (mm_b r_12) then
    (some (false))
    else (some (true)))))))))))

def fX9_firstCross_13 (N : Nat) (k_2 : Int32 → Int32 → List Int32 → Option (Int32)) : Nat → Int32 → Int32 → Int32 → List Int32 → Option (Int32)
  | 0 => fun _ _ _ _ => none
  | n + 1 => fun x1 x2 x3 v_placeIn =>
    if x1 ≤ (x3 + (1 : Int32)) then
    (mm_nm (x2 + (1 : Int32)) (fun (y_4 : Int32) =>
    k_2 x1 y_4 v_placeIn))
    else (mm_bd1 (fX9_areCrossed N x2 x3 v_placeIn) (fun (r_5 : Bool) =>
    if r_5 = false then
    (mm_nm (x3 + (2 : Int32)) (fun (y_8 : Int32) =>
    fX9_firstCross_13 N k_2 n x1 x2 y_8 v_placeIn))
    else (some ((((10 : Int32) * x2) + x3)))))

def fX9_firstCross_2 (N : Nat)  : Nat → Int32 → Int32 → List Int32 → Option (Int32)
  | 0 => fun _ _ _ => none
  | n + 1 => fun x1 x2 v_placeIn =>
    if x1 ≤ (x2 + (1 : Int32)) then
    (some ((-2 : Int32)))
    else (mm_nm ((x2 + (2 : Int32))) (fun (y_2 : Int32) =>
    fX9_firstCross_13 N (fX9_firstCross_2 N n) N x1 x2 y_2 v_placeIn))

def fX9_firstCross (N : Nat) (x1 : Int32) (v_placeIn : List Int32) : Option (Int32) :=
    fX9_firstCross_2 N N x1 (0 : Int32) v_placeIn

def fX9_crosses (N : Nat) (x1 : Int32) (x2 : Int32) (v_order1 : List Int32) (v_placeIn : List Int32) : Option (Int32 × List Int32 × List Int32) :=
    mm_bd1 (fX9_isStrip N x1) (fun (r_1 : Bool) =>
    if r_1 = false then
    (some ((-1 : Int32), v_order1, v_placeIn))
    else (mm_bd3 (fX9_isOrder N x1 x2 v_order1 v_placeIn) (fun (r_4 : Bool) (w_5 : List Int32) (w_6 : List Int32) =>
    if r_4 = false then
    (some ((-1 : Int32), w_5, w_6))
    else (mm_bd1 (fX9_firstCross N x1 w_6) (fun (r_9 : Int32) =>
    some (r_9, w_5, w_6))))))

def fX9_bendsOf_59 (N : Nat) (k_4 : Int32 → Int32 → Int32 → List Int32 → Option (Int32)) (x1 : Int32) (x3 : Int32) (s0 : Int32) (s1 : Int32) (v_placeIn : List Int32) : Option (Int32) :=
    mm_nm ((s1 ||| s0)) (fun (y_8 : Int32) =>
    mm_nm (x3 + (1 : Int32)) (fun (y_9 : Int32) =>
    k_4 x1 y_8 y_9 v_placeIn))

def fX9_bendsOf_49 (N : Nat) (k_4 : Int32 → Int32 → Int32 → List Int32 → Option (Int32)) (x1 : Int32) (x3 : Int32) (s0 : Int32) (s1 : Int32) (s2 : Int32) (v_placeIn : List Int32) : Option (Int32) :=
    if s1 = s0 then
    (fX9_bendsOf_59 N k_4 x1 x3 ((1 : Int32) <<< (x3 &&& 31)) s2 v_placeIn)
    else (fX9_bendsOf_59 N k_4 x1 x3 (0 : Int32) s2 v_placeIn)

def fX9_bendsOf_33 (N : Nat) (k_4 : Int32 → Int32 → Int32 → List Int32 → Option (Int32)) (x1 : Int32) (x2 : Int32) (x3 : Int32) (s0 : Int32) (v_placeIn : List Int32) : Option (Int32) :=
    mm_ck (mm_nz (2 : Int32)) (if (mm_rem x3 (2 : Int32)) = 0 then
    (fX9_bendsOf_49 N k_4 x1 x3 (1 : Int32) s0 x2 v_placeIn)
    else (fX9_bendsOf_49 N k_4 x1 x3 (0 : Int32) s0 x2 v_placeIn))

def fX9_bendsOf_4 (N : Nat)  : Nat → Int32 → Int32 → Int32 → List Int32 → Option (Int32)
  | 0 => fun _ _ _ _ => none
  | n + 1 => fun x1 x2 x3 v_placeIn =>
    if x1 ≤ (x3 + (1 : Int32)) then
    (some (x2))
    else (mm_ck (mm_inb x3 v_placeIn.length) (mm_ck (mm_inb (x3 + (1 : Int32)) v_placeIn.length) (if (mm_ig v_placeIn (x3 + (1 : Int32))) ≤ (mm_ig v_placeIn x3) then
    (fX9_bendsOf_33 N (fX9_bendsOf_4 N n) x1 x2 x3 (0 : Int32) v_placeIn)
    else (fX9_bendsOf_33 N (fX9_bendsOf_4 N n) x1 x2 x3 (1 : Int32) v_placeIn))))

def fX9_bendsOf (N : Nat) (x1 : Int32) (v_placeIn : List Int32) : Option (Int32) :=
    fX9_bendsOf_4 N N x1 (0 : Int32) (0 : Int32) v_placeIn

def fX9_bends (N : Nat) (x1 : Int32) (x2 : Int32) (v_order1 : List Int32) (v_placeIn : List Int32) : Option (Int32 × List Int32 × List Int32) :=
    mm_bd1 (fX9_isStrip N x1) (fun (r_1 : Bool) =>
    if r_1 = false then
    (some ((-1 : Int32), v_order1, v_placeIn))
    else (mm_bd3 (fX9_isOrder N x1 x2 v_order1 v_placeIn) (fun (r_4 : Bool) (w_5 : List Int32) (w_6 : List Int32) =>
    if r_4 = false then
    (some ((-1 : Int32), w_5, w_6))
    else (mm_bd1 (fX9_firstCross N x1 w_6) (fun (r_9 : Int32) =>
    if r_9 < 0 then
    (mm_bd1 (fX9_bendsOf N x1 w_6) (fun (r_12 : Int32) =>
    some (r_12, w_5, w_6)))
    else (some ((-5 : Int32), w_5, w_6)))))))

def fX9_looksAt_90 (N : Nat)  (s0 : Int32) (v_soughtBy : Int32) (v_sought : Int32) (v_soughtAt : Int32) (v_foundMany : Int32) (v_foundOrder : Int32) (v_order1 : List Int32) (v_placeIn : List Int32) : Option (Int32 × Int32) :=
    mm_nm ((v_foundMany + (1 : Int32))) (fun (y_14 : Int32) =>
    some (y_14, s0))

def fX9_looksAt_64 (N : Nat)  (x2 : Int32) (s0 : Int32) (v_soughtBy : Int32) (v_sought : Int32) (v_soughtAt : Int32) (v_foundMany : Int32) (v_foundOrder : Int32) (v_order1 : List Int32) (v_placeIn : List Int32) : Option (Int32 × Int32) :=
    if s0 = 0 then
    (some (v_foundMany, v_foundOrder))
    else (if v_foundMany = v_soughtAt then
    (fX9_looksAt_90 N x2 v_soughtBy v_sought v_soughtAt v_foundMany v_foundOrder v_order1 v_placeIn)
    else (fX9_looksAt_90 N v_foundOrder v_soughtBy v_sought v_soughtAt v_foundMany v_foundOrder v_order1 v_placeIn))

def fX9_looksAt_59 (N : Nat)  (x2 : Int32) (v_soughtBy : Int32) (v_sought : Int32) (v_soughtAt : Int32) (v_foundMany : Int32) (v_foundOrder : Int32) (v_order1 : List Int32) (v_placeIn : List Int32) : Option (Int32 × Int32) :=
    fX9_looksAt_64 N x2 (1 : Int32) v_soughtBy v_sought v_soughtAt v_foundMany v_foundOrder v_order1 v_placeIn

def fX9_looksAt_63 (N : Nat)  (x2 : Int32) (v_soughtBy : Int32) (v_sought : Int32) (v_soughtAt : Int32) (v_foundMany : Int32) (v_foundOrder : Int32) (v_order1 : List Int32) (v_placeIn : List Int32) : Option (Int32 × Int32) :=
    fX9_looksAt_64 N x2 (0 : Int32) v_soughtBy v_sought v_soughtAt v_foundMany v_foundOrder v_order1 v_placeIn

def fX9_looksAt_36 (N : Nat)  (x1 : Int32) (x2 : Int32) (v_soughtBy : Int32) (v_sought : Int32) (v_soughtAt : Int32) (v_foundMany : Int32) (v_foundOrder : Int32) (v_order1 : List Int32) (v_placeIn : List Int32) : Option (Int32 × Int32) :=
    if v_soughtBy = (2 : Int32) then
    (mm_ck (mm_inb (x1 - (1 : Int32)) v_order1.length) (if (mm_ig v_order1 (x1 - (1 : Int32))) = v_sought then
    (fX9_looksAt_59 N x2 v_soughtBy v_sought v_soughtAt v_foundMany v_foundOrder v_order1 v_placeIn)
    else (fX9_looksAt_63 N x2 v_soughtBy v_sought v_soughtAt v_foundMany v_foundOrder v_order1 v_placeIn)))
    else (fX9_looksAt_63 N x2 v_soughtBy v_sought v_soughtAt v_foundMany v_foundOrder v_order1 v_placeIn)

def fX9_looksAt (N : Nat) (x1 : Int32) (x2 : Int32) (v_soughtBy : Int32) (v_sought : Int32) (v_soughtAt : Int32) (v_foundMany : Int32) (v_foundOrder : Int32) (v_order1 : List Int32) (v_placeIn : List Int32) : Option (Int32 × Int32) :=
    mm_bd1 (fX9_firstCross N x1 v_placeIn) (fun (r_1 : Int32) =>
    if r_1 < 0 then
    (if v_soughtBy = 0 then
    (fX9_looksAt_59 N x2 v_soughtBy v_sought v_soughtAt v_foundMany v_foundOrder v_order1 v_placeIn)
    else (if v_soughtBy = (1 : Int32) then
    (mm_bd1 (fX9_bendsOf N x1 v_placeIn) (fun (r_6 : Int32) =>
    if r_6 = v_sought then
    (fX9_looksAt_59 N x2 v_soughtBy v_sought v_soughtAt v_foundMany v_foundOrder v_order1 v_placeIn)
    else (fX9_looksAt_36 N x1 x2 v_soughtBy v_sought v_soughtAt v_foundMany v_foundOrder v_order1 v_placeIn)))
    else (fX9_looksAt_36 N x1 x2 v_soughtBy v_sought v_soughtAt v_foundMany v_foundOrder v_order1 v_placeIn)))
    else (some (v_foundMany, v_foundOrder)))

def fX9_goesOrders_71 (N : Nat) (go : Int32 → Int32 → Int32 → Int32 → Int32 → Int32 → Int32 → Int32 → Int32 → List Int32 → List Int32 → Option (Int32 × Int32 × List Int32 × List Int32)) (k_16 : Int32 → Int32 → Int32 → Int32 → Int32 → Int32 → Int32 → Int32 → Int32 → Int32 → List Int32 → List Int32 → Option (Int32 × Int32 × List Int32 × List Int32)) (x1 : Int32) (x2 : Int32) (x3 : Int32) (x4 : Int32) (x5 : Int32) (v_soughtBy : Int32) (v_sought : Int32) (v_soughtAt : Int32) (v_foundMany : Int32) (v_foundOrder : Int32) (v_order1 : List Int32) (v_placeIn : List Int32) : Option (Int32 × Int32 × List Int32 × List Int32) :=
    mm_nm (x5 + (1 : Int32)) (fun (y_16 : Int32) =>
    k_16 x1 x2 x3 x4 y_16 v_soughtBy v_sought v_soughtAt v_foundMany v_foundOrder v_order1 v_placeIn)

def fX9_goesOrders_16 (N : Nat) (go : Int32 → Int32 → Int32 → Int32 → Int32 → Int32 → Int32 → Int32 → Int32 → List Int32 → List Int32 → Option (Int32 × Int32 × List Int32 × List Int32))  : Nat → Int32 → Int32 → Int32 → Int32 → Int32 → Int32 → Int32 → Int32 → Int32 → Int32 → List Int32 → List Int32 → Option (Int32 × Int32 × List Int32 × List Int32)
  | 0 => fun _ _ _ _ _ _ _ _ _ _ _ _ => none
  | n + 1 => fun x1 x2 x3 x4 x5 v_soughtBy v_sought v_soughtAt v_foundMany v_foundOrder v_order1 v_placeIn =>
    if x1 ≤ x5 then
    (some (v_foundMany, v_foundOrder, v_order1, v_placeIn))
    else (if ((x3 >>> (x5 &&& 31)) &&& (1 : Int32)) = 0 then
    (mm_ck (mm_inb x2 v_order1.length) (mm_nm (mm_is v_order1 x2 x5) (fun (l_8 : List Int32) =>
    mm_ck (mm_inb x5 v_placeIn.length) (mm_nm (mm_is v_placeIn x5 x2) (fun (l_10 : List Int32) =>
    mm_bd4 (go x1 (x2 + (1 : Int32)) (x3 ||| ((1 : Int32) <<< (x5 &&& 31))) ((((10 : Int32) * x4) + x5) + (1 : Int32)) v_soughtBy v_sought v_soughtAt v_foundMany v_foundOrder l_8 l_10) (fun (w_11 : Int32) (w_12 : Int32) (w_13 : List Int32) (w_14 : List Int32) =>
    fX9_goesOrders_71 N go (fX9_goesOrders_16 N go n) x1 x2 x3 x4 x5 v_soughtBy v_sought v_soughtAt w_11 w_12 w_13 w_14))))))
    else (fX9_goesOrders_71 N go (fX9_goesOrders_16 N go n) x1 x2 x3 x4 x5 v_soughtBy v_sought v_soughtAt v_foundMany v_foundOrder v_order1 v_placeIn))

def fX9_goesOrderso (N : Nat) (go : Int32 → Int32 → Int32 → Int32 → Int32 → Int32 → Int32 → Int32 → Int32 → List Int32 → List Int32 → Option (Int32 × Int32 × List Int32 × List Int32)) (x1 : Int32) (x2 : Int32) (x3 : Int32) (x4 : Int32) (v_soughtBy : Int32) (v_sought : Int32) (v_soughtAt : Int32) (v_foundMany : Int32) (v_foundOrder : Int32) (v_order1 : List Int32) (v_placeIn : List Int32) : Option (Int32 × Int32 × List Int32 × List Int32) :=
    if x2 = x1 then
    (mm_bd2 (fX9_looksAt N x1 x4 v_soughtBy v_sought v_soughtAt v_foundMany v_foundOrder v_order1 v_placeIn) (fun (w_2 : Int32) (w_3 : Int32) =>
    some (w_2, w_3, v_order1, v_placeIn)))
    else (fX9_goesOrders_16 N go N x1 x2 x3 x4 (0 : Int32) v_soughtBy v_sought v_soughtAt v_foundMany v_foundOrder v_order1 v_placeIn)

def fX9_goesOrders (N : Nat) : Nat → Int32 → Int32 → Int32 → Int32 → Int32 → Int32 → Int32 → Int32 → Int32 → List Int32 → List Int32 → Option (Int32 × Int32 × List Int32 × List Int32)
  | 0 => fun _ _ _ _ _ _ _ _ _ _ _ => none
  | M + 1 => fX9_goesOrderso N (fX9_goesOrders N M)

def fX9_seeks (N : Nat) (x1 : Int32) (x2 : Int32) (x3 : Int32) (x4 : Int32) (v_soughtBy : Int32) (v_sought : Int32) (v_soughtAt : Int32) (v_foundMany : Int32) (v_foundOrder : Int32) (v_order1 : List Int32) (v_placeIn : List Int32) : Option (Int32 × Int32 × Int32 × Int32 × Int32 × List Int32 × List Int32) :=
    mm_bd4 (fX9_goesOrders N 9 x1 (0 : Int32) (0 : Int32) (0 : Int32) x2 x3 x4 (0 : Int32) (-1 : Int32) v_order1 v_placeIn) (fun (w_1 : Int32) (w_2 : Int32) (w_3 : List Int32) (w_4 : List Int32) =>
    some (x2, x3, x4, w_1, w_2, w_3, w_4))

def fX9_orders (N : Nat) (x1 : Int32) (x2 : Int32) (v_soughtBy : Int32) (v_sought : Int32) (v_soughtAt : Int32) (v_foundMany : Int32) (v_foundOrder : Int32) (v_order1 : List Int32) (v_placeIn : List Int32) : Option (Int32 × Int32 × Int32 × Int32 × Int32 × Int32 × List Int32 × List Int32) :=
    mm_bd1 (fX9_isStrip N x1) (fun (r_1 : Bool) =>
    if r_1 = false then
    (some ((-1 : Int32), v_soughtBy, v_sought, v_soughtAt, v_foundMany, v_foundOrder, v_order1, v_placeIn))
    else (if (-1 : Int32) ≤ x2 then
    (mm_bd7 (fX9_seeks N x1 (0 : Int32) (0 : Int32) x2 v_soughtBy v_sought v_soughtAt v_foundMany v_foundOrder v_order1 v_placeIn) (fun (w_5 : Int32) (w_6 : Int32) (w_7 : Int32) (w_8 : Int32) (w_9 : Int32) (w_10 : List Int32) (w_11 : List Int32) =>
    if x2 = (-1 : Int32) then
    (some (w_8, w_5, w_6, w_7, w_8, w_9, w_10, w_11))
    else (some (w_9, w_5, w_6, w_7, w_8, w_9, w_10, w_11))))
    else (some ((-1 : Int32), v_soughtBy, v_sought, v_soughtAt, v_foundMany, v_foundOrder, v_order1, v_placeIn))))

def fX9_by (N : Nat) (x1 : Int32) (x2 : Int32) (x3 : Int32) (v_soughtBy : Int32) (v_sought : Int32) (v_soughtAt : Int32) (v_foundMany : Int32) (v_foundOrder : Int32) (v_order1 : List Int32) (v_placeIn : List Int32) : Option (Int32 × Int32 × Int32 × Int32 × Int32 × Int32 × List Int32 × List Int32) :=
    mm_bd1 (fX9_isStrip N x1) (fun (r_1 : Bool) =>
    if r_1 = false then
    (some ((-1 : Int32), v_soughtBy, v_sought, v_soughtAt, v_foundMany, v_foundOrder, v_order1, v_placeIn))
    else (mm_bd1 (fX9_within N ((x2).toInt64) (0 : Int64) ((((1 : Int32) <<< ((x1 - (1 : Int32)) &&& 31)) - (1 : Int32)).toInt64)) (fun (r_4 : Bool) =>
    if r_4 = false then
    (some ((-1 : Int32), v_soughtBy, v_sought, v_soughtAt, v_foundMany, v_foundOrder, v_order1, v_placeIn))
    else (mm_bd1 (fX9_within N ((x3).toInt64) (0 : Int64) (1 : Int64)) (fun (r_7 : Bool) =>
    if r_7 = false then
    (some ((-1 : Int32), v_soughtBy, v_sought, v_soughtAt, v_foundMany, v_foundOrder, v_order1, v_placeIn))
    else (mm_bd7 (fX9_seeks N x1 (1 : Int32) x2 (0 : Int32) v_soughtBy v_sought v_soughtAt v_foundMany v_foundOrder v_order1 v_placeIn) (fun (w_10 : Int32) (w_11 : Int32) (w_12 : Int32) (w_13 : Int32) (w_14 : Int32) (w_15 : List Int32) (w_16 : List Int32) =>
    if x3 = 0 then
    (some (w_13, w_10, w_11, w_12, w_13, w_14, w_15, w_16))
    else (if w_13 = 0 then
    (some ((-2 : Int32), w_10, w_11, w_12, w_13, w_14, w_15, w_16))
    else (some (w_14, w_10, w_11, w_12, w_13, w_14, w_15, w_16))))))))))

def fX9_with (N : Nat) (x1 : Int32) (x2 : Int32) (v_soughtBy : Int32) (v_sought : Int32) (v_soughtAt : Int32) (v_foundMany : Int32) (v_foundOrder : Int32) (v_order1 : List Int32) (v_placeIn : List Int32) : Option (Int32 × Int32 × Int32 × Int32 × Int32 × Int32 × List Int32 × List Int32) :=
    mm_bd1 (fX9_isStrip N x1) (fun (r_1 : Bool) =>
    if r_1 = false then
    (some ((-1 : Int32), v_soughtBy, v_sought, v_soughtAt, v_foundMany, v_foundOrder, v_order1, v_placeIn))
    else (mm_bd1 (fX9_within N ((x2).toInt64) (0 : Int64) ((x1 - (1 : Int32)).toInt64)) (fun (r_4 : Bool) =>
    if r_4 = false then
    (some ((-1 : Int32), v_soughtBy, v_sought, v_soughtAt, v_foundMany, v_foundOrder, v_order1, v_placeIn))
    else (mm_bd7 (fX9_seeks N x1 (2 : Int32) x2 (0 : Int32) v_soughtBy v_sought v_soughtAt v_foundMany v_foundOrder v_order1 v_placeIn) (fun (w_7 : Int32) (w_8 : Int32) (w_9 : Int32) (w_10 : Int32) (w_11 : Int32) (w_12 : List Int32) (w_13 : List Int32) =>
    some (w_10, w_7, w_8, w_9, w_10, w_11, w_12, w_13))))))

def fX9_image (N : Nat) (v_rowsOf : Int32) (v_columnsOf : Int32) (v_folded : Int32) (v_wronged : Int32) (v_isKept : Bool) (v_imageRows : Int32) (v_imageColumns : Int32) (v_imageFolded : Int32) (v_imageWronged : Int32) (v_shapeRows : List Int32) (v_shapeColumns : List Int32) (v_row : List Int32) (v_column : List Int32) (v_below : List Int32) (v_face : List Int32) (v_worn : List Int32) (v_lastBend : List Int32) : Option (Int32 × Bool × Int32 × Int32 × Int32 × Int32 × List Int32 × List Int32 × List Int32 × List Int32 × List Int32 × List Int32 × List Int32 × List Int32) :=
    mm_bd8 (fX9_copies N (0 : Int32) (5 : Int32) v_shapeRows v_shapeColumns v_row v_column v_below v_face v_worn v_lastBend) (fun (w_1 : List Int32) (w_2 : List Int32) (w_3 : List Int32) (w_4 : List Int32) (w_5 : List Int32) (w_6 : List Int32) (w_7 : List Int32) (w_8 : List Int32) =>
    some (v_folded, true, v_rowsOf, v_columnsOf, v_folded, v_wronged, w_1, w_2, w_3, w_4, w_5, w_6, w_7, w_8))

def fX9_back (N : Nat) (v_rowsOf : Int32) (v_columnsOf : Int32) (v_folded : Int32) (v_wronged : Int32) (v_isKept : Bool) (v_imageRows : Int32) (v_imageColumns : Int32) (v_imageFolded : Int32) (v_imageWronged : Int32) (v_shapeRows : List Int32) (v_shapeColumns : List Int32) (v_row : List Int32) (v_column : List Int32) (v_below : List Int32) (v_face : List Int32) (v_worn : List Int32) (v_lastBend : List Int32) : Option (Int32 × Int32 × Int32 × Int32 × Int32 × List Int32 × List Int32 × List Int32 × List Int32 × List Int32 × List Int32 × List Int32 × List Int32) :=
    if v_isKept = false then
    (some ((-5 : Int32), v_rowsOf, v_columnsOf, v_folded, v_wronged, v_shapeRows, v_shapeColumns, v_row, v_column, v_below, v_face, v_worn, v_lastBend))
    else (mm_bd8 (fX9_copies N (5 : Int32) (0 : Int32) v_shapeRows v_shapeColumns v_row v_column v_below v_face v_worn v_lastBend) (fun (w_2 : List Int32) (w_3 : List Int32) (w_4 : List Int32) (w_5 : List Int32) (w_6 : List Int32) (w_7 : List Int32) (w_8 : List Int32) (w_9 : List Int32) =>
    some (v_imageFolded, v_imageRows, v_imageColumns, v_imageFolded, v_imageWronged, w_2, w_3, w_4, w_5, w_6, w_7, w_8, w_9)))

def fX9_isBody (N : Nat) (x1 : Int32) (v_bodies : Int32) : Option (Bool) :=
    mm_bd1 (fX9_within N ((x1).toInt64) (0 : Int64) ((v_bodies - (1 : Int32)).toInt64)) (fun (r_1 : Bool) =>
    some (r_1))

def fX9_kindOf (N : Nat) (x1 : Int32) (v_bodyKind : List Int32) : Option (Int32) :=
    mm_ck (mm_inb x1 v_bodyKind.length) (some ((mm_ig v_bodyKind x1)))

def fX9_body (N : Nat) (x1 : Int32) (v_bodies : Int32) (v_bodyKind : List Int32) : Option (Int32 × Int32 × List Int32) :=
    mm_bd1 (fX9_within N ((x1).toInt64) (0 : Int64) (7 : Int64)) (fun (r_1 : Bool) =>
    if r_1 = false then
    (some ((-1 : Int32), v_bodies, v_bodyKind))
    else (if v_bodies = (50 : Int32) then
    (some ((-3 : Int32), v_bodies, v_bodyKind))
    else (mm_ck (mm_inb v_bodies v_bodyKind.length) (mm_nm (mm_is v_bodyKind v_bodies x1) (fun (l_6 : List Int32) =>
    mm_nm ((v_bodies + (1 : Int32))) (fun (y_7 : Int32) =>
    some ((y_7 - (1 : Int32)), y_7, l_6)))))))

def fX9_above (N : Nat) (x0 : Int32) : Option (Int32) :=
    if x0 = (3 : Int32) then
    (some ((2 : Int32)))
    else (if x0 = (5 : Int32) then
    (some ((3 : Int32)))
    else (if x0 = (6 : Int32) then
    (some ((1 : Int32)))
    else (if x0 = (7 : Int32) then
    (some ((4 : Int32)))
    else (some ((0 : Int32))))))

def fX9_begins_19 (N : Nat)  (v_ran : Int32) (v_trace : List Int32) : Option (Int32 × List Int32) :=
    mm_nm ((v_ran + (1 : Int32))) (fun (y_4 : Int32) =>
    some (y_4, v_trace))

def fX9_begins (N : Nat) (x1 : Int32) (v_ran : Int32) (v_trace : List Int32) : Option (Int32 × List Int32) :=
    if (24 : Int32) ≤ v_ran then
    (fX9_begins_19 N v_ran v_trace)
    else (mm_ck (mm_inb v_ran v_trace.length) (mm_nm (mm_is v_trace v_ran x1) (fun (l_3 : List Int32) =>
    fX9_begins_19 N v_ran l_3)))

def fX9_foldsAso (N : Nat) (go : Int32 → Int32 → Int32 → Int32 → List Int32 → Option (Int32 × Int32 × List Int32)) (x1 : Int32) (x2 : Int32) (v_ran : Int32) (v_ownNumber : Int32) (v_trace : List Int32) : Option (Int32 × Int32 × List Int32) :=
    if x1 = (6 : Int32) then
    (mm_bd2 (fX9_begins N (70 : Int32) v_ran v_trace) (fun (w_13 : Int32) (w_14 : List Int32) =>
    mm_bd3 (go (1 : Int32) x2 w_13 v_ownNumber w_14) (fun (r_16 : Int32) (w_17 : Int32) (w_18 : List Int32) =>
    some ((r_16 * (2 : Int32)), w_17, w_18))))
    else (if x1 = (1 : Int32) then
    (mm_bd2 (fX9_begins N (20 : Int32) v_ran v_trace) (fun (w_6 : Int32) (w_7 : List Int32) =>
    mm_bd3 (go (0 : Int32) x2 w_6 v_ownNumber w_7) (fun (r_9 : Int32) (w_10 : Int32) (w_11 : List Int32) =>
    some ((r_9 + (3 : Int32)), w_10, w_11))))
    else (mm_bd2 (fX9_begins N (1 : Int32) v_ran v_trace) (fun (w_3 : Int32) (w_4 : List Int32) =>
    some ((x2 + v_ownNumber), w_3, w_4))))

def fX9_foldsAs (N : Nat) : Nat → Int32 → Int32 → Int32 → Int32 → List Int32 → Option (Int32 × Int32 × List Int32)
  | 0 => fun _ _ _ _ _ => none
  | M + 1 => fX9_foldsAso N (fX9_foldsAs N M)

def fX9_wearsAs_10 (N : Nat) (go : Int32 → Int32 → Int32 → Int32 → Int32 → List Int32 → Option (Int32 × Int32 × List Int32))  (x2 : Int32) (v_ran : Int32) (v_ownKind : Int32) (v_ownNumber : Int32) (v_trace : List Int32) : Option (Int32 × Int32 × List Int32) :=
    mm_bd2 (fX9_begins N (40 : Int32) v_ran v_trace) (fun (w_19 : Int32) (w_20 : List Int32) =>
    mm_bd3 (go (2 : Int32) x2 w_19 v_ownKind v_ownNumber w_20) (fun (r_22 : Int32) (w_23 : Int32) (w_24 : List Int32) =>
    some ((r_22 * (3 : Int32)), w_23, w_24)))

def fX9_wearsAs_36 (N : Nat) (go : Int32 → Int32 → Int32 → Int32 → Int32 → List Int32 → Option (Int32 × Int32 × List Int32))  (x2 : Int32) (v_ran : Int32) (v_ownKind : Int32) (v_ownNumber : Int32) (v_trace : List Int32) : Option (Int32 × Int32 × List Int32) :=
    mm_bd2 (fX9_begins N (50 : Int32) v_ran v_trace) (fun (w_8 : Int32) (w_9 : List Int32) =>
    mm_bd3 (go (0 : Int32) x2 w_8 v_ownKind v_ownNumber w_9) (fun (r_11 : Int32) (w_12 : Int32) (w_13 : List Int32) =>
    mm_bd3 (fX9_foldsAs N 4 v_ownKind (2 : Int32) w_12 v_ownNumber w_13) (fun (r_15 : Int32) (w_16 : Int32) (w_17 : List Int32) =>
    some ((r_11 - r_15), w_16, w_17))))

def fX9_wearsAso (N : Nat) (go : Int32 → Int32 → Int32 → Int32 → Int32 → List Int32 → Option (Int32 × Int32 × List Int32)) (x1 : Int32) (x2 : Int32) (v_ran : Int32) (v_ownKind : Int32) (v_ownNumber : Int32) (v_trace : List Int32) : Option (Int32 × Int32 × List Int32) :=
    if x1 = (3 : Int32) then
    (fX9_wearsAs_10 N go x2 v_ran v_ownKind v_ownNumber v_trace)
    else (if x1 = (5 : Int32) then
    (fX9_wearsAs_10 N go x2 v_ran v_ownKind v_ownNumber v_trace)
    else (if x1 = (4 : Int32) then
    (fX9_wearsAs_36 N go x2 v_ran v_ownKind v_ownNumber v_trace)
    else (if x1 = (7 : Int32) then
    (fX9_wearsAs_36 N go x2 v_ran v_ownKind v_ownNumber v_trace)
    else (mm_bd2 (fX9_begins N (11 : Int32) v_ran v_trace) (fun (w_5 : Int32) (w_6 : List Int32) =>
    some ((x2 ^^^ v_ownNumber), w_5, w_6))))))

def fX9_wearsAs (N : Nat) : Nat → Int32 → Int32 → Int32 → Int32 → Int32 → List Int32 → Option (Int32 × Int32 × List Int32)
  | 0 => fun _ _ _ _ _ _ => none
  | M + 1 => fX9_wearsAso N (fX9_wearsAs N M)

def fX9_laysAs_10 (N : Nat) (go : Int32 → Int32 → Int32 → Int32 → Int32 → List Int32 → Option (Int32 × Int32 × List Int32))  (x2 : Int32) (v_ran : Int32) (v_ownKind : Int32) (v_ownNumber : Int32) (v_trace : List Int32) : Option (Int32 × Int32 × List Int32) :=
    mm_bd2 (fX9_begins N (41 : Int32) v_ran v_trace) (fun (w_30 : Int32) (w_31 : List Int32) =>
    mm_bd3 (go (2 : Int32) (x2 + (1 : Int32)) w_30 v_ownKind v_ownNumber w_31) (fun (r_33 : Int32) (w_34 : Int32) (w_35 : List Int32) =>
    some (r_33, w_34, w_35)))

def fX9_laysAso (N : Nat) (go : Int32 → Int32 → Int32 → Int32 → Int32 → List Int32 → Option (Int32 × Int32 × List Int32)) (x1 : Int32) (x2 : Int32) (v_ran : Int32) (v_ownKind : Int32) (v_ownNumber : Int32) (v_trace : List Int32) : Option (Int32 × Int32 × List Int32) :=
    if x1 = (3 : Int32) then
    (fX9_laysAs_10 N go x2 v_ran v_ownKind v_ownNumber v_trace)
    else (if x1 = (5 : Int32) then
    (fX9_laysAs_10 N go x2 v_ran v_ownKind v_ownNumber v_trace)
    else (if x1 = (2 : Int32) then
    (mm_bd2 (fX9_begins N (30 : Int32) v_ran v_trace) (fun (w_23 : Int32) (w_24 : List Int32) =>
    mm_bd3 (go (0 : Int32) x2 w_23 v_ownKind v_ownNumber w_24) (fun (r_26 : Int32) (w_27 : Int32) (w_28 : List Int32) =>
    some ((-r_26), w_27, w_28))))
    else (if x1 = (7 : Int32) then
    (mm_bd2 (fX9_begins N (80 : Int32) v_ran v_trace) (fun (w_12 : Int32) (w_13 : List Int32) =>
    mm_bd3 (go (4 : Int32) x2 w_12 v_ownKind v_ownNumber w_13) (fun (r_15 : Int32) (w_16 : Int32) (w_17 : List Int32) =>
    mm_bd3 (fX9_wearsAs N 4 v_ownKind (2 : Int32) w_16 v_ownKind v_ownNumber w_17) (fun (r_19 : Int32) (w_20 : Int32) (w_21 : List Int32) =>
    some ((r_15 + r_19), w_20, w_21)))))
    else (mm_bd2 (fX9_begins N (10 : Int32) v_ran v_trace) (fun (w_5 : Int32) (w_6 : List Int32) =>
    mm_bd3 (fX9_foldsAs N 4 v_ownKind x2 w_5 v_ownNumber w_6) (fun (r_8 : Int32) (w_9 : Int32) (w_10 : List Int32) =>
    some ((r_8 * (2 : Int32)), w_9, w_10)))))))

def fX9_laysAs (N : Nat) : Nat → Int32 → Int32 → Int32 → Int32 → Int32 → List Int32 → Option (Int32 × Int32 × List Int32)
  | 0 => fun _ _ _ _ _ _ => none
  | M + 1 => fX9_laysAso N (fX9_laysAs N M)

def fX9_tellsAso (N : Nat) (go : Int32 → Int32 → Int32 → Int32 → Int32 → List Int32 → Option (Int32 × Int32 × List Int32)) (x1 : Int32) (x2 : Int32) (v_ran : Int32) (v_ownKind : Int32) (v_ownNumber : Int32) (v_trace : List Int32) : Option (Int32 × Int32 × List Int32) :=
    if x1 = (5 : Int32) then
    (mm_bd2 (fX9_begins N (60 : Int32) v_ran v_trace) (fun (w_21 : Int32) (w_22 : List Int32) =>
    mm_bd3 (go (3 : Int32) x2 w_21 v_ownKind v_ownNumber w_22) (fun (r_24 : Int32) (w_25 : Int32) (w_26 : List Int32) =>
    some ((r_24 ^^^ (5 : Int32)), w_25, w_26))))
    else (if x1 = (7 : Int32) then
    (mm_bd2 (fX9_begins N (81 : Int32) v_ran v_trace) (fun (w_14 : Int32) (w_15 : List Int32) =>
    mm_bd3 (go (4 : Int32) x2 w_14 v_ownKind v_ownNumber w_15) (fun (r_17 : Int32) (w_18 : Int32) (w_19 : List Int32) =>
    some ((r_17 - (1 : Int32)), w_18, w_19))))
    else (mm_bd2 (fX9_begins N (2 : Int32) v_ran v_trace) (fun (w_3 : Int32) (w_4 : List Int32) =>
    mm_bd3 (fX9_laysAs N 5 v_ownKind x2 w_3 v_ownKind v_ownNumber w_4) (fun (r_6 : Int32) (w_7 : Int32) (w_8 : List Int32) =>
    mm_bd3 (fX9_wearsAs N 4 v_ownKind (1 : Int32) w_7 v_ownKind v_ownNumber w_8) (fun (r_10 : Int32) (w_11 : Int32) (w_12 : List Int32) =>
    some ((r_6 - r_10), w_11, w_12))))))

def fX9_tellsAs (N : Nat) : Nat → Int32 → Int32 → Int32 → Int32 → Int32 → List Int32 → Option (Int32 × Int32 × List Int32)
  | 0 => fun _ _ _ _ _ _ => none
  | M + 1 => fX9_tellsAso N (fX9_tellsAs N M)

def fX9_act (N : Nat) (x1 : Int32) (x2 : Int32) (x3 : Int32) (v_bodies : Int32) (v_ran : Int32) (v_ownKind : Int32) (v_ownNumber : Int32) (v_bodyKind : List Int32) (v_trace : List Int32) : Option (Int32 × Int32 × Int32 × Int32 × List Int32) :=
    mm_bd1 (fX9_isBody N x1 v_bodies) (fun (r_1 : Bool) =>
    if r_1 = false then
    (some ((0 : Int32), (0 : Int32), v_ownKind, v_ownNumber, v_trace))
    else (mm_ck (mm_inb x1 v_bodyKind.length) (mm_nm ((mm_ig v_bodyKind x1)) (fun (y_5 : Int32) =>
    if x2 = (0 : Int32) then
    (mm_bd3 (fX9_foldsAs N 4 y_5 x3 (0 : Int32) x1 v_trace) (fun (r_7 : Int32) (w_8 : Int32) (w_9 : List Int32) =>
    some (r_7, w_8, y_5, x1, w_9)))
    else (if x2 = (1 : Int32) then
    (mm_bd3 (fX9_laysAs N 5 y_5 x3 (0 : Int32) y_5 x1 v_trace) (fun (r_12 : Int32) (w_13 : Int32) (w_14 : List Int32) =>
    some (r_12, w_13, y_5, x1, w_14)))
    else (if x2 = (2 : Int32) then
    (mm_bd3 (fX9_wearsAs N 4 y_5 x3 (0 : Int32) y_5 x1 v_trace) (fun (r_17 : Int32) (w_18 : Int32) (w_19 : List Int32) =>
    some (r_17, w_18, y_5, x1, w_19)))
    else (if x2 = (3 : Int32) then
    (mm_bd3 (fX9_tellsAs N 4 y_5 x3 (0 : Int32) y_5 x1 v_trace) (fun (r_22 : Int32) (w_23 : Int32) (w_24 : List Int32) =>
    some (r_22, w_23, y_5, x1, w_24)))
    else (some ((0 : Int32), (0 : Int32), y_5, x1, v_trace)))))))))

def fX9_trace (N : Nat) (x1 : Int32) (v_ran : Int32) (v_trace : List Int32) : Option (Int32) :=
    if x1 < 0 then
    (some ((-1 : Int32)))
    else (if v_ran ≤ x1 then
    (some ((-1 : Int32)))
    else (if (24 : Int32) ≤ x1 then
    (some ((-1 : Int32)))
    else (mm_ck (mm_inb x1 v_trace.length) (some ((mm_ig v_trace x1))))))

def fX9_keep_22 (N : Nat)  (x1 : Int32) (x2 : Int32) (v_bodies : Int32) (v_shelf : List Int32) (v_many : List Int32) : Option (Int32 × List Int32 × List Int32) :=
    mm_ck (mm_inb x1 v_shelf.length) (mm_nm (mm_is v_shelf x1 x2) (fun (l_9 : List Int32) =>
    mm_ck (mm_inb x1 v_many.length) (mm_nm (mm_is v_many x1 (0 : Int32)) (fun (l_11 : List Int32) =>
    some ((1 : Int32), l_9, l_11)))))

def fX9_keep (N : Nat) (x1 : Int32) (x2 : Int32) (v_bodies : Int32) (v_shelf : List Int32) (v_many : List Int32) : Option (Int32 × List Int32 × List Int32) :=
    mm_bd1 (fX9_isShelf N x1) (fun (r_1 : Bool) =>
    if r_1 = false then
    (some ((-1 : Int32), v_shelf, v_many))
    else (if x2 = (-1 : Int32) then
    (fX9_keep_22 N x1 x2 v_bodies v_shelf v_many)
    else (mm_bd1 (fX9_isBody N x2 v_bodies) (fun (r_5 : Bool) =>
    if r_5 = false then
    (some ((-1 : Int32), v_shelf, v_many))
    else (fX9_keep_22 N x1 x2 v_bodies v_shelf v_many)))))

def fX9_row_57 (N : Nat)  : Nat → Int32 → Int32 → List Int32 → List Int32 → List Int64 → Option (Int32 × List Int32 × List Int32 × List Int64)
  | 0 => fun _ _ _ _ _ => none
  | n + 1 => fun x1 x4 v_shelf v_many v_items =>
    if (((60 : Int32) * x1) + (60 : Int32)) ≤ x4 then
    (some ((1 : Int32), v_shelf, v_many, v_items))
    else (mm_ck (mm_inb x4 v_items.length) (mm_nm (mm_ls v_items x4 (0 : Int64)) (fun (l_17 : List Int64) =>
    mm_nm (x4 + (1 : Int32)) (fun (y_18 : Int32) =>
    fX9_row_57 N n x1 y_18 v_shelf v_many l_17))))

def fX9_row (N : Nat) (x1 : Int32) (x2 : Int32) (x3 : Int32) (v_shelf : List Int32) (v_many : List Int32) (v_items : List Int64) : Option (Int32 × List Int32 × List Int32 × List Int64) :=
    mm_bd1 (fX9_isShelf N x1) (fun (r_1 : Bool) =>
    if r_1 = false then
    (some ((-1 : Int32), v_shelf, v_many, v_items))
    else (mm_bd1 (fX9_within N ((x2).toInt64) (0 : Int64) (4 : Int64)) (fun (r_4 : Bool) =>
    if r_4 = false then
    (some ((-1 : Int32), v_shelf, v_many, v_items))
    else (if x3 ≤ (60 : Int32) then
    (if 0 ≤ x3 then
    (mm_nm (((50 : Int32) + x2)) (fun (y_9 : Int32) =>
    mm_ck (mm_inb x1 v_shelf.length) (mm_nm (mm_is v_shelf x1 y_9) (fun (l_11 : List Int32) =>
    mm_ck (mm_inb x1 v_many.length) (mm_nm (mm_is v_many x1 x3) (fun (l_13 : List Int32) =>
    mm_nm (((60 : Int32) * x1)) (fun (y_14 : Int32) =>
    fX9_row_57 N N x1 y_14 l_11 l_13 v_items)))))))
    else (some ((-14 : Int32), v_shelf, v_many, v_items)))
    else (some ((-1 : Int32), v_shelf, v_many, v_items))))))

def fX9_refusal (N : Nat) (x1 : Int32) (x2 : Int32) (v_shelf : List Int32) (v_many : List Int32) : Option (Int32) :=
    mm_bd1 (fX9_isShelf N x1) (fun (r_1 : Bool) =>
    if r_1 = false then
    (some ((-1 : Int32)))
    else (mm_ck (mm_inb x1 v_shelf.length) (if 0 ≤ (mm_ig v_shelf x1) then
    (mm_ck (mm_inb x1 v_shelf.length) (if (50 : Int32) ≤ (mm_ig v_shelf x1) then
    (if x2 < 0 then
    (some ((-13 : Int32)))
    else (mm_ck (mm_inb x1 v_many.length) (if (mm_ig v_many x1) ≤ x2 then
    (some ((-13 : Int32)))
    else (some ((0 : Int32))))))
    else (some ((-12 : Int32)))))
    else (some ((-11 : Int32))))))

def fX9_asSort (N : Nat) (x0 : Int32) (x1 : Int64) : Option (Int64) :=
    if x0 = 0 then
    (some ((((x1.toInt32).toInt8.toInt32).toInt64)))
    else (if x0 = (1 : Int32) then
    (some ((((x1.toInt32).toInt16.toInt32).toInt64)))
    else (if x0 = (2 : Int32) then
    (some (((x1.toInt32).toInt64)))
    else (if x0 = (4 : Int32) then
    (if (lg_cmp x1 (0 : Int64)) = 0 then
    (some ((0 : Int64)))
    else (some ((1 : Int64))))
    else (some (x1)))))

def fX9_put_37 (N : Nat)  (x5 : Int32) (v_shelf : List Int32) (v_many : List Int32) (v_items : List Int64) : Option (Int32 × List Int64) :=
    if x5 = 0 then
    (some ((1 : Int32), v_items))
    else (some (x5, v_items))

def fX9_put (N : Nat) (x1 : Int32) (x2 : Int32) (x3 : Int64) (v_shelf : List Int32) (v_many : List Int32) (v_items : List Int64) : Option (Int32 × List Int64) :=
    mm_bd1 (fX9_refusal N x1 x2 v_shelf v_many) (fun (r_1 : Int32) =>
    if r_1 = 0 then
    (mm_ck (mm_inb x1 v_shelf.length) (mm_bd1 (fX9_asSort N ((mm_ig v_shelf x1) - (50 : Int32)) x3) (fun (r_5 : Int64) =>
    mm_ck (mm_inb (((60 : Int32) * x1) + x2) v_items.length) (mm_nm (mm_ls v_items (((60 : Int32) * x1) + x2) r_5) (fun (l_8 : List Int64) =>
    fX9_put_37 N r_1 v_shelf v_many l_8)))))
    else (fX9_put_37 N r_1 v_shelf v_many v_items))

def fX9_element (N : Nat) (x1 : Int32) (x2 : Int32) (v_shelf : List Int32) (v_many : List Int32) (v_items : List Int64) : Option (Int64) :=
    mm_bd1 (fX9_refusal N x1 x2 v_shelf v_many) (fun (r_1 : Int32) =>
    if r_1 = 0 then
    (mm_ck (mm_inb (((60 : Int32) * x1) + x2) v_items.length) (some ((mm_lg v_items (((60 : Int32) * x1) + x2)))))
    else (some ((-9223372036854775808 : Int64))))

def fX9_shift_150 (N : Nat)  : Nat → Int32 → Int32 → Int32 → Int32 → List Int32 → List Int32 → List Int64 → List Int64 → Option (Int32 × List Int64 × List Int64)
  | 0 => fun _ _ _ _ _ _ _ _ => none
  | n + 1 => fun x3 x4 x5 x6 v_shelf v_many v_items v_carried =>
    if x5 ≤ x6 then
    (some (x5, v_items, v_carried))
    else (mm_ck (mm_inb x6 v_carried.length) (mm_nm ((mm_lg v_carried x6)) (fun (y_31 : Int64) =>
    mm_ck (mm_inb ((((60 : Int32) * x3) + x4) + x6) v_items.length) (mm_nm (mm_ls v_items ((((60 : Int32) * x3) + x4) + x6) y_31) (fun (l_33 : List Int64) =>
    mm_nm (x6 + (1 : Int32)) (fun (y_34 : Int32) =>
    fX9_shift_150 N n x3 x4 x5 y_34 v_shelf v_many l_33 v_carried))))))

def fX9_shift_113 (N : Nat)  : Nat → Int32 → Int32 → Int32 → Int32 → Int32 → Int32 → List Int32 → List Int32 → List Int64 → List Int64 → Option (Int32 × List Int64 × List Int64)
  | 0 => fun _ _ _ _ _ _ _ _ _ _ => none
  | n + 1 => fun x1 x2 x3 x4 x5 x6 v_shelf v_many v_items v_carried =>
    if x5 ≤ x6 then
    (fX9_shift_150 N N x3 x4 x5 (0 : Int32) v_shelf v_many v_items v_carried)
    else (mm_ck (mm_inb ((((60 : Int32) * x1) + x2) + x6) v_items.length) (mm_nm ((mm_lg v_items ((((60 : Int32) * x1) + x2) + x6))) (fun (y_25 : Int64) =>
    mm_ck (mm_inb x6 v_carried.length) (mm_nm (mm_ls v_carried x6 y_25) (fun (l_27 : List Int64) =>
    mm_nm (x6 + (1 : Int32)) (fun (y_28 : Int32) =>
    fX9_shift_113 N n x1 x2 x3 x4 x5 y_28 v_shelf v_many v_items l_27))))))

def fX9_shift (N : Nat) (x1 : Int32) (x2 : Int32) (x3 : Int32) (x4 : Int32) (x5 : Int32) (v_shelf : List Int32) (v_many : List Int32) (v_items : List Int64) (v_carried : List Int64) : Option (Int32 × List Int64 × List Int64) :=
    mm_bd1 (fX9_isShelf N x1) (fun (r_1 : Bool) =>
    if r_1 = false then
    (some ((-1 : Int32), v_items, v_carried))
    else (mm_bd1 (fX9_isShelf N x3) (fun (r_4 : Bool) =>
    if r_4 = false then
    (some ((-1 : Int32), v_items, v_carried))
    else (mm_ck (mm_inb x1 v_shelf.length) (if (mm_ig v_shelf x1) < 0 then
    (some ((-11 : Int32), v_items, v_carried))
    else (mm_ck (mm_inb x3 v_shelf.length) (if 0 ≤ (mm_ig v_shelf x3) then
    (mm_ck (mm_inb x1 v_shelf.length) (if (mm_ig v_shelf x1) < (50 : Int32) then
    (some ((-12 : Int32), v_items, v_carried))
    else (mm_ck (mm_inb x1 v_shelf.length) (mm_ck (mm_inb x3 v_shelf.length) (if (mm_ig v_shelf x1) = (mm_ig v_shelf x3) then
    (if x5 < 0 then
    (some ((-13 : Int32), v_items, v_carried))
    else (if x2 < 0 then
    (some ((-13 : Int32), v_items, v_carried))
    else (if x4 < 0 then
    (some ((-13 : Int32), v_items, v_carried))
    else (mm_ck (mm_inb x1 v_many.length) (if ((mm_ig v_many x1) - x5) < x2 then
    (some ((-13 : Int32), v_items, v_carried))
    else (mm_ck (mm_inb x3 v_many.length) (if x4 ≤ ((mm_ig v_many x3) - x5) then
    (fX9_shift_113 N N x1 x2 x3 x4 x5 (0 : Int32) v_shelf v_many v_items v_carried)
    else (some ((-13 : Int32), v_items, v_carried)))))))))
    else (some ((-12 : Int32), v_items, v_carried)))))))
    else (some ((-11 : Int32), v_items, v_carried)))))))))

def fX9_taken_75 (N : Nat)  (x1 : Int32) (x2 : Int32) (x3 : Int32) (v_bodyKind : List Int32) (v_shelf : List Int32) : Option (Int32) :=
    if x3 = x2 then
    (mm_ck (mm_inb x1 v_shelf.length) (mm_bd1 (fX9_kindOf N (mm_ig v_shelf x1) v_bodyKind) (fun (r_20 : Int32) =>
    some (r_20))))
    else (some ((-12 : Int32)))

def fX9_taken_58 (N : Nat)  : Nat → Int32 → Int32 → Int32 → List Int32 → List Int32 → Option (Int32)
  | 0 => fun _ _ _ _ _ => none
  | n + 1 => fun x1 x2 x3 v_bodyKind v_shelf =>
    if x3 = x2 then
    (fX9_taken_75 N x1 x2 x3 v_bodyKind v_shelf)
    else (if x3 ≤ 0 then
    (fX9_taken_75 N x1 x2 x3 v_bodyKind v_shelf)
    else (mm_bd1 (fX9_above N x3) (fun (r_16 : Int32) =>
    fX9_taken_58 N n x1 x2 r_16 v_bodyKind v_shelf)))

def fX9_taken (N : Nat) (x1 : Int32) (x2 : Int32) (v_bodyKind : List Int32) (v_shelf : List Int32) : Option (Int32) :=
    mm_bd1 (fX9_isShelf N x1) (fun (r_1 : Bool) =>
    if r_1 = false then
    (some ((-1 : Int32)))
    else (mm_bd1 (fX9_within N ((x2).toInt64) (0 : Int64) (7 : Int64)) (fun (r_4 : Bool) =>
    if r_4 = false then
    (some ((-1 : Int32)))
    else (mm_ck (mm_inb x1 v_shelf.length) (if 0 ≤ (mm_ig v_shelf x1) then
    (mm_ck (mm_inb x1 v_shelf.length) (if (mm_ig v_shelf x1) < (50 : Int32) then
    (mm_ck (mm_inb x1 v_shelf.length) (mm_bd1 (fX9_kindOf N (mm_ig v_shelf x1) v_bodyKind) (fun (r_12 : Int32) =>
    fX9_taken_58 N N x1 x2 r_12 v_bodyKind v_shelf)))
    else (some ((-12 : Int32)))))
    else (some ((-11 : Int32))))))))

def fX9_count (N : Nat) (x1 : Int32) (v_done : Int32) (v_rowsOf : Int32) (v_columnsOf : Int32) (v_tapeMany : Int32) (v_planned : Int32) (v_bodies : Int32) (v_ran : Int32) : Option (Int32) :=
    if x1 = (0 : Int32) then
    (mm_bd1 (fX9_fields N v_rowsOf v_columnsOf) (fun (r_2 : Int32) =>
    some (r_2)))
    else (if x1 = (1 : Int32) then
    (some (v_planned))
    else (if x1 = (2 : Int32) then
    (some (v_tapeMany))
    else (if x1 = (3 : Int32) then
    (some (v_done))
    else (if x1 = (4 : Int32) then
    (some (v_bodies))
    else (if x1 = (5 : Int32) then
    (some (v_ran))
    else (some ((-1 : Int32))))))))

def mm_max (x y : Int32) : Int32 := if x < y then y else x

def mm_min (x y : Int32) : Int32 := if y < x then y else x

def mm_abs (x : Int32) : Int32 := if 0 ≤ x then x else 0 - x

def fX0_forgetOldest (N : Nat) (v_done : Int32) (v_before : List Int32) (v_after : List Int32) : Option (Int32 × List Int32 × List Int32) :=
    mm_ck (mm_cok (1 : Int32) (0 : Int32) (39 : Int32) v_before.length v_before.length) (mm_nm (mm_cp v_before v_before (1 : Int32) (0 : Int32) (39 : Int32)) (fun (l_2 : List Int32) =>
    mm_ck (mm_cok (1 : Int32) (0 : Int32) (39 : Int32) v_after.length v_after.length) (mm_nm (mm_cp v_after v_after (1 : Int32) (0 : Int32) (39 : Int32)) (fun (l_4 : List Int32) =>
    mm_nm ((v_done - (1 : Int32))) (fun (y_5 : Int32) =>
    some (y_5, l_2, l_4))))))

def fX0_become_22 (N : Nat)  (x1 : Int32) (v_value : Int32) (v_done : Int32) (v_size : Int32) (v_before : List Int32) (v_after : List Int32) : Option (Int32 × Int32 × Int32 × List Int32 × List Int32) :=
    mm_ck (mm_inb v_done v_before.length) (mm_nm (mm_is v_before v_done v_value) (fun (l_8 : List Int32) =>
    mm_ck (mm_inb v_done v_after.length) (mm_nm (mm_is v_after v_done x1) (fun (l_10 : List Int32) =>
    mm_nm ((v_done + (1 : Int32))) (fun (y_11 : Int32) =>
    some (x1, y_11, y_11, l_8, l_10))))))

def fX0_become (N : Nat) (x1 : Int32) (v_value : Int32) (v_done : Int32) (v_size : Int32) (v_before : List Int32) (v_after : List Int32) : Option (Int32 × Int32 × Int32 × List Int32 × List Int32) :=
    if x1 = v_value then
    (some (v_value, v_done, v_size, v_before, v_after))
    else (if v_done = (40 : Int32) then
    (mm_bd3 (fX0_forgetOldest N v_done v_before v_after) (fun (w_3 : Int32) (w_4 : List Int32) (w_5 : List Int32) =>
    fX0_become_22 N x1 v_value w_3 v_size w_4 w_5))
    else (fX0_become_22 N x1 v_value v_done v_size v_before v_after))

def fX0_stepBack (N : Nat) (v_value : Int32) (v_done : Int32) (v_before : List Int32) : Option (Int32 × Int32) :=
    if v_done ≤ 0 then
    (some (v_value, v_done))
    else (mm_nm ((v_done - (1 : Int32))) (fun (y_2 : Int32) =>
    mm_ck (mm_inb y_2 v_before.length) (mm_nm ((mm_ig v_before y_2)) (fun (y_4 : Int32) =>
    some (y_4, y_2)))))

def fX0_stepOn (N : Nat) (v_value : Int32) (v_done : Int32) (v_size : Int32) (v_after : List Int32) : Option (Int32 × Int32) :=
    if v_size ≤ v_done then
    (some (v_value, v_done))
    else (mm_ck (mm_inb v_done v_after.length) (mm_nm ((mm_ig v_after v_done)) (fun (y_3 : Int32) =>
    mm_nm ((v_done + (1 : Int32))) (fun (y_4 : Int32) =>
    some (y_3, y_4)))))

def fX1_make (N : Nat) (x1 : Int32) (v_size : Int32) (v_kinds : List Int32) : Option (Bool × Int32 × List Int32) :=
    if v_size < (50 : Int32) then
    (mm_ck (mm_inb v_size v_kinds.length) (mm_nm (mm_is v_kinds v_size x1) (fun (l_3 : List Int32) =>
    mm_nm ((v_size + (1 : Int32))) (fun (y_4 : Int32) =>
    some (true, y_4, l_3)))))
    else (some (false, v_size, v_kinds))

def fX1_has (N : Nat) (x1 : Int32) (v_size : Int32) : Option (Bool) :=
    if x1 < 0 then
    (some (false))
    else (if v_size ≤ x1 then
    (some (false))
    else (some (true)))

def fX1_isUnder_20 (N : Nat)  : Nat → Int32 → Int32 → Int32 → Int32 → List Int32 → Option (Bool)
  | 0 => fun _ _ _ _ _ => none
  | n + 1 => fun x2 x3 x4 v_size v_kinds =>
    if (8 : Int32) ≤ x4 then
    (some (false))
    else (if x3 < 0 then
    (some (false))
    else (if x3 = x2 then
    (some (true))
    else (mm_ck (mm_inb x3 mm_ABOVE.length) (mm_nm ((mm_ig mm_ABOVE x3)) (fun (y_10 : Int32) =>
    mm_nm (x4 + (1 : Int32)) (fun (y_11 : Int32) =>
    fX1_isUnder_20 N n x2 y_10 y_11 v_size v_kinds))))))

def fX1_isUnder (N : Nat) (x1 : Int32) (x2 : Int32) (v_size : Int32) (v_kinds : List Int32) : Option (Bool) :=
    mm_bd1 (fX1_has N x1 v_size) (fun (r_1 : Bool) =>
    if r_1 = false then
    (some (false))
    else (mm_ck (mm_inb x1 v_kinds.length) (mm_nm ((mm_ig v_kinds x1)) (fun (y_5 : Int32) =>
    fX1_isUnder_20 N N x2 y_5 (0 : Int32) v_size v_kinds))))

def fX1_traced (N : Nat) (x1 : Int32) (v_ran : Int32) (v_trace : List Int32) : Option (Int32) :=
    if x1 < 0 then
    (some ((-1 : Int32)))
    else (if (24 : Int32) ≤ x1 then
    (some ((-1 : Int32)))
    else (if v_ran ≤ x1 then
    (some ((-1 : Int32)))
    else (mm_ck (mm_inb x1 v_trace.length) (some ((mm_ig v_trace x1))))))

def fX1_note_19 (N : Nat)  (v_ran : Int32) (v_trace : List Int32) : Option (Int32 × List Int32) :=
    mm_nm ((v_ran + (1 : Int32))) (fun (y_4 : Int32) =>
    some (y_4, v_trace))

def fX1_note (N : Nat) (x1 : Int32) (v_ran : Int32) (v_trace : List Int32) : Option (Int32 × List Int32) :=
    if (24 : Int32) ≤ v_ran then
    (fX1_note_19 N v_ran v_trace)
    else (mm_ck (mm_inb v_ran v_trace.length) (mm_nm (mm_is v_trace v_ran x1) (fun (l_3 : List Int32) =>
    fX1_note_19 N v_ran l_3)))

def fX1_call_6 (N : Nat) (go : Int32 → Int32 → Int32 → Int32 → Int32 → Int32 → Int32 → List Int32 → Option (Int32 × Int32 × List Int32))  : Nat → Int32 → Int32 → Int32 → Int32 → Int32 → Int32 → Int32 → Int32 → List Int32 → Option (Int32 × Int32 × List Int32)
  | 0 => fun _ _ _ _ _ _ _ _ _ => none
  | n + 1 => fun x1 x3 x4 x5 x6 x7 v_ran v_number v_trace =>
    if (8 : Int32) ≤ x7 then
    (some ((0 : Int32), v_ran, v_trace))
    else (if x6 < 0 then
    (some ((0 : Int32), v_ran, v_trace))
    else (mm_ck (mm_inb (((4 : Int32) * x6) + x3) mm_OWN.length) (if (mm_ig mm_OWN (((4 : Int32) * x6) + x3)) = 0 then
    (mm_ck (mm_inb x6 mm_ABOVE.length) (mm_nm ((mm_ig mm_ABOVE x6)) (fun (y_6 : Int32) =>
    mm_nm (x7 + (1 : Int32)) (fun (y_7 : Int32) =>
    fX1_call_6 N go n x1 x3 x4 x5 y_6 y_7 v_ran v_number v_trace))))
    else (if (40 : Int32) ≤ x5 then
    (some ((0 : Int32), v_ran, v_trace))
    else (mm_ck (mm_inb (((4 : Int32) * x6) + x3) mm_OWN.length) (mm_ck (mm_inb x6 mm_ABOVE.length) (mm_bd3 (go (mm_ig mm_OWN (((4 : Int32) * x6) + x3)) x1 (mm_ig mm_ABOVE x6) x4 (x5 + (1 : Int32)) v_ran v_number v_trace) (fun (r_11 : Int32) (w_12 : Int32) (w_13 : List Int32) =>
    some (r_11, w_12, w_13)))))))))

def fX1_call (N : Nat) (go : Int32 → Int32 → Int32 → Int32 → Int32 → Int32 → Int32 → List Int32 → Option (Int32 × Int32 × List Int32)) (x1 : Int32) (x2 : Int32) (x3 : Int32) (x4 : Int32) (x5 : Int32) (v_ran : Int32) (v_number : Int32) (v_trace : List Int32) : Option (Int32 × Int32 × List Int32) :=
    fX1_call_6 N go N x1 x3 x4 x5 x2 (0 : Int32) v_ran v_number v_trace

def fX1_runo (N : Nat) (go : Int32 → Int32 → Int32 → Int32 → Int32 → Int32 → Int32 → List Int32 → Option (Int32 × Int32 × List Int32)) (x1 : Int32) (x2 : Int32) (x3 : Int32) (x4 : Int32) (x5 : Int32) (v_ran : Int32) (v_number : Int32) (v_trace : List Int32) : Option (Int32 × Int32 × List Int32) :=
    mm_bd2 (fX1_note N x1 v_ran v_trace) (fun (w_1 : Int32) (w_2 : List Int32) =>
    if x1 = (1 : Int32) then
    (some ((x4 + v_number), w_1, w_2))
    else (if x1 = (2 : Int32) then
    (mm_bd3 (fX1_call N go x2 x2 (1 : Int32) x4 x5 w_1 v_number w_2) (fun (r_6 : Int32) (w_7 : Int32) (w_8 : List Int32) =>
    mm_bd3 (fX1_call N go x2 x2 (2 : Int32) (1 : Int32) x5 w_7 v_number w_8) (fun (r_10 : Int32) (w_11 : Int32) (w_12 : List Int32) =>
    some ((r_6 - r_10), w_11, w_12))))
    else (if x1 = (10 : Int32) then
    (mm_bd3 (fX1_call N go x2 x2 (0 : Int32) x4 x5 w_1 v_number w_2) (fun (r_15 : Int32) (w_16 : Int32) (w_17 : List Int32) =>
    some ((r_15 * (2 : Int32)), w_16, w_17)))
    else (if x1 = (11 : Int32) then
    (some ((x4 ^^^ v_number), w_1, w_2))
    else (if x1 = (20 : Int32) then
    (mm_bd3 (fX1_call N go x2 x3 (0 : Int32) x4 x5 w_1 v_number w_2) (fun (r_21 : Int32) (w_22 : Int32) (w_23 : List Int32) =>
    some ((r_21 + (3 : Int32)), w_22, w_23)))
    else (if x1 = (30 : Int32) then
    (mm_bd3 (fX1_call N go x2 x3 (1 : Int32) x4 x5 w_1 v_number w_2) (fun (r_26 : Int32) (w_27 : Int32) (w_28 : List Int32) =>
    some ((-r_26), w_27, w_28)))
    else (if x1 = (40 : Int32) then
    (mm_bd3 (fX1_call N go x2 x3 (2 : Int32) x4 x5 w_1 v_number w_2) (fun (r_31 : Int32) (w_32 : Int32) (w_33 : List Int32) =>
    some ((r_31 * (3 : Int32)), w_32, w_33)))
    else (if x1 = (41 : Int32) then
    (mm_bd3 (fX1_call N go x2 x3 (1 : Int32) (x4 + (1 : Int32)) x5 w_1 v_number w_2) (fun (r_36 : Int32) (w_37 : Int32) (w_38 : List Int32) =>
    some (r_36, w_37, w_38)))
    else (if x1 = (50 : Int32) then
    (mm_bd3 (fX1_call N go x2 x3 (2 : Int32) x4 x5 w_1 v_number w_2) (fun (r_41 : Int32) (w_42 : Int32) (w_43 : List Int32) =>
    mm_bd3 (fX1_call N go x2 x2 (0 : Int32) (2 : Int32) x5 w_42 v_number w_43) (fun (r_45 : Int32) (w_46 : Int32) (w_47 : List Int32) =>
    some ((r_41 - r_45), w_46, w_47))))
    else (if x1 = (60 : Int32) then
    (mm_bd3 (fX1_call N go x2 x3 (3 : Int32) x4 x5 w_1 v_number w_2) (fun (r_50 : Int32) (w_51 : Int32) (w_52 : List Int32) =>
    some ((r_50 ^^^ (5 : Int32)), w_51, w_52)))
    else (if x1 = (70 : Int32) then
    (mm_bd3 (fX1_call N go x2 x3 (0 : Int32) x4 x5 w_1 v_number w_2) (fun (r_55 : Int32) (w_56 : Int32) (w_57 : List Int32) =>
    some ((r_55 * (2 : Int32)), w_56, w_57)))
    else (if x1 = (80 : Int32) then
    (mm_bd3 (fX1_call N go x2 x3 (1 : Int32) x4 x5 w_1 v_number w_2) (fun (r_60 : Int32) (w_61 : Int32) (w_62 : List Int32) =>
    mm_bd3 (fX1_call N go x2 x2 (2 : Int32) (2 : Int32) x5 w_61 v_number w_62) (fun (r_64 : Int32) (w_65 : Int32) (w_66 : List Int32) =>
    some ((r_60 + r_64), w_65, w_66))))
    else (if x1 = (81 : Int32) then
    (mm_bd3 (fX1_call N go x2 x3 (3 : Int32) x4 x5 w_1 v_number w_2) (fun (r_69 : Int32) (w_70 : Int32) (w_71 : List Int32) =>
    some ((r_69 - (1 : Int32)), w_70, w_71)))
    else (some ((0 : Int32), w_1, w_2)))))))))))))))

def fX1_run (N : Nat) : Nat → Int32 → Int32 → Int32 → Int32 → Int32 → Int32 → Int32 → List Int32 → Option (Int32 × Int32 × List Int32)
  | 0 => fun _ _ _ _ _ _ _ _ => none
  | M + 1 => fX1_runo N (fX1_run N M)

def fX1_perform (N : Nat) (x1 : Int32) (x2 : Int32) (x3 : Int32) (v_size : Int32) (v_ran : Int32) (v_number : Int32) (v_kinds : List Int32) (v_trace : List Int32) : Option (Int32 × Int32 × Int32 × List Int32) :=
    mm_bd1 (fX1_has N x1 v_size) (fun (r_1 : Bool) =>
    if r_1 = false then
    (some ((0 : Int32), (0 : Int32), v_number, v_trace))
    else (if x2 < 0 then
    (some ((0 : Int32), (0 : Int32), v_number, v_trace))
    else (if x2 < (4 : Int32) then
    (mm_ck (mm_inb x1 v_kinds.length) (mm_ck (mm_inb x1 v_kinds.length) (mm_bd3 (fX1_call N (fX1_run N 42) (mm_ig v_kinds x1) (mm_ig v_kinds x1) x2 x3 (0 : Int32) (0 : Int32) x1 v_trace) (fun (r_8 : Int32) (w_9 : Int32) (w_10 : List Int32) =>
    some (r_8, w_9, x1, w_10)))))
    else (some ((0 : Int32), (0 : Int32), v_number, v_trace)))))

def fX2_write (N : Nat) (x1 : Int32) (v_size : Int32) (v_tape : List Int32) : Option (Bool × Int32 × List Int32) :=
    if v_size < (120 : Int32) then
    (mm_ck (mm_inb v_size v_tape.length) (mm_nm (mm_is v_tape v_size x1) (fun (l_3 : List Int32) =>
    mm_nm ((v_size + (1 : Int32))) (fun (y_4 : Int32) =>
    some (true, y_4, l_3)))))
    else (some (false, v_size, v_tape))

def fX2_fail (N : Nat) (v_place : Int32) (v_fault : Int32) : Option (Int32) :=
    if 0 ≤ v_fault then
    (some (v_fault))
    else (some (v_place))

def fX2_next (N : Nat) (v_size : Int32) (v_place : Int32) (v_tape : List Int32) : Option (Int32) :=
    if v_size ≤ v_place then
    (some ((-1 : Int32)))
    else (mm_ck (mm_inb v_place v_tape.length) (some ((mm_ig v_tape v_place))))

def fX2_meets (N : Nat) (x1 : Int32) (v_size : Int32) (v_place : Int32) (v_fault : Int32) (v_tape : List Int32) : Option (Bool) :=
    if 0 ≤ v_fault then
    (some (false))
    else (mm_bd1 (fX2_next N v_size v_place v_tape) (fun (r_2 : Int32) =>
    if r_2 = x1 then
    (some (true))
    else (some (false))))

def fX2_note (N : Nat) (x1 : Int32) (v_draftCount : Int32) (v_draft : List Int32) : Option (Int32 × List Int32) :=
    if (121 : Int32) ≤ v_draftCount then
    (some (v_draftCount, v_draft))
    else (mm_ck (mm_inb v_draftCount v_draft.length) (mm_nm (mm_is v_draft v_draftCount x1) (fun (l_3 : List Int32) =>
    mm_nm ((v_draftCount + (1 : Int32))) (fun (y_4 : Int32) =>
    some (y_4, l_3)))))

def fX2_isDigit (N : Nat) (x0 : Int32) : Option (Bool) :=
    if x0 < (48 : Int32) then
    (some (false))
    else (if (57 : Int32) < x0 then
    (some (false))
    else (some (true)))

def fX2_readNumber_48 (N : Nat)  (x1 : Int32) (v_size : Int32) (v_draftCount : Int32) (v_place : Int32) (v_tape : List Int32) (v_draft : List Int32) : Option (Int32 × Int32 × List Int32) :=
    mm_bd2 (fX2_note N ((1000 : Int32) + x1) v_draftCount v_draft) (fun (w_12 : Int32) (w_13 : List Int32) =>
    some (w_12, v_place, w_13))

def fX2_readNumber_4 (N : Nat)  : Nat → Int32 → Int32 → Int32 → Int32 → Int32 → List Int32 → List Int32 → Option (Int32 × Int32 × List Int32)
  | 0 => fun _ _ _ _ _ _ _ => none
  | n + 1 => fun x1 x2 v_size v_draftCount v_place v_tape v_draft =>
    if (4 : Int32) ≤ x2 then
    (fX2_readNumber_48 N x1 v_size v_draftCount v_place v_tape v_draft)
    else (mm_bd1 (fX2_next N v_size v_place v_tape) (fun (r_2 : Int32) =>
    mm_bd1 (fX2_isDigit N r_2) (fun (r_4 : Bool) =>
    if r_4 = false then
    (fX2_readNumber_48 N x1 v_size v_draftCount v_place v_tape v_draft)
    else (mm_bd1 (fX2_next N v_size v_place v_tape) (fun (r_7 : Int32) =>
    mm_nm ((((x1 * (10 : Int32)) + r_7) - (48 : Int32))) (fun (y_9 : Int32) =>
    mm_nm ((v_place + (1 : Int32))) (fun (y_10 : Int32) =>
    mm_nm (x2 + (1 : Int32)) (fun (y_11 : Int32) =>
    fX2_readNumber_4 N n y_9 y_11 v_size v_draftCount y_10 v_tape v_draft))))))))

def fX2_readNumber (N : Nat) (v_size : Int32) (v_draftCount : Int32) (v_place : Int32) (v_tape : List Int32) (v_draft : List Int32) : Option (Int32 × Int32 × List Int32) :=
    fX2_readNumber_4 N N (0 : Int32) (0 : Int32) v_size v_draftCount v_place v_tape v_draft

def fX2_isName (N : Nat) (x0 : Int32) : Option (Bool) :=
    if x0 = (98 : Int32) then
    (some (true))
    else (if x0 = (102 : Int32) then
    (some (true))
    else (if x0 = (107 : Int32) then
    (some (true))
    else (if x0 = (110 : Int32) then
    (some (true))
    else (if x0 = (114 : Int32) then
    (some (true))
    else (if x0 = (119 : Int32) then
    (some (true))
    else (some (false)))))))

def fX2_readProduct_40 (N : Nat) (go : Int32 → Int32 → Int32 → Int32 → Int32 → List Int32 → List Int32 → Option (Int32 × Int32 × Int32 × List Int32)) (k_7 : Int32 → Int32 → Int32 → Int32 → Int32 → Int32 → List Int32 → List Int32 → Option (Int32 × Int32 × Int32 × List Int32)) (x1 : Int32) (x2 : Int32) (v_size : Int32) (v_draftCount : Int32) (v_place : Int32) (v_fault : Int32) (v_tape : List Int32) (v_draft : List Int32) : Option (Int32 × Int32 × Int32 × List Int32) :=
    mm_bd1 (fX2_next N v_size v_place v_tape) (fun (r_16 : Int32) =>
    mm_nm ((v_place + (1 : Int32))) (fun (y_18 : Int32) =>
    mm_bd4 (go x1 v_size v_draftCount y_18 v_fault v_tape v_draft) (fun (w_19 : Int32) (w_20 : Int32) (w_21 : Int32) (w_22 : List Int32) =>
    mm_bd2 (fX2_note N r_16 w_19 w_22) (fun (w_24 : Int32) (w_25 : List Int32) =>
    mm_nm (x2 + (1 : Int32)) (fun (y_27 : Int32) =>
    k_7 x1 y_27 v_size w_24 w_20 w_21 v_tape w_25)))))

def fX2_readProduct_7 (N : Nat) (go : Int32 → Int32 → Int32 → Int32 → Int32 → List Int32 → List Int32 → Option (Int32 × Int32 × Int32 × List Int32))  : Nat → Int32 → Int32 → Int32 → Int32 → Int32 → Int32 → List Int32 → List Int32 → Option (Int32 × Int32 × Int32 × List Int32)
  | 0 => fun _ _ _ _ _ _ _ _ => none
  | n + 1 => fun x1 x2 v_size v_draftCount v_place v_fault v_tape v_draft =>
    if (120 : Int32) ≤ x2 then
    (some (v_draftCount, v_place, v_fault, v_draft))
    else (mm_bd1 (fX2_meets N (42 : Int32) v_size v_place v_fault v_tape) (fun (r_7 : Bool) =>
    if r_7 = false then
    (mm_bd1 (fX2_meets N (47 : Int32) v_size v_place v_fault v_tape) (fun (r_10 : Bool) =>
    if r_10 = false then
    (mm_bd1 (fX2_meets N (37 : Int32) v_size v_place v_fault v_tape) (fun (r_13 : Bool) =>
    if r_13 = false then
    (some (v_draftCount, v_place, v_fault, v_draft))
    else (fX2_readProduct_40 N go (fX2_readProduct_7 N go n) x1 x2 v_size v_draftCount v_place v_fault v_tape v_draft)))
    else (fX2_readProduct_40 N go (fX2_readProduct_7 N go n) x1 x2 v_size v_draftCount v_place v_fault v_tape v_draft)))
    else (fX2_readProduct_40 N go (fX2_readProduct_7 N go n) x1 x2 v_size v_draftCount v_place v_fault v_tape v_draft)))

def fX2_readProduct (N : Nat) (go : Int32 → Int32 → Int32 → Int32 → Int32 → List Int32 → List Int32 → Option (Int32 × Int32 × Int32 × List Int32)) (x1 : Int32) (v_size : Int32) (v_draftCount : Int32) (v_place : Int32) (v_fault : Int32) (v_tape : List Int32) (v_draft : List Int32) : Option (Int32 × Int32 × Int32 × List Int32) :=
    mm_bd4 (go x1 v_size v_draftCount v_place v_fault v_tape v_draft) (fun (w_1 : Int32) (w_2 : Int32) (w_3 : Int32) (w_4 : List Int32) =>
    fX2_readProduct_7 N go N x1 (0 : Int32) v_size w_1 w_2 w_3 v_tape w_4)

def fX2_readSum_31 (N : Nat) (go : Int32 → Int32 → Int32 → Int32 → Int32 → List Int32 → List Int32 → Option (Int32 × Int32 × Int32 × List Int32)) (k_7 : Int32 → Int32 → Int32 → Int32 → Int32 → Int32 → List Int32 → List Int32 → Option (Int32 × Int32 × Int32 × List Int32)) (x1 : Int32) (x2 : Int32) (v_size : Int32) (v_draftCount : Int32) (v_place : Int32) (v_fault : Int32) (v_tape : List Int32) (v_draft : List Int32) : Option (Int32 × Int32 × Int32 × List Int32) :=
    mm_bd1 (fX2_next N v_size v_place v_tape) (fun (r_13 : Int32) =>
    mm_nm ((v_place + (1 : Int32))) (fun (y_15 : Int32) =>
    mm_bd4 (fX2_readProduct N go x1 v_size v_draftCount y_15 v_fault v_tape v_draft) (fun (w_16 : Int32) (w_17 : Int32) (w_18 : Int32) (w_19 : List Int32) =>
    mm_bd2 (fX2_note N r_13 w_16 w_19) (fun (w_21 : Int32) (w_22 : List Int32) =>
    mm_nm (x2 + (1 : Int32)) (fun (y_24 : Int32) =>
    k_7 x1 y_24 v_size w_21 w_17 w_18 v_tape w_22)))))

def fX2_readSum_7 (N : Nat) (go : Int32 → Int32 → Int32 → Int32 → Int32 → List Int32 → List Int32 → Option (Int32 × Int32 × Int32 × List Int32))  : Nat → Int32 → Int32 → Int32 → Int32 → Int32 → Int32 → List Int32 → List Int32 → Option (Int32 × Int32 × Int32 × List Int32)
  | 0 => fun _ _ _ _ _ _ _ _ => none
  | n + 1 => fun x1 x2 v_size v_draftCount v_place v_fault v_tape v_draft =>
    if (120 : Int32) ≤ x2 then
    (some (v_draftCount, v_place, v_fault, v_draft))
    else (mm_bd1 (fX2_meets N (43 : Int32) v_size v_place v_fault v_tape) (fun (r_7 : Bool) =>
    if r_7 = false then
    (mm_bd1 (fX2_meets N (45 : Int32) v_size v_place v_fault v_tape) (fun (r_10 : Bool) =>
    if r_10 = false then
    (some (v_draftCount, v_place, v_fault, v_draft))
    else (fX2_readSum_31 N go (fX2_readSum_7 N go n) x1 x2 v_size v_draftCount v_place v_fault v_tape v_draft)))
    else (fX2_readSum_31 N go (fX2_readSum_7 N go n) x1 x2 v_size v_draftCount v_place v_fault v_tape v_draft)))

def fX2_readSum (N : Nat) (go : Int32 → Int32 → Int32 → Int32 → Int32 → List Int32 → List Int32 → Option (Int32 × Int32 × Int32 × List Int32)) (x1 : Int32) (v_size : Int32) (v_draftCount : Int32) (v_place : Int32) (v_fault : Int32) (v_tape : List Int32) (v_draft : List Int32) : Option (Int32 × Int32 × Int32 × List Int32) :=
    mm_bd4 (fX2_readProduct N go x1 v_size v_draftCount v_place v_fault v_tape v_draft) (fun (w_1 : Int32) (w_2 : Int32) (w_3 : Int32) (w_4 : List Int32) =>
    fX2_readSum_7 N go N x1 (0 : Int32) v_size w_1 w_2 w_3 v_tape w_4)

def fX2_readCompared_32 (N : Nat) (go : Int32 → Int32 → Int32 → Int32 → Int32 → List Int32 → List Int32 → Option (Int32 × Int32 × Int32 × List Int32))  (x1 : Int32) (v_size : Int32) (v_draftCount : Int32) (v_place : Int32) (v_fault : Int32) (v_tape : List Int32) (v_draft : List Int32) : Option (Int32 × Int32 × Int32 × List Int32) :=
    mm_bd1 (fX2_next N v_size v_place v_tape) (fun (r_15 : Int32) =>
    mm_nm ((v_place + (1 : Int32))) (fun (y_17 : Int32) =>
    mm_bd4 (fX2_readSum N go x1 v_size v_draftCount y_17 v_fault v_tape v_draft) (fun (w_18 : Int32) (w_19 : Int32) (w_20 : Int32) (w_21 : List Int32) =>
    mm_bd2 (fX2_note N r_15 w_18 w_21) (fun (w_23 : Int32) (w_24 : List Int32) =>
    some (w_23, w_19, w_20, w_24)))))

def fX2_readCompared (N : Nat) (go : Int32 → Int32 → Int32 → Int32 → Int32 → List Int32 → List Int32 → Option (Int32 × Int32 × Int32 × List Int32)) (x1 : Int32) (v_size : Int32) (v_draftCount : Int32) (v_place : Int32) (v_fault : Int32) (v_tape : List Int32) (v_draft : List Int32) : Option (Int32 × Int32 × Int32 × List Int32) :=
    mm_bd4 (fX2_readSum N go x1 v_size v_draftCount v_place v_fault v_tape v_draft) (fun (w_1 : Int32) (w_2 : Int32) (w_3 : Int32) (w_4 : List Int32) =>
    mm_bd1 (fX2_meets N (60 : Int32) v_size w_2 w_3 v_tape) (fun (r_6 : Bool) =>
    if r_6 = false then
    (mm_bd1 (fX2_meets N (61 : Int32) v_size w_2 w_3 v_tape) (fun (r_9 : Bool) =>
    if r_9 = false then
    (mm_bd1 (fX2_meets N (62 : Int32) v_size w_2 w_3 v_tape) (fun (r_12 : Bool) =>
    if r_12 = false then
    (some (w_1, w_2, w_3, w_4))
    else (fX2_readCompared_32 N go x1 v_size w_1 w_2 w_3 v_tape w_4)))
    else (fX2_readCompared_32 N go x1 v_size w_1 w_2 w_3 v_tape w_4)))
    else (fX2_readCompared_32 N go x1 v_size w_1 w_2 w_3 v_tape w_4)))

def fX2_readBoth_7 (N : Nat) (go : Int32 → Int32 → Int32 → Int32 → Int32 → List Int32 → List Int32 → Option (Int32 × Int32 × Int32 × List Int32))  : Nat → Int32 → Int32 → Int32 → Int32 → Int32 → Int32 → List Int32 → List Int32 → Option (Int32 × Int32 × Int32 × List Int32)
  | 0 => fun _ _ _ _ _ _ _ _ => none
  | n + 1 => fun x1 x2 v_size v_draftCount v_place v_fault v_tape v_draft =>
    if (120 : Int32) ≤ x2 then
    (some (v_draftCount, v_place, v_fault, v_draft))
    else (mm_bd1 (fX2_meets N (38 : Int32) v_size v_place v_fault v_tape) (fun (r_7 : Bool) =>
    if r_7 = false then
    (some (v_draftCount, v_place, v_fault, v_draft))
    else (mm_nm ((v_place + (1 : Int32))) (fun (y_10 : Int32) =>
    mm_bd4 (fX2_readCompared N go x1 v_size v_draftCount y_10 v_fault v_tape v_draft) (fun (w_11 : Int32) (w_12 : Int32) (w_13 : Int32) (w_14 : List Int32) =>
    mm_bd2 (fX2_note N (38 : Int32) w_11 w_14) (fun (w_16 : Int32) (w_17 : List Int32) =>
    mm_nm (x2 + (1 : Int32)) (fun (y_19 : Int32) =>
    fX2_readBoth_7 N go n x1 y_19 v_size w_16 w_12 w_13 v_tape w_17)))))))

def fX2_readBoth (N : Nat) (go : Int32 → Int32 → Int32 → Int32 → Int32 → List Int32 → List Int32 → Option (Int32 × Int32 × Int32 × List Int32)) (x1 : Int32) (v_size : Int32) (v_draftCount : Int32) (v_place : Int32) (v_fault : Int32) (v_tape : List Int32) (v_draft : List Int32) : Option (Int32 × Int32 × Int32 × List Int32) :=
    mm_bd4 (fX2_readCompared N go x1 v_size v_draftCount v_place v_fault v_tape v_draft) (fun (w_1 : Int32) (w_2 : Int32) (w_3 : Int32) (w_4 : List Int32) =>
    fX2_readBoth_7 N go N x1 (0 : Int32) v_size w_1 w_2 w_3 v_tape w_4)

def fX2_readEither_7 (N : Nat) (go : Int32 → Int32 → Int32 → Int32 → Int32 → List Int32 → List Int32 → Option (Int32 × Int32 × Int32 × List Int32))  : Nat → Int32 → Int32 → Int32 → Int32 → Int32 → Int32 → List Int32 → List Int32 → Option (Int32 × Int32 × Int32 × List Int32)
  | 0 => fun _ _ _ _ _ _ _ _ => none
  | n + 1 => fun x1 x2 v_size v_draftCount v_place v_fault v_tape v_draft =>
    if (120 : Int32) ≤ x2 then
    (some (v_draftCount, v_place, v_fault, v_draft))
    else (mm_bd1 (fX2_meets N (124 : Int32) v_size v_place v_fault v_tape) (fun (r_7 : Bool) =>
    if r_7 = false then
    (some (v_draftCount, v_place, v_fault, v_draft))
    else (mm_nm ((v_place + (1 : Int32))) (fun (y_10 : Int32) =>
    mm_bd4 (fX2_readBoth N go x1 v_size v_draftCount y_10 v_fault v_tape v_draft) (fun (w_11 : Int32) (w_12 : Int32) (w_13 : Int32) (w_14 : List Int32) =>
    mm_bd2 (fX2_note N (124 : Int32) w_11 w_14) (fun (w_16 : Int32) (w_17 : List Int32) =>
    mm_nm (x2 + (1 : Int32)) (fun (y_19 : Int32) =>
    fX2_readEither_7 N go n x1 y_19 v_size w_16 w_12 w_13 v_tape w_17)))))))

def fX2_readEither (N : Nat) (go : Int32 → Int32 → Int32 → Int32 → Int32 → List Int32 → List Int32 → Option (Int32 × Int32 × Int32 × List Int32)) (x1 : Int32) (v_size : Int32) (v_draftCount : Int32) (v_place : Int32) (v_fault : Int32) (v_tape : List Int32) (v_draft : List Int32) : Option (Int32 × Int32 × Int32 × List Int32) :=
    mm_bd4 (fX2_readBoth N go x1 v_size v_draftCount v_place v_fault v_tape v_draft) (fun (w_1 : Int32) (w_2 : Int32) (w_3 : Int32) (w_4 : List Int32) =>
    fX2_readEither_7 N go N x1 (0 : Int32) v_size w_1 w_2 w_3 v_tape w_4)

def fX2_readOne_93 (N : Nat) (go : Int32 → Int32 → Int32 → Int32 → Int32 → List Int32 → List Int32 → Option (Int32 × Int32 × Int32 × List Int32))  (s0 : Int32) (v_size : Int32) (v_draftCount : Int32) (v_place : Int32) (v_fault : Int32) (v_tape : List Int32) (v_draft : List Int32) : Option (Int32 × Int32 × Int32 × List Int32) :=
    mm_bd2 (fX2_note N s0 v_draftCount v_draft) (fun (w_27 : Int32) (w_28 : List Int32) =>
    some (w_27, v_place, v_fault, w_28))

def fX2_readOne_62 (N : Nat) (go : Int32 → Int32 → Int32 → Int32 → Int32 → List Int32 → List Int32 → Option (Int32 × Int32 × Int32 × List Int32))  (x1 : Int32) (x2 : Int32) (v_size : Int32) (v_draftCount : Int32) (v_place : Int32) (v_fault : Int32) (v_tape : List Int32) (v_draft : List Int32) : Option (Int32 × Int32 × Int32 × List Int32) :=
    mm_nm ((v_place + (1 : Int32))) (fun (y_20 : Int32) =>
    mm_bd4 (go (x1 + (1 : Int32)) v_size v_draftCount y_20 v_fault v_tape v_draft) (fun (w_21 : Int32) (w_22 : Int32) (w_23 : Int32) (w_24 : List Int32) =>
    if x2 = (33 : Int32) then
    (fX2_readOne_93 N go (33 : Int32) v_size w_21 w_22 w_23 v_tape w_24)
    else (fX2_readOne_93 N go (126 : Int32) v_size w_21 w_22 w_23 v_tape w_24)))

def fX2_readOne_157 (N : Nat) (go : Int32 → Int32 → Int32 → Int32 → Int32 → List Int32 → List Int32 → Option (Int32 × Int32 × Int32 × List Int32))  (v_size : Int32) (v_draftCount : Int32) (v_place : Int32) (v_fault : Int32) (v_tape : List Int32) (v_draft : List Int32) : Option (Int32 × Int32 × Int32 × List Int32) :=
    mm_bd1 (fX2_fail N v_place v_fault) (fun (w_44 : Int32) =>
    some (v_draftCount, v_place, w_44, v_draft))

def fX2_readOne_99 (N : Nat) (go : Int32 → Int32 → Int32 → Int32 → Int32 → List Int32 → List Int32 → Option (Int32 × Int32 × Int32 × List Int32))  (x1 : Int32) (x2 : Int32) (v_size : Int32) (v_draftCount : Int32) (v_place : Int32) (v_fault : Int32) (v_tape : List Int32) (v_draft : List Int32) : Option (Int32 × Int32 × Int32 × List Int32) :=
    if (6 : Int32) ≤ x1 then
    (fX2_readOne_157 N go v_size v_draftCount v_place v_fault v_tape v_draft)
    else (if x2 = (40 : Int32) then
    (mm_nm ((v_place + (1 : Int32))) (fun (y_32 : Int32) =>
    mm_bd4 (fX2_readEither N go (x1 + (1 : Int32)) v_size v_draftCount y_32 v_fault v_tape v_draft) (fun (w_33 : Int32) (w_34 : Int32) (w_35 : Int32) (w_36 : List Int32) =>
    mm_bd1 (fX2_meets N (41 : Int32) v_size w_34 w_35 v_tape) (fun (r_38 : Bool) =>
    if r_38 = false then
    (mm_bd1 (fX2_fail N w_34 w_35) (fun (w_41 : Int32) =>
    some (w_33, w_34, w_41, w_36)))
    else (mm_nm ((w_34 + (1 : Int32))) (fun (y_43 : Int32) =>
    some (w_33, y_43, w_35, w_36)))))))
    else (fX2_readOne_157 N go v_size v_draftCount v_place v_fault v_tape v_draft))

def fX2_readOneo (N : Nat) (go : Int32 → Int32 → Int32 → Int32 → Int32 → List Int32 → List Int32 → Option (Int32 × Int32 × Int32 × List Int32)) (x1 : Int32) (v_size : Int32) (v_draftCount : Int32) (v_place : Int32) (v_fault : Int32) (v_tape : List Int32) (v_draft : List Int32) : Option (Int32 × Int32 × Int32 × List Int32) :=
    mm_bd1 (fX2_next N v_size v_place v_tape) (fun (r_1 : Int32) =>
    mm_bd1 (fX2_isDigit N r_1) (fun (r_3 : Bool) =>
    if r_3 = false then
    (mm_bd1 (fX2_isName N r_1) (fun (r_6 : Bool) =>
    if r_6 = false then
    (if (6 : Int32) ≤ x1 then
    (fX2_readOne_99 N go x1 r_1 v_size v_draftCount v_place v_fault v_tape v_draft)
    else (if r_1 = (33 : Int32) then
    (fX2_readOne_62 N go x1 r_1 v_size v_draftCount v_place v_fault v_tape v_draft)
    else (if r_1 = (45 : Int32) then
    (fX2_readOne_62 N go x1 r_1 v_size v_draftCount v_place v_fault v_tape v_draft)
    else (fX2_readOne_99 N go x1 r_1 v_size v_draftCount v_place v_fault v_tape v_draft))))
    else (mm_nm ((v_place + (1 : Int32))) (fun (y_12 : Int32) =>
    mm_bd2 (fX2_note N r_1 v_draftCount v_draft) (fun (w_13 : Int32) (w_14 : List Int32) =>
    some (w_13, y_12, v_fault, w_14))))))
    else (mm_bd3 (fX2_readNumber N v_size v_draftCount v_place v_tape v_draft) (fun (w_16 : Int32) (w_17 : Int32) (w_18 : List Int32) =>
    some (w_16, w_17, v_fault, w_18)))))

def fX2_readOne (N : Nat) : Nat → Int32 → Int32 → Int32 → Int32 → Int32 → List Int32 → List Int32 → Option (Int32 × Int32 × Int32 × List Int32)
  | 0 => fun _ _ _ _ _ _ _ => none
  | M + 1 => fX2_readOneo N (fX2_readOne N M)

def fX2_readLine_35 (N : Nat)  (v_size : Int32) (v_draftCount : Int32) (v_place : Int32) (v_fault : Int32) (v_tape : List Int32) (v_draft : List Int32) : Option (Int32 × Int32 × Int32 × List Int32) :=
    mm_bd2 (fX2_note N (59 : Int32) v_draftCount v_draft) (fun (w_18 : Int32) (w_19 : List Int32) =>
    some (w_18, v_place, v_fault, w_19))

def fX2_readLine (N : Nat) (v_size : Int32) (v_draftCount : Int32) (v_place : Int32) (v_fault : Int32) (v_tape : List Int32) (v_draft : List Int32) : Option (Int32 × Int32 × Int32 × List Int32) :=
    mm_bd4 (fX2_readEither N (fX2_readOne N 8) (0 : Int32) v_size v_draftCount v_place v_fault v_tape v_draft) (fun (w_1 : Int32) (w_2 : Int32) (w_3 : Int32) (w_4 : List Int32) =>
    mm_bd1 (fX2_meets N (63 : Int32) v_size w_2 w_3 v_tape) (fun (r_6 : Bool) =>
    if r_6 = false then
    (fX2_readLine_35 N v_size w_1 w_2 w_3 v_tape w_4)
    else (mm_nm ((w_2 + (1 : Int32))) (fun (y_9 : Int32) =>
    mm_bd2 (fX2_note N (63 : Int32) w_1 w_4) (fun (w_10 : Int32) (w_11 : List Int32) =>
    mm_bd4 (fX2_readEither N (fX2_readOne N 8) (0 : Int32) v_size w_10 y_9 w_3 v_tape w_11) (fun (w_13 : Int32) (w_14 : Int32) (w_15 : Int32) (w_16 : List Int32) =>
    fX2_readLine_35 N v_size w_13 w_14 w_15 v_tape w_16))))))

def fX2_readTape_108 (N : Nat)  (v_size : Int32) (v_stepCount : Int32) (v_draftCount : Int32) (v_place : Int32) (v_fault : Int32) (v_tape : List Int32) (v_steps : List Int32) (v_draft : List Int32) : Option (Int32 × Int32 × Int32 × Int32 × Int32 × Int32 × List Int32 × List Int32) :=
    some (v_fault, v_size, v_stepCount, v_draftCount, v_place, v_fault, v_steps, v_draft)

def fX2_readTape_71 (N : Nat)  (v_size : Int32) (v_stepCount : Int32) (v_draftCount : Int32) (v_place : Int32) (v_fault : Int32) (v_tape : List Int32) (v_steps : List Int32) (v_draft : List Int32) : Option (Int32 × Int32 × Int32 × Int32 × Int32 × Int32 × List Int32 × List Int32) :=
    if 0 ≤ v_fault then
    (fX2_readTape_108 N (0 : Int32) v_stepCount v_draftCount v_place v_fault v_tape v_steps v_draft)
    else (mm_ck (mm_cok (0 : Int32) (0 : Int32) v_draftCount v_draft.length v_steps.length) (mm_nm (mm_cp v_draft v_steps (0 : Int32) (0 : Int32) v_draftCount) (fun (l_22 : List Int32) =>
    fX2_readTape_108 N (0 : Int32) v_draftCount v_draftCount v_place v_fault v_tape l_22 v_draft)))

def fX2_readTape_56 (N : Nat)  (v_size : Int32) (v_stepCount : Int32) (v_draftCount : Int32) (v_place : Int32) (v_fault : Int32) (v_tape : List Int32) (v_steps : List Int32) (v_draft : List Int32) : Option (Int32 × Int32 × Int32 × Int32 × Int32 × Int32 × List Int32 × List Int32) :=
    if v_size ≤ v_place then
    (fX2_readTape_71 N v_size v_stepCount v_draftCount v_place v_fault v_tape v_steps v_draft)
    else (mm_bd1 (fX2_fail N v_place v_fault) (fun (w_18 : Int32) =>
    fX2_readTape_71 N v_size v_stepCount v_draftCount v_place w_18 v_tape v_steps v_draft))

def fX2_readTape_21 (N : Nat)  : Nat → Int32 → Int32 → Int32 → Int32 → Int32 → Int32 → List Int32 → List Int32 → List Int32 → Option (Int32 × Int32 × Int32 × Int32 × Int32 × Int32 × List Int32 × List Int32)
  | 0 => fun _ _ _ _ _ _ _ _ _ => none
  | n + 1 => fun x1 v_size v_stepCount v_draftCount v_place v_fault v_tape v_steps v_draft =>
    if (120 : Int32) ≤ x1 then
    (fX2_readTape_56 N v_size v_stepCount v_draftCount v_place v_fault v_tape v_steps v_draft)
    else (mm_bd1 (fX2_meets N (59 : Int32) v_size v_place v_fault v_tape) (fun (r_7 : Bool) =>
    if r_7 = false then
    (fX2_readTape_56 N v_size v_stepCount v_draftCount v_place v_fault v_tape v_steps v_draft)
    else (mm_nm ((v_place + (1 : Int32))) (fun (y_10 : Int32) =>
    mm_bd4 (fX2_readLine N v_size v_draftCount y_10 v_fault v_tape v_draft) (fun (w_11 : Int32) (w_12 : Int32) (w_13 : Int32) (w_14 : List Int32) =>
    mm_nm (x1 + (1 : Int32)) (fun (y_16 : Int32) =>
    fX2_readTape_21 N n y_16 v_size v_stepCount w_11 w_12 w_13 v_tape v_steps w_14))))))

def fX2_readTape (N : Nat) (v_size : Int32) (v_stepCount : Int32) (v_draftCount : Int32) (v_place : Int32) (v_fault : Int32) (v_tape : List Int32) (v_steps : List Int32) (v_draft : List Int32) : Option (Int32 × Int32 × Int32 × Int32 × Int32 × Int32 × List Int32 × List Int32) :=
    mm_bd4 (fX2_readLine N v_size (0 : Int32) (0 : Int32) (-1 : Int32) v_tape v_draft) (fun (w_1 : Int32) (w_2 : Int32) (w_3 : Int32) (w_4 : List Int32) =>
    fX2_readTape_21 N N (0 : Int32) v_size v_stepCount w_1 w_2 w_3 v_tape v_steps w_4)

def fX2_joined (N : Nat) (x0 : Int32) (x1 : Int32) (x2 : Int32) : Option (Int32) :=
    if x0 = (37 : Int32) then
    (if x2 = 0 then
    (some ((0 : Int32)))
    else (mm_ck (mm_nz x2) (some ((mm_rem x1 x2)))))
    else (if x0 = (38 : Int32) then
    (if x1 = 0 then
    (some ((0 : Int32)))
    else (if x2 = 0 then
    (some ((0 : Int32)))
    else (some ((1 : Int32)))))
    else (if x0 = (42 : Int32) then
    (some ((x1 * x2)))
    else (if x0 = (43 : Int32) then
    (some ((x1 + x2)))
    else (if x0 = (45 : Int32) then
    (some ((x1 - x2)))
    else (if x0 = (47 : Int32) then
    (if x2 = 0 then
    (some ((0 : Int32)))
    else (mm_ck (mm_nz x2) (some ((x1 / x2)))))
    else (if x0 = (60 : Int32) then
    (if x2 ≤ x1 then
    (some ((0 : Int32)))
    else (some ((1 : Int32))))
    else (if x0 = (61 : Int32) then
    (if x1 = x2 then
    (some ((1 : Int32)))
    else (some ((0 : Int32))))
    else (if x0 = (62 : Int32) then
    (if x1 ≤ x2 then
    (some ((0 : Int32)))
    else (some ((1 : Int32))))
    else (if x0 = (124 : Int32) then
    (if x1 = 0 then
    (if x2 = 0 then
    (some ((0 : Int32)))
    else (some ((1 : Int32))))
    else (some ((1 : Int32))))
    else (some ((0 : Int32))))))))))))

def fX2_pop (N : Nat) (v_stacked : Int32) (v_stack : List Int32) : Option (Int32 × Int32) :=
    if v_stacked = 0 then
    (some ((0 : Int32), v_stacked))
    else (mm_nm ((v_stacked - (1 : Int32))) (fun (y_2 : Int32) =>
    mm_ck (mm_inb y_2 v_stack.length) (some ((mm_ig v_stack y_2), y_2))))

def fX2_push (N : Nat) (x1 : Int32) (v_stacked : Int32) (v_stack : List Int32) : Option (Int32 × List Int32) :=
    if (121 : Int32) ≤ v_stacked then
    (some (v_stacked, v_stack))
    else (mm_ck (mm_inb v_stacked v_stack.length) (mm_nm (mm_is v_stack v_stacked x1) (fun (l_3 : List Int32) =>
    mm_nm ((v_stacked + (1 : Int32))) (fun (y_4 : Int32) =>
    some (y_4, l_3)))))

def fX2_worth_317 (N : Nat) (k_24 : Int32 → Int32 → Int32 → Int32 → Int32 → Int32 → Int32 → Int32 → Int32 → Int32 → List Int32 → List Int32 → Option (Int32 × Int32 × List Int32)) (x1 : Int32) (x2 : Int32) (x3 : Int32) (x4 : Int32) (x5 : Int32) (x6 : Int32) (x7 : Int32) (x8 : Int32) (v_stepCount : Int32) (v_stacked : Int32) (v_steps : List Int32) (v_stack : List Int32) : Option (Int32 × Int32 × List Int32) :=
    mm_nm (x8 + (1 : Int32)) (fun (y_69 : Int32) =>
    k_24 x1 x2 x3 x4 x5 x6 x7 y_69 v_stepCount v_stacked v_steps v_stack)

def fX2_worth_173 (N : Nat) (k_24 : Int32 → Int32 → Int32 → Int32 → Int32 → Int32 → Int32 → Int32 → Int32 → Int32 → List Int32 → List Int32 → Option (Int32 × Int32 × List Int32)) (x1 : Int32) (x2 : Int32) (x3 : Int32) (x4 : Int32) (x5 : Int32) (x6 : Int32) (x8 : Int32) (s0 : Int32) (v_stepCount : Int32) (v_stacked : Int32) (v_steps : List Int32) (v_stack : List Int32) : Option (Int32 × Int32 × List Int32) :=
    fX2_worth_317 N k_24 x1 x2 x3 x4 x5 x6 s0 x8 v_stepCount v_stacked v_steps v_stack

def fX2_worth_242 (N : Nat) (k_24 : Int32 → Int32 → Int32 → Int32 → Int32 → Int32 → Int32 → Int32 → Int32 → Int32 → List Int32 → List Int32 → Option (Int32 × Int32 × List Int32)) (x1 : Int32) (x2 : Int32) (x3 : Int32) (x4 : Int32) (x5 : Int32) (x6 : Int32) (x7 : Int32) (x8 : Int32) (s0 : Int32) (v_stepCount : Int32) (v_stacked : Int32) (v_steps : List Int32) (v_stack : List Int32) : Option (Int32 × Int32 × List Int32) :=
    mm_bd2 (fX2_push N s0 v_stacked v_stack) (fun (w_70 : Int32) (w_71 : List Int32) =>
    fX2_worth_317 N k_24 x1 x2 x3 x4 x5 x6 x7 x8 v_stepCount w_70 v_steps w_71)

def fX2_worth_24 (N : Nat)  : Nat → Int32 → Int32 → Int32 → Int32 → Int32 → Int32 → Int32 → Int32 → Int32 → Int32 → List Int32 → List Int32 → Option (Int32 × Int32 × List Int32)
  | 0 => fun _ _ _ _ _ _ _ _ _ _ _ _ => none
  | n + 1 => fun x1 x2 x3 x4 x5 x6 x7 x8 v_stepCount v_stacked v_steps v_stack =>
    if v_stepCount ≤ x8 then
    (some ((0 : Int32), v_stacked, v_stack))
    else (mm_ck (mm_inb x8 v_steps.length) (mm_nm ((mm_ig v_steps x8)) (fun (y_4 : Int32) =>
    if y_4 = (33 : Int32) then
    (mm_bd2 (fX2_pop N v_stacked v_stack) (fun (r_6 : Int32) (w_7 : Int32) =>
    if r_6 = 0 then
    (fX2_worth_242 N (fX2_worth_24 N n) x1 x2 x3 x4 x5 x6 x7 x8 (1 : Int32) v_stepCount w_7 v_steps v_stack)
    else (fX2_worth_242 N (fX2_worth_24 N n) x1 x2 x3 x4 x5 x6 x7 x8 (0 : Int32) v_stepCount w_7 v_steps v_stack)))
    else (if y_4 = (59 : Int32) then
    (mm_bd2 (fX2_pop N v_stacked v_stack) (fun (r_11 : Int32) (w_12 : Int32) =>
    if x7 = 0 then
    (fX2_worth_317 N (fX2_worth_24 N n) x1 x2 x3 x4 x5 x6 (1 : Int32) x8 v_stepCount w_12 v_steps v_stack)
    else (some ((mm_max (0 : Int32) (mm_min (9 : Int32) r_11)), w_12, v_stack))))
    else (if y_4 = (63 : Int32) then
    (mm_bd2 (fX2_pop N v_stacked v_stack) (fun (r_16 : Int32) (w_17 : Int32) =>
    if r_16 = 0 then
    (fX2_worth_173 N (fX2_worth_24 N n) x1 x2 x3 x4 x5 x6 x8 (0 : Int32) v_stepCount w_17 v_steps v_stack)
    else (fX2_worth_173 N (fX2_worth_24 N n) x1 x2 x3 x4 x5 x6 x8 (1 : Int32) v_stepCount w_17 v_steps v_stack)))
    else (if y_4 = (98 : Int32) then
    (mm_bd2 (fX2_push N x6 v_stacked v_stack) (fun (w_21 : Int32) (w_22 : List Int32) =>
    fX2_worth_317 N (fX2_worth_24 N n) x1 x2 x3 x4 x5 x6 x7 x8 v_stepCount w_21 v_steps w_22))
    else (if y_4 = (102 : Int32) then
    (mm_bd2 (fX2_push N x5 v_stacked v_stack) (fun (w_25 : Int32) (w_26 : List Int32) =>
    fX2_worth_317 N (fX2_worth_24 N n) x1 x2 x3 x4 x5 x6 x7 x8 v_stepCount w_25 v_steps w_26))
    else (if y_4 = (107 : Int32) then
    (mm_bd2 (fX2_push N x4 v_stacked v_stack) (fun (w_29 : Int32) (w_30 : List Int32) =>
    fX2_worth_317 N (fX2_worth_24 N n) x1 x2 x3 x4 x5 x6 x7 x8 v_stepCount w_29 v_steps w_30))
    else (if y_4 = (110 : Int32) then
    (mm_bd2 (fX2_push N x1 v_stacked v_stack) (fun (w_33 : Int32) (w_34 : List Int32) =>
    fX2_worth_317 N (fX2_worth_24 N n) x1 x2 x3 x4 x5 x6 x7 x8 v_stepCount w_33 v_steps w_34))
    else (if y_4 = (114 : Int32) then
    (mm_bd2 (fX2_push N x3 v_stacked v_stack) (fun (w_37 : Int32) (w_38 : List Int32) =>
    fX2_worth_317 N (fX2_worth_24 N n) x1 x2 x3 x4 x5 x6 x7 x8 v_stepCount w_37 v_steps w_38))
    else (if y_4 = (119 : Int32) then
    (mm_bd2 (fX2_push N x2 v_stacked v_stack) (fun (w_41 : Int32) (w_42 : List Int32) =>
    fX2_worth_317 N (fX2_worth_24 N n) x1 x2 x3 x4 x5 x6 x7 x8 v_stepCount w_41 v_steps w_42))
    else (if y_4 = (126 : Int32) then
    (mm_bd2 (fX2_pop N v_stacked v_stack) (fun (r_45 : Int32) (w_46 : Int32) =>
    mm_bd2 (fX2_push N (-r_45) w_46 v_stack) (fun (w_48 : Int32) (w_49 : List Int32) =>
    fX2_worth_317 N (fX2_worth_24 N n) x1 x2 x3 x4 x5 x6 x7 x8 v_stepCount w_48 v_steps w_49)))
    else (mm_ck (mm_inb x8 v_steps.length) (if (mm_ig v_steps x8) < (1000 : Int32) then
    (mm_bd2 (fX2_pop N v_stacked v_stack) (fun (r_53 : Int32) (w_54 : Int32) =>
    mm_ck (mm_inb x8 v_steps.length) (mm_bd2 (fX2_pop N w_54 v_stack) (fun (r_57 : Int32) (w_58 : Int32) =>
    mm_bd1 (fX2_joined N (mm_ig v_steps x8) r_57 r_53) (fun (r_60 : Int32) =>
    mm_bd2 (fX2_push N r_60 w_58 v_stack) (fun (w_62 : Int32) (w_63 : List Int32) =>
    fX2_worth_317 N (fX2_worth_24 N n) x1 x2 x3 x4 x5 x6 x7 x8 v_stepCount w_62 v_steps w_63))))))
    else (mm_ck (mm_inb x8 v_steps.length) (mm_bd2 (fX2_push N ((mm_ig v_steps x8) - (1000 : Int32)) v_stacked v_stack) (fun (w_66 : Int32) (w_67 : List Int32) =>
    fX2_worth_317 N (fX2_worth_24 N n) x1 x2 x3 x4 x5 x6 x7 x8 v_stepCount w_66 v_steps w_67)))))))))))))))))

def fX2_worth (N : Nat) (x1 : Int32) (x2 : Int32) (x3 : Int32) (x4 : Int32) (x5 : Int32) (x6 : Int32) (v_stepCount : Int32) (v_stacked : Int32) (v_steps : List Int32) (v_stack : List Int32) : Option (Int32 × Int32 × List Int32) :=
    if v_stepCount = 0 then
    (some (((1 : Int32) + ((2 : Int32) * x3)), v_stacked, v_stack))
    else (fX2_worth_24 N N x1 x2 x3 x4 x5 x6 (1 : Int32) (0 : Int32) v_stepCount (0 : Int32) v_steps v_stack)

def fX5_forgetLed (N : Nat) (v_folds : Int32) (v_wrong : Int32) (v_more : Int32) : Option (Int32 × Int32 × Int32) :=
    some ((0 : Int32), (0 : Int32), (0 : Int32))

def fX5_layOut_30 (N : Nat) (k_20 : Int32 → Int32 → Int32 → Int32 → Int32 → Int32 → List Int32 → List Int32 → List Int32 → List Int32 → Option (Int32 × Int32 × List Int32 × List Int32 × List Int32 × List Int32)) : Nat → Int32 → Int32 → Int32 → Int32 → Int32 → Int32 → Int32 → List Int32 → List Int32 → List Int32 → List Int32 → Option (Int32 × Int32 × List Int32 × List Int32 × List Int32 × List Int32)
  | 0 => fun _ _ _ _ _ _ _ _ _ _ _ => none
  | n + 1 => fun x1 x2 x3 v_rows v_cols v_high v_wide v_rowOf v_colOf v_below v_face =>
    if v_cols ≤ x3 then
    (mm_nm (x2 + (1 : Int32)) (fun (y_3 : Int32) =>
    k_20 x1 y_3 v_rows v_cols v_high v_wide v_rowOf v_colOf v_below v_face))
    else (mm_ck (mm_inb x1 v_rowOf.length) (mm_nm (mm_is v_rowOf x1 x2) (fun (l_5 : List Int32) =>
    mm_ck (mm_inb x1 v_colOf.length) (mm_nm (mm_is v_colOf x1 x3) (fun (l_7 : List Int32) =>
    mm_ck (mm_inb x1 v_below.length) (mm_nm (mm_is v_below x1 (0 : Int32)) (fun (l_9 : List Int32) =>
    mm_ck (mm_inb x1 v_face.length) (mm_nm (mm_is v_face x1 (0 : Int32)) (fun (l_11 : List Int32) =>
    mm_nm (x1 + (1 : Int32)) (fun (y_12 : Int32) =>
    mm_nm (x3 + (1 : Int32)) (fun (y_13 : Int32) =>
    fX5_layOut_30 N k_20 n y_12 x2 y_13 v_rows v_cols v_high v_wide l_5 l_7 l_9 l_11)))))))))))

def fX5_layOut_20 (N : Nat)  : Nat → Int32 → Int32 → Int32 → Int32 → Int32 → Int32 → List Int32 → List Int32 → List Int32 → List Int32 → Option (Int32 × Int32 × List Int32 × List Int32 × List Int32 × List Int32)
  | 0 => fun _ _ _ _ _ _ _ _ _ _ => none
  | n + 1 => fun x1 x2 v_rows v_cols v_high v_wide v_rowOf v_colOf v_below v_face =>
    if v_rows ≤ x2 then
    (some (v_high, v_wide, v_rowOf, v_colOf, v_below, v_face))
    else (fX5_layOut_30 N (fX5_layOut_20 N n) N x1 x2 (0 : Int32) v_rows v_cols v_high v_wide v_rowOf v_colOf v_below v_face)

def fX5_layOut (N : Nat) (v_rows : Int32) (v_cols : Int32) (v_high : Int32) (v_wide : Int32) (v_rowOf : List Int32) (v_colOf : List Int32) (v_below : List Int32) (v_face : List Int32) : Option (Int32 × Int32 × List Int32 × List Int32 × List Int32 × List Int32) :=
    fX5_layOut_20 N N (0 : Int32) (0 : Int32) v_rows v_cols v_rows v_cols v_rowOf v_colOf v_below v_face

def fJ7_fill_53178_5 (N : Nat)  : Nat → Int32 → Int32 → Int32 → List Int32 → Option (List Int32)
  | 0 => fun _ _ _ _ => none
  | n + 1 => fun x1 x2 x3 p0_row =>
    if x3 ≤ x2 then
    (some (p0_row))
    else (mm_ck (mm_inb x2 p0_row.length) (mm_nm (mm_is p0_row x2 x1) (fun (l_4 : List Int32) =>
    mm_nm (x2 + (1 : Int32)) (fun (y_5 : Int32) =>
    fJ7_fill_53178_5 N n x1 y_5 x3 l_4))))

def fJ7_fill_53178 (N : Nat) (x1 : Int32) (p0_row : List Int32) : Option (List Int32) :=
    mm_nm ((Int32.ofNat p0_row.length)) (fun (y_1 : Int32) =>
    fJ7_fill_53178_5 N N x1 (0 : Int32) y_1 p0_row)

def fX5_renew (N : Nat) (x1 : Int32) (x2 : Int32) (v_rows : Int32) (v_cols : Int32) (v_high : Int32) (v_wide : Int32) (v_folds : Int32) (v_wrong : Int32) (v_more : Int32) (v_rowOf : List Int32) (v_colOf : List Int32) (v_below : List Int32) (v_face : List Int32) (v_worn : List Int32) (v_last : List Int32) : Option (Int32 × Int32 × Int32 × Int32 × Int32 × Int32 × Int32 × List Int32 × List Int32 × List Int32 × List Int32 × List Int32 × List Int32) :=
    mm_bd1 (fJ7_fill_53178 N (0 : Int32) v_worn) (fun (w_1 : List Int32) =>
    mm_bd1 (fJ7_fill_53178 N (0 : Int32) v_last) (fun (w_3 : List Int32) =>
    mm_bd3 (fX5_forgetLed N v_folds v_wrong v_more) (fun (w_5 : Int32) (w_6 : Int32) (w_7 : Int32) =>
    mm_bd6 (fX5_layOut N x1 x2 v_high v_wide v_rowOf v_colOf v_below v_face) (fun (w_9 : Int32) (w_10 : Int32) (w_11 : List Int32) (w_12 : List Int32) (w_13 : List Int32) (w_14 : List Int32) =>
    some (x1, x2, w_9, w_10, w_5, w_6, w_7, w_11, w_12, w_13, w_14, w_1, w_3)))))

def fX5_copy (N : Nat) (v_rows : Int32) (v_cols : Int32) (v_high : Int32) (v_wide : Int32) (v_folds : Int32) (v_wrong : Int32) (v_more : Int32) (v_rowOf : List Int32) (v_colOf : List Int32) (v_below : List Int32) (v_face : List Int32) (v_worn : List Int32) (v_last : List Int32) (p1_rows : Int32) (p1_cols : Int32) (p1_high : Int32) (p1_wide : Int32) (p1_folds : Int32) (p1_wrong : Int32) (p1_more : Int32) (p1_rowOf : List Int32) (p1_colOf : List Int32) (p1_below : List Int32) (p1_face : List Int32) (p1_worn : List Int32) (p1_last : List Int32) : Option (Int32 × Int32 × Int32 × Int32 × Int32 × Int32 × Int32 × List Int32 × List Int32 × List Int32 × List Int32 × List Int32 × List Int32) :=
    mm_ck (mm_cok (0 : Int32) (0 : Int32) (32 : Int32) p1_rowOf.length v_rowOf.length) (mm_nm (mm_cp p1_rowOf v_rowOf (0 : Int32) (0 : Int32) (32 : Int32)) (fun (l_2 : List Int32) =>
    mm_ck (mm_cok (0 : Int32) (0 : Int32) (32 : Int32) p1_colOf.length v_colOf.length) (mm_nm (mm_cp p1_colOf v_colOf (0 : Int32) (0 : Int32) (32 : Int32)) (fun (l_4 : List Int32) =>
    mm_ck (mm_cok (0 : Int32) (0 : Int32) (32 : Int32) p1_below.length v_below.length) (mm_nm (mm_cp p1_below v_below (0 : Int32) (0 : Int32) (32 : Int32)) (fun (l_6 : List Int32) =>
    mm_ck (mm_cok (0 : Int32) (0 : Int32) (32 : Int32) p1_face.length v_face.length) (mm_nm (mm_cp p1_face v_face (0 : Int32) (0 : Int32) (32 : Int32)) (fun (l_8 : List Int32) =>
    mm_ck (mm_cok (0 : Int32) (0 : Int32) (64 : Int32) p1_worn.length v_worn.length) (mm_nm (mm_cp p1_worn v_worn (0 : Int32) (0 : Int32) (64 : Int32)) (fun (l_10 : List Int32) =>
    mm_ck (mm_cok (0 : Int32) (0 : Int32) (64 : Int32) p1_last.length v_last.length) (mm_nm (mm_cp p1_last v_last (0 : Int32) (0 : Int32) (64 : Int32)) (fun (l_12 : List Int32) =>
    some (p1_rows, p1_cols, p1_high, p1_wide, p1_folds, p1_wrong, p1_more, l_2, l_4, l_6, l_8, l_10, l_12)))))))))))))

def fX5_beginTrial (N : Nat) (v_rows : Int32) (v_cols : Int32) (v_high : Int32) (v_wide : Int32) (v_folds : Int32) (v_wrong : Int32) (v_more : Int32) (v_rowOf : List Int32) (v_colOf : List Int32) (v_below : List Int32) (v_face : List Int32) (v_worn : List Int32) (v_last : List Int32) (p1_rows : Int32) (p1_cols : Int32) (p1_high : Int32) (p1_wide : Int32) (p1_folds : Int32) (p1_wrong : Int32) (p1_more : Int32) (p1_rowOf : List Int32) (p1_colOf : List Int32) (p1_below : List Int32) (p1_face : List Int32) (p1_worn : List Int32) (p1_last : List Int32) : Option (Int32 × Int32 × Int32 × Int32 × Int32 × Int32 × Int32 × List Int32 × List Int32 × List Int32 × List Int32 × List Int32 × List Int32) :=
    mm_bd13 (fX5_copy N v_rows v_cols v_high v_wide v_folds v_wrong v_more v_rowOf v_colOf v_below v_face v_worn v_last p1_rows p1_cols p1_high p1_wide p1_folds p1_wrong p1_more p1_rowOf p1_colOf p1_below p1_face p1_worn p1_last) (fun (w_1 : Int32) (w_2 : Int32) (w_3 : Int32) (w_4 : Int32) (w_5 : Int32) (w_6 : Int32) (w_7 : Int32) (w_8 : List Int32) (w_9 : List Int32) (w_10 : List Int32) (w_11 : List Int32) (w_12 : List Int32) (w_13 : List Int32) =>
    mm_bd3 (fX5_forgetLed N w_5 w_6 w_7) (fun (w_15 : Int32) (w_16 : Int32) (w_17 : Int32) =>
    mm_bd6 (fX5_layOut N w_1 w_2 w_3 w_4 w_8 w_9 w_10 w_11) (fun (w_19 : Int32) (w_20 : Int32) (w_21 : List Int32) (w_22 : List Int32) (w_23 : List Int32) (w_24 : List Int32) =>
    some (w_1, w_2, w_19, w_20, w_15, w_16, w_17, w_21, w_22, w_23, w_24, w_12, w_13))))

def fX5_fields (N : Nat) (v_rows : Int32) (v_cols : Int32) : Option (Int32) :=
    some ((v_rows * v_cols))

def fX5_piles (N : Nat) (v_high : Int32) (v_wide : Int32) : Option (Int32) :=
    some ((v_high * v_wide))

def fX5_hasField (N : Nat) (x1 : Int32) (v_rows : Int32) (v_cols : Int32) : Option (Bool) :=
    if x1 < 0 then
    (some (false))
    else (mm_bd1 (fX5_fields N v_rows v_cols) (fun (r_2 : Int32) =>
    if r_2 ≤ x1 then
    (some (false))
    else (some (true))))

def fX5_hasPile (N : Nat) (x1 : Int32) (v_high : Int32) (v_wide : Int32) : Option (Bool) :=
    if x1 < 0 then
    (some (false))
    else (mm_ck (mm_nz (10 : Int32)) (if v_high ≤ (x1 / (10 : Int32)) then
    (some (false))
    else (mm_ck (mm_nz (10 : Int32)) (if v_wide ≤ (mm_rem x1 (10 : Int32)) then
    (some (false))
    else (some (true))))))

def fX5_span (N : Nat) (x1 : Int32) (v_high : Int32) (v_wide : Int32) : Option (Int32) :=
    if (4 : Int32) ≤ x1 then
    (some (v_high))
    else (some (v_wide))

def fX5_hasLine (N : Nat) (x1 : Int32) (x2 : Int32) (v_high : Int32) (v_wide : Int32) : Option (Bool) :=
    if x1 < (1 : Int32) then
    (some (false))
    else (mm_bd1 (fX5_span N x2 v_high v_wide) (fun (r_2 : Int32) =>
    if r_2 ≤ x1 then
    (some (false))
    else (some (true))))

def fX5_spanBehind (N : Nat) (x1 : Int32) (x2 : Int32) (v_high : Int32) (v_wide : Int32) : Option (Int32) :=
    mm_bd1 (fX5_span N x2 v_high v_wide) (fun (r_1 : Int32) =>
    some ((mm_max x1 (r_1 - x1))))

def fX5_neighbour (N : Nat) (x1 : Int32) (x2 : Int32) (v_rows : Int32) (v_cols : Int32) : Option (Int32) :=
    mm_bd1 (fX5_hasField N x1 v_rows v_cols) (fun (r_1 : Bool) =>
    if r_1 = false then
    (some ((-1 : Int32)))
    else (if x2 = 0 then
    (mm_ck (mm_nz v_cols) (if (v_cols - (1 : Int32)) ≤ (mm_rem x1 v_cols) then
    (some ((-1 : Int32)))
    else (some ((x1 + (1 : Int32))))))
    else (if x2 = (1 : Int32) then
    (mm_bd1 (fX5_fields N v_rows v_cols) (fun (r_6 : Int32) =>
    if r_6 ≤ (x1 + v_cols) then
    (some ((-1 : Int32)))
    else (some ((x1 + v_cols)))))
    else (some ((-1 : Int32))))))

def fX5_placeOf (N : Nat) (x1 : Int32) (x2 : Int32) (v_rows : Int32) (v_cols : Int32) (v_rowOf : List Int32) (v_colOf : List Int32) (v_below : List Int32) (v_face : List Int32) : Option (Int32) :=
    mm_bd1 (fX5_hasField N x1 v_rows v_cols) (fun (r_1 : Bool) =>
    if r_1 = false then
    (some ((-1 : Int32)))
    else (if x2 = (0 : Int32) then
    (mm_ck (mm_inb x1 v_rowOf.length) (some ((mm_ig v_rowOf x1))))
    else (if x2 = (1 : Int32) then
    (mm_ck (mm_inb x1 v_colOf.length) (some ((mm_ig v_colOf x1))))
    else (if x2 = (2 : Int32) then
    (mm_ck (mm_inb x1 v_below.length) (some ((mm_ig v_below x1))))
    else (if x2 = (3 : Int32) then
    (mm_ck (mm_inb x1 v_face.length) (some ((mm_ig v_face x1))))
    else (some ((-1 : Int32))))))))

def fX5_heightAt_39 (N : Nat) (k_5 : Int32 → Int32 → Int32 → Int32 → Int32 → Int32 → List Int32 → List Int32 → Option (Int32)) (x1 : Int32) (x2 : Int32) (x3 : Int32) (x4 : Int32) (v_rows : Int32) (v_cols : Int32) (v_rowOf : List Int32) (v_colOf : List Int32) : Option (Int32) :=
    mm_nm (x4 + (1 : Int32)) (fun (y_9 : Int32) =>
    k_5 x1 x2 x3 y_9 v_rows v_cols v_rowOf v_colOf)

def fX5_heightAt_5 (N : Nat)  : Nat → Int32 → Int32 → Int32 → Int32 → Int32 → Int32 → List Int32 → List Int32 → Option (Int32)
  | 0 => fun _ _ _ _ _ _ _ _ => none
  | n + 1 => fun x1 x2 x3 x4 v_rows v_cols v_rowOf v_colOf =>
    mm_bd1 (fX5_fields N v_rows v_cols) (fun (r_1 : Int32) =>
    if r_1 ≤ x4 then
    (some (x3))
    else (mm_ck (mm_inb x4 v_rowOf.length) (if (mm_ig v_rowOf x4) = x1 then
    (mm_ck (mm_inb x4 v_colOf.length) (if (mm_ig v_colOf x4) = x2 then
    (mm_nm (x3 + (1 : Int32)) (fun (y_8 : Int32) =>
    fX5_heightAt_39 N (fX5_heightAt_5 N n) x1 x2 y_8 x4 v_rows v_cols v_rowOf v_colOf))
    else (fX5_heightAt_39 N (fX5_heightAt_5 N n) x1 x2 x3 x4 v_rows v_cols v_rowOf v_colOf)))
    else (fX5_heightAt_39 N (fX5_heightAt_5 N n) x1 x2 x3 x4 v_rows v_cols v_rowOf v_colOf))))

def fX5_heightAt (N : Nat) (x1 : Int32) (x2 : Int32) (v_rows : Int32) (v_cols : Int32) (v_rowOf : List Int32) (v_colOf : List Int32) : Option (Int32) :=
    fX5_heightAt_5 N N x1 x2 (0 : Int32) (0 : Int32) v_rows v_cols v_rowOf v_colOf

def fX5_highestPile_4 (N : Nat)  : Nat → Int32 → Int32 → Int32 → Int32 → List Int32 → Option (Int32)
  | 0 => fun _ _ _ _ _ => none
  | n + 1 => fun x1 x2 v_rows v_cols v_below =>
    mm_bd1 (fX5_fields N v_rows v_cols) (fun (r_1 : Int32) =>
    if r_1 ≤ x2 then
    (some (x1))
    else (mm_ck (mm_inb x2 v_below.length) (mm_nm ((mm_max x1 ((mm_ig v_below x2) + (1 : Int32)))) (fun (y_5 : Int32) =>
    mm_nm (x2 + (1 : Int32)) (fun (y_6 : Int32) =>
    fX5_highestPile_4 N n y_5 y_6 v_rows v_cols v_below)))))

def fX5_highestPile (N : Nat) (v_rows : Int32) (v_cols : Int32) (v_below : List Int32) : Option (Int32) :=
    fX5_highestPile_4 N N (0 : Int32) (0 : Int32) v_rows v_cols v_below

def fX5_fieldAt_48 (N : Nat) (k_3 : Int32 → Int32 → Int32 → Int32 → Int32 → Int32 → List Int32 → List Int32 → List Int32 → Option (Int32)) (x1 : Int32) (x2 : Int32) (x3 : Int32) (x4 : Int32) (v_rows : Int32) (v_cols : Int32) (v_rowOf : List Int32) (v_colOf : List Int32) (v_below : List Int32) : Option (Int32) :=
    mm_nm (x4 + (1 : Int32)) (fun (y_10 : Int32) =>
    k_3 x1 x2 x3 y_10 v_rows v_cols v_rowOf v_colOf v_below)

def fX5_fieldAt_3 (N : Nat)  : Nat → Int32 → Int32 → Int32 → Int32 → Int32 → Int32 → List Int32 → List Int32 → List Int32 → Option (Int32)
  | 0 => fun _ _ _ _ _ _ _ _ _ => none
  | n + 1 => fun x1 x2 x3 x4 v_rows v_cols v_rowOf v_colOf v_below =>
    mm_bd1 (fX5_fields N v_rows v_cols) (fun (r_1 : Int32) =>
    if r_1 ≤ x4 then
    (some ((-1 : Int32)))
    else (mm_ck (mm_inb x4 v_rowOf.length) (if (mm_ig v_rowOf x4) = x1 then
    (mm_ck (mm_inb x4 v_colOf.length) (if (mm_ig v_colOf x4) = x2 then
    (mm_ck (mm_inb x4 v_below.length) (if (mm_ig v_below x4) = x3 then
    (some (x4))
    else (fX5_fieldAt_48 N (fX5_fieldAt_3 N n) x1 x2 x3 x4 v_rows v_cols v_rowOf v_colOf v_below)))
    else (fX5_fieldAt_48 N (fX5_fieldAt_3 N n) x1 x2 x3 x4 v_rows v_cols v_rowOf v_colOf v_below)))
    else (fX5_fieldAt_48 N (fX5_fieldAt_3 N n) x1 x2 x3 x4 v_rows v_cols v_rowOf v_colOf v_below))))

def fX5_fieldAt (N : Nat) (x1 : Int32) (x2 : Int32) (x3 : Int32) (v_rows : Int32) (v_cols : Int32) (v_rowOf : List Int32) (v_colOf : List Int32) (v_below : List Int32) : Option (Int32) :=
    fX5_fieldAt_3 N N x1 x2 x3 (0 : Int32) v_rows v_cols v_rowOf v_colOf v_below

def fX5_topAt (N : Nat) (x1 : Int32) (x2 : Int32) (v_rows : Int32) (v_cols : Int32) (v_rowOf : List Int32) (v_colOf : List Int32) (v_below : List Int32) : Option (Int32) :=
    mm_bd1 (fX5_heightAt N x1 x2 v_rows v_cols v_rowOf v_colOf) (fun (r_1 : Int32) =>
    mm_bd1 (fX5_fieldAt N x1 x2 (r_1 - (1 : Int32)) v_rows v_cols v_rowOf v_colOf v_below) (fun (r_3 : Int32) =>
    some (r_3)))

def fX5_isTop (N : Nat) (x1 : Int32) (v_rows : Int32) (v_cols : Int32) (v_rowOf : List Int32) (v_colOf : List Int32) (v_below : List Int32) : Option (Bool) :=
    mm_ck (mm_inb x1 v_rowOf.length) (mm_ck (mm_inb x1 v_colOf.length) (mm_bd1 (fX5_topAt N (mm_ig v_rowOf x1) (mm_ig v_colOf x1) v_rows v_cols v_rowOf v_colOf v_below) (fun (r_3 : Int32) =>
    if r_3 = x1 then
    (some (true))
    else (some (false)))))

def fX5_topsTouch (N : Nat) (x1 : Int32) (x2 : Int32) (v_rows : Int32) (v_cols : Int32) (v_rowOf : List Int32) (v_colOf : List Int32) (v_below : List Int32) : Option (Bool) :=
    mm_ck (mm_inb x1 v_rowOf.length) (mm_ck (mm_inb x2 v_rowOf.length) (mm_ck (mm_inb x1 v_colOf.length) (mm_ck (mm_inb x2 v_colOf.length) (mm_nm (((mm_abs ((mm_ig v_rowOf x1) - (mm_ig v_rowOf x2))) + (mm_abs ((mm_ig v_colOf x1) - (mm_ig v_colOf x2))))) (fun (y_5 : Int32) =>
    if y_5 = (1 : Int32) then
    (mm_bd1 (fX5_isTop N x1 v_rows v_cols v_rowOf v_colOf v_below) (fun (r_7 : Bool) =>
    if r_7 = false then
    (some (false))
    else (mm_bd1 (fX5_isTop N x2 v_rows v_cols v_rowOf v_colOf v_below) (fun (r_10 : Bool) =>
    if r_10 = false then
    (some (false))
    else (some (true))))))
    else (some (false)))))))

def fX5_torn_40 (N : Nat) (k_4 : Int32 → Int32 → Int32 → Int32 → Int32 → List Int32 → Option (Int32)) (x1 : Int32) (x2 : Int32) (x3 : Int32) (v_rows : Int32) (v_cols : Int32) (v_worn : List Int32) : Option (Int32) :=
    mm_nm (x3 + (1 : Int32)) (fun (y_12 : Int32) =>
    k_4 x1 x2 y_12 v_rows v_cols v_worn)

def fX5_torn_4 (N : Nat)  : Nat → Int32 → Int32 → Int32 → Int32 → Int32 → List Int32 → Option (Int32)
  | 0 => fun _ _ _ _ _ _ => none
  | n + 1 => fun x1 x2 x3 v_rows v_cols v_worn =>
    mm_bd1 (fX5_fields N v_rows v_cols) (fun (r_1 : Int32) =>
    if ((2 : Int32) * r_1) ≤ x3 then
    (some (x2))
    else (mm_ck (mm_nz (2 : Int32)) (mm_ck (mm_nz (2 : Int32)) (mm_bd1 (fX5_neighbour N (x3 / (2 : Int32)) (mm_rem x3 (2 : Int32)) v_rows v_cols) (fun (r_6 : Int32) =>
    if r_6 < 0 then
    (fX5_torn_40 N (fX5_torn_4 N n) x1 x2 x3 v_rows v_cols v_worn)
    else (mm_ck (mm_inb x3 v_worn.length) (if (mm_ig v_worn x3) < x1 then
    (fX5_torn_40 N (fX5_torn_4 N n) x1 x2 x3 v_rows v_cols v_worn)
    else (mm_nm (x2 + (1 : Int32)) (fun (y_11 : Int32) =>
    fX5_torn_40 N (fX5_torn_4 N n) x1 y_11 x3 v_rows v_cols v_worn)))))))))

def fX5_torn (N : Nat) (x1 : Int32) (v_rows : Int32) (v_cols : Int32) (v_worn : List Int32) : Option (Int32) :=
    fX5_torn_4 N N x1 (0 : Int32) (0 : Int32) v_rows v_cols v_worn

def fX5_across (N : Nat) (x1 : Int32) (x2 : Int32) (v_rowOf : List Int32) (v_colOf : List Int32) : Option (Int32) :=
    if (4 : Int32) ≤ x2 then
    (mm_ck (mm_inb x1 v_colOf.length) (some ((mm_ig v_colOf x1))))
    else (mm_ck (mm_inb x1 v_rowOf.length) (some ((mm_ig v_rowOf x1))))

def fX5_along (N : Nat) (x1 : Int32) (x2 : Int32) (v_rowOf : List Int32) (v_colOf : List Int32) : Option (Int32) :=
    if (4 : Int32) ≤ x2 then
    (mm_ck (mm_inb x1 v_rowOf.length) (some ((mm_ig v_rowOf x1))))
    else (mm_ck (mm_inb x1 v_colOf.length) (some ((mm_ig v_colOf x1))))

def fX5_comesOver (N : Nat) (x0 : Int32) : Option (Bool) :=
    if (x0 &&& (1 : Int32)) = 0 then
    (some (true))
    else (some (false))

def fX5_bendAt_14 (N : Nat)  (x2 : Int32) (s0 : Int32) (v_face : List Int32) : Option (Int32) :=
    mm_bd1 (fX5_comesOver N x2) (fun (r_3 : Bool) =>
    if s0 = (mm_b r_3) then
    (some ((1 : Int32)))
    else (some ((2 : Int32))))

def fX5_bendAt (N : Nat) (x1 : Int32) (x2 : Int32) (v_face : List Int32) : Option (Int32) :=
    mm_ck (mm_inb x1 v_face.length) (if (mm_ig v_face x1) = 0 then
    (fX5_bendAt_14 N x2 (1 : Int32) v_face)
    else (fX5_bendAt_14 N x2 (0 : Int32) v_face))

def fX5_comesFromStart (N : Nat) (x0 : Int32) : Option (Bool) :=
    if (x0 &&& (2 : Int32)) = 0 then
    (some (true))
    else (some (false))

def fX5_bendBetween_85 (N : Nat)  (x1 : Int32) (x2 : Int32) (x4 : Int32) (x5 : Int32) (x6 : Int32) (v_rowOf : List Int32) (v_colOf : List Int32) (v_face : List Int32) : Option (Int32) :=
    mm_bd1 (fX5_along N x2 x4 v_rowOf v_colOf) (fun (r_20 : Int32) =>
    if r_20 = x5 then
    (mm_bd1 (fX5_along N x1 x4 v_rowOf v_colOf) (fun (r_23 : Int32) =>
    if r_23 = x6 then
    (mm_bd1 (fX5_bendAt N x2 x4 v_face) (fun (r_26 : Int32) =>
    some (r_26)))
    else (some ((0 : Int32)))))
    else (some ((0 : Int32))))

def fX5_bendBetween_32 (N : Nat)  (x1 : Int32) (x2 : Int32) (x4 : Int32) (x5 : Int32) (s0 : Int32) (v_rowOf : List Int32) (v_colOf : List Int32) (v_face : List Int32) : Option (Int32) :=
    mm_bd1 (fX5_across N x1 x4 v_rowOf v_colOf) (fun (r_7 : Int32) =>
    mm_bd1 (fX5_across N x2 x4 v_rowOf v_colOf) (fun (r_9 : Int32) =>
    if r_7 = r_9 then
    (mm_bd1 (fX5_along N x1 x4 v_rowOf v_colOf) (fun (r_12 : Int32) =>
    if r_12 = x5 then
    (mm_bd1 (fX5_along N x2 x4 v_rowOf v_colOf) (fun (r_15 : Int32) =>
    if r_15 = s0 then
    (mm_bd1 (fX5_bendAt N x1 x4 v_face) (fun (r_18 : Int32) =>
    some (r_18)))
    else (fX5_bendBetween_85 N x1 x2 x4 x5 s0 v_rowOf v_colOf v_face)))
    else (fX5_bendBetween_85 N x1 x2 x4 x5 s0 v_rowOf v_colOf v_face)))
    else (some ((0 : Int32)))))

def fX5_bendBetween_15 (N : Nat)  (x1 : Int32) (x2 : Int32) (x3 : Int32) (x4 : Int32) (s0 : Int32) (v_rowOf : List Int32) (v_colOf : List Int32) (v_face : List Int32) : Option (Int32) :=
    mm_bd1 (fX5_comesFromStart N x4) (fun (r_4 : Bool) =>
    if r_4 = false then
    (fX5_bendBetween_32 N x1 x2 x4 s0 (x3 - (1 : Int32)) v_rowOf v_colOf v_face)
    else (fX5_bendBetween_32 N x1 x2 x4 s0 x3 v_rowOf v_colOf v_face))

def fX5_bendBetween (N : Nat) (x1 : Int32) (x2 : Int32) (x3 : Int32) (x4 : Int32) (v_rowOf : List Int32) (v_colOf : List Int32) (v_face : List Int32) : Option (Int32) :=
    mm_bd1 (fX5_comesFromStart N x4) (fun (r_1 : Bool) =>
    if r_1 = false then
    (fX5_bendBetween_15 N x1 x2 x3 x4 x3 v_rowOf v_colOf v_face)
    else (fX5_bendBetween_15 N x1 x2 x3 x4 (x3 - (1 : Int32)) v_rowOf v_colOf v_face))

def fX5_markBends_83 (N : Nat) (k_6 : Int32 → Int32 → Int32 → Int32 → Int32 → Int32 → Int32 → List Int32 → List Int32 → List Int32 → List Int32 → List Int32 → Option (Int32 × List Int32)) (x1 : Int32) (x2 : Int32) (x3 : Int32) (x4 : Int32) (x5 : Int32) (v_rows : Int32) (v_cols : Int32) (v_rowOf : List Int32) (v_colOf : List Int32) (v_face : List Int32) (v_worn : List Int32) (v_bend : List Int32) : Option (Int32 × List Int32) :=
    mm_nm (x5 + (1 : Int32)) (fun (y_19 : Int32) =>
    k_6 x1 x2 x3 x4 y_19 v_rows v_cols v_rowOf v_colOf v_face v_worn v_bend)

def fX5_markBends_69 (N : Nat) (k_6 : Int32 → Int32 → Int32 → Int32 → Int32 → Int32 → Int32 → List Int32 → List Int32 → List Int32 → List Int32 → List Int32 → Option (Int32 × List Int32)) (x1 : Int32) (x2 : Int32) (x3 : Int32) (x4 : Int32) (x5 : Int32) (s0 : Int32) (s1 : Int32) (v_rows : Int32) (v_cols : Int32) (v_rowOf : List Int32) (v_colOf : List Int32) (v_face : List Int32) (v_worn : List Int32) (v_bend : List Int32) : Option (Int32 × List Int32) :=
    mm_ck (mm_inb s1 v_bend.length) (mm_nm (mm_is v_bend s1 s0) (fun (l_15 : List Int32) =>
    mm_ck (mm_inb x5 l_15.length) (if (mm_ig l_15 x5) = 0 then
    (fX5_markBends_83 N k_6 x1 x2 x3 x4 x5 v_rows v_cols v_rowOf v_colOf v_face v_worn l_15)
    else (mm_nm (x4 + (1 : Int32)) (fun (y_18 : Int32) =>
    fX5_markBends_83 N k_6 x1 x2 x3 y_18 x5 v_rows v_cols v_rowOf v_colOf v_face v_worn l_15)))))

def fX5_markBends_53 (N : Nat) (k_6 : Int32 → Int32 → Int32 → Int32 → Int32 → Int32 → Int32 → List Int32 → List Int32 → List Int32 → List Int32 → List Int32 → Option (Int32 × List Int32)) (x1 : Int32) (x2 : Int32) (x3 : Int32) (x4 : Int32) (x5 : Int32) (s0 : Int32) (v_rows : Int32) (v_cols : Int32) (v_rowOf : List Int32) (v_colOf : List Int32) (v_face : List Int32) (v_worn : List Int32) (v_bend : List Int32) : Option (Int32 × List Int32) :=
    fX5_markBends_69 N k_6 x1 x2 x3 x4 x5 (0 : Int32) s0 v_rows v_cols v_rowOf v_colOf v_face v_worn v_bend

def fX5_markBends_6 (N : Nat)  : Nat → Int32 → Int32 → Int32 → Int32 → Int32 → Int32 → Int32 → List Int32 → List Int32 → List Int32 → List Int32 → List Int32 → Option (Int32 × List Int32)
  | 0 => fun _ _ _ _ _ _ _ _ _ _ _ _ => none
  | n + 1 => fun x1 x2 x3 x4 x5 v_rows v_cols v_rowOf v_colOf v_face v_worn v_bend =>
    mm_bd1 (fX5_fields N v_rows v_cols) (fun (r_1 : Int32) =>
    if ((2 : Int32) * r_1) ≤ x5 then
    (some (x4, v_bend))
    else (mm_ck (mm_nz (2 : Int32)) (mm_ck (mm_nz (2 : Int32)) (mm_bd1 (fX5_neighbour N (x5 / (2 : Int32)) (mm_rem x5 (2 : Int32)) v_rows v_cols) (fun (r_6 : Int32) =>
    if r_6 < 0 then
    (fX5_markBends_53 N (fX5_markBends_6 N n) x1 x2 x3 x4 x5 x5 v_rows v_cols v_rowOf v_colOf v_face v_worn v_bend)
    else (mm_ck (mm_inb x5 v_worn.length) (if (mm_ig v_worn x5) < x3 then
    (mm_ck (mm_nz (2 : Int32)) (mm_bd1 (fX5_bendBetween N (x5 / (2 : Int32)) r_6 x1 x2 v_rowOf v_colOf v_face) (fun (r_12 : Int32) =>
    fX5_markBends_69 N (fX5_markBends_6 N n) x1 x2 x3 x4 x5 r_12 x5 v_rows v_cols v_rowOf v_colOf v_face v_worn v_bend)))
    else (fX5_markBends_53 N (fX5_markBends_6 N n) x1 x2 x3 x4 x5 x5 v_rows v_cols v_rowOf v_colOf v_face v_worn v_bend))))))))

def fX5_markBends (N : Nat) (x1 : Int32) (x2 : Int32) (x3 : Int32) (v_rows : Int32) (v_cols : Int32) (v_rowOf : List Int32) (v_colOf : List Int32) (v_face : List Int32) (v_worn : List Int32) (v_bend : List Int32) : Option (Int32 × List Int32) :=
    fX5_markBends_6 N N x1 x2 x3 (0 : Int32) (0 : Int32) v_rows v_cols v_rowOf v_colOf v_face v_worn v_bend

def fX5_measurePiles_10 (N : Nat)  : Nat → Int32 → Int32 → Int32 → List Int32 → List Int32 → List Int32 → Option (List Int32)
  | 0 => fun _ _ _ _ _ _ => none
  | n + 1 => fun x1 v_rows v_cols v_rowOf v_colOf v_tall =>
    mm_bd1 (fX5_fields N v_rows v_cols) (fun (r_3 : Int32) =>
    if r_3 ≤ x1 then
    (some (v_tall))
    else (mm_ck (mm_inb x1 v_rowOf.length) (mm_ck (mm_inb x1 v_colOf.length) (mm_ck (mm_inb (((mm_ig v_rowOf x1) * (8 : Int32)) + (mm_ig v_colOf x1)) v_tall.length) (mm_nm (((mm_ig v_tall (((mm_ig v_rowOf x1) * (8 : Int32)) + (mm_ig v_colOf x1))) + (1 : Int32))) (fun (y_9 : Int32) =>
    mm_ck (mm_inb (((mm_ig v_rowOf x1) * (8 : Int32)) + (mm_ig v_colOf x1)) v_tall.length) (mm_nm (mm_is v_tall (((mm_ig v_rowOf x1) * (8 : Int32)) + (mm_ig v_colOf x1)) y_9) (fun (l_11 : List Int32) =>
    mm_nm (x1 + (1 : Int32)) (fun (y_12 : Int32) =>
    fX5_measurePiles_10 N n y_12 v_rows v_cols v_rowOf v_colOf l_11)))))))))

def fX5_measurePiles (N : Nat) (v_rows : Int32) (v_cols : Int32) (v_rowOf : List Int32) (v_colOf : List Int32) (v_tall : List Int32) : Option (List Int32) :=
    mm_bd1 (fJ7_fill_53178 N (0 : Int32) v_tall) (fun (w_1 : List Int32) =>
    fX5_measurePiles_10 N N (0 : Int32) v_rows v_cols v_rowOf v_colOf w_1)

def fX5_narrow (N : Nat) (x1 : Int32) (x2 : Int32) (v_high : Int32) (v_wide : Int32) : Option (Int32 × Int32) :=
    if (4 : Int32) ≤ x1 then
    (some (x2, v_wide))
    else (some (v_high, x2))

def fX5_setAlong (N : Nat) (x1 : Int32) (x2 : Int32) (x3 : Int32) (v_rowOf : List Int32) (v_colOf : List Int32) : Option (List Int32 × List Int32) :=
    if (4 : Int32) ≤ x2 then
    (mm_ck (mm_inb x1 v_rowOf.length) (mm_nm (mm_is v_rowOf x1 x3) (fun (l_3 : List Int32) =>
    some (l_3, v_colOf))))
    else (mm_ck (mm_inb x1 v_colOf.length) (mm_nm (mm_is v_colOf x1 x3) (fun (l_5 : List Int32) =>
    some (v_rowOf, l_5))))

def fX5_tallAt (N : Nat) (x1 : Int32) (x2 : Int32) (x3 : Int32) (v_high : Int32) (v_wide : Int32) (v_tall : List Int32) : Option (Int32) :=
    if x1 < 0 then
    (some ((0 : Int32)))
    else (mm_bd1 (fX5_span N x3 v_high v_wide) (fun (r_2 : Int32) =>
    if x1 < r_2 then
    (if (4 : Int32) ≤ x3 then
    (mm_ck (mm_inb ((x1 * (8 : Int32)) + x2) v_tall.length) (some ((mm_ig v_tall ((x1 * (8 : Int32)) + x2)))))
    else (mm_ck (mm_inb ((x2 * (8 : Int32)) + x1) v_tall.length) (some ((mm_ig v_tall ((x2 * (8 : Int32)) + x1))))))
    else (some ((0 : Int32)))))

def fX5_turn_188 (N : Nat) (k_35 : Int32 → Int32 → Int32 → Int32 → Int32 → Int32 → Int32 → Int32 → List Int32 → List Int32 → List Int32 → List Int32 → List Int32 → Option (Int32 × Int32 × List Int32 × List Int32 × List Int32 × List Int32 × List Int32)) (x1 : Int32) (x2 : Int32) (x4 : Int32) (x5 : Int32) (x6 : Int32) (v_rows : Int32) (v_cols : Int32) (v_high : Int32) (v_wide : Int32) (v_rowOf : List Int32) (v_colOf : List Int32) (v_below : List Int32) (v_face : List Int32) (v_tall : List Int32) : Option (Int32 × Int32 × List Int32 × List Int32 × List Int32 × List Int32 × List Int32) :=
    mm_bd2 (fX5_setAlong N x5 x2 (x6 - x4) v_rowOf v_colOf) (fun (w_49 : List Int32) (w_50 : List Int32) =>
    mm_nm (x5 + (1 : Int32)) (fun (y_52 : Int32) =>
    k_35 x1 x2 x4 y_52 v_rows v_cols v_high v_wide w_49 w_50 v_below v_face v_tall))

def fX5_turn_144 (N : Nat) (k_35 : Int32 → Int32 → Int32 → Int32 → Int32 → Int32 → Int32 → Int32 → List Int32 → List Int32 → List Int32 → List Int32 → List Int32 → Option (Int32 × Int32 × List Int32 × List Int32 × List Int32 × List Int32 × List Int32)) (x1 : Int32) (x2 : Int32) (x4 : Int32) (x5 : Int32) (x7 : Int32) (s0 : Int32) (s1 : Int32) (s2 : Int32) (v_rows : Int32) (v_cols : Int32) (v_high : Int32) (v_wide : Int32) (v_rowOf : List Int32) (v_colOf : List Int32) (v_below : List Int32) (v_face : List Int32) (v_tall : List Int32) : Option (Int32 × Int32 × List Int32 × List Int32 × List Int32 × List Int32 × List Int32) :=
    mm_nm ((s1 + s0)) (fun (y_42 : Int32) =>
    mm_ck (mm_inb s2 v_below.length) (mm_nm (mm_is v_below s2 y_42) (fun (l_44 : List Int32) =>
    mm_ck (mm_inb x5 v_face.length) (mm_nm (((1 : Int32) - (mm_ig v_face x5))) (fun (y_46 : Int32) =>
    mm_ck (mm_inb x5 v_face.length) (mm_nm (mm_is v_face x5 y_46) (fun (l_48 : List Int32) =>
    fX5_turn_188 N k_35 x1 x2 x4 x5 x7 v_rows v_cols v_high v_wide v_rowOf v_colOf l_44 l_48 v_tall)))))))

def fX5_turn_90 (N : Nat) (k_35 : Int32 → Int32 → Int32 → Int32 → Int32 → Int32 → Int32 → Int32 → List Int32 → List Int32 → List Int32 → List Int32 → List Int32 → Option (Int32 × Int32 × List Int32 × List Int32 × List Int32 × List Int32 × List Int32)) (x1 : Int32) (x2 : Int32) (x4 : Int32) (x5 : Int32) (x6 : Int32) (x7 : Int32) (x8 : Int32) (s0 : Int32) (v_rows : Int32) (v_cols : Int32) (v_high : Int32) (v_wide : Int32) (v_rowOf : List Int32) (v_colOf : List Int32) (v_below : List Int32) (v_face : List Int32) (v_tall : List Int32) : Option (Int32 × Int32 × List Int32 × List Int32 × List Int32 × List Int32 × List Int32) :=
    mm_bd1 (fX5_comesFromStart N x2) (fun (r_24 : Bool) =>
    if s0 = (mm_b r_24) then
    (mm_bd1 (fX5_across N x5 x2 v_rowOf v_colOf) (fun (r_34 : Int32) =>
    mm_bd1 (fX5_tallAt N x6 r_34 x2 v_high v_wide v_tall) (fun (r_36 : Int32) =>
    mm_ck (mm_inb x5 v_below.length) (mm_bd1 (fX5_comesOver N x2) (fun (r_39 : Bool) =>
    if r_39 = false then
    (fX5_turn_144 N k_35 x1 x2 x4 x5 x7 (0 : Int32) ((r_36 - (1 : Int32)) - (mm_ig v_below x5)) x5 v_rows v_cols v_high v_wide v_rowOf v_colOf v_below v_face v_tall)
    else (fX5_turn_144 N k_35 x1 x2 x4 x5 x7 x8 ((r_36 - (1 : Int32)) - (mm_ig v_below x5)) x5 v_rows v_cols v_high v_wide v_rowOf v_colOf v_below v_face v_tall))))))
    else (mm_bd1 (fX5_comesOver N x2) (fun (r_27 : Bool) =>
    if r_27 = false then
    (mm_ck (mm_inb x5 v_below.length) (mm_nm (((mm_ig v_below x5) + x8)) (fun (y_31 : Int32) =>
    mm_ck (mm_inb x5 v_below.length) (mm_nm (mm_is v_below x5 y_31) (fun (l_33 : List Int32) =>
    fX5_turn_188 N k_35 x1 x2 x4 x5 x6 v_rows v_cols v_high v_wide v_rowOf v_colOf l_33 v_face v_tall)))))
    else (fX5_turn_188 N k_35 x1 x2 x4 x5 x6 v_rows v_cols v_high v_wide v_rowOf v_colOf v_below v_face v_tall))))

def fX5_turn_35 (N : Nat)  : Nat → Int32 → Int32 → Int32 → Int32 → Int32 → Int32 → Int32 → Int32 → List Int32 → List Int32 → List Int32 → List Int32 → List Int32 → Option (Int32 × Int32 × List Int32 × List Int32 × List Int32 × List Int32 × List Int32)
  | 0 => fun _ _ _ _ _ _ _ _ _ _ _ _ _ => none
  | n + 1 => fun x1 x2 x4 x5 v_rows v_cols v_high v_wide v_rowOf v_colOf v_below v_face v_tall =>
    mm_bd1 (fX5_fields N v_rows v_cols) (fun (r_8 : Int32) =>
    if r_8 ≤ x5 then
    (mm_bd1 (fX5_spanBehind N x1 x2 v_high v_wide) (fun (r_11 : Int32) =>
    mm_bd2 (fX5_narrow N x2 r_11 v_high v_wide) (fun (w_13 : Int32) (w_14 : Int32) =>
    some (w_13, w_14, v_rowOf, v_colOf, v_below, v_face, v_tall))))
    else (mm_bd1 (fX5_along N x5 x2 v_rowOf v_colOf) (fun (r_16 : Int32) =>
    mm_nm (((((2 : Int32) * x1) - (1 : Int32)) - r_16)) (fun (y_18 : Int32) =>
    mm_bd1 (fX5_across N x5 x2 v_rowOf v_colOf) (fun (r_19 : Int32) =>
    mm_bd1 (fX5_tallAt N y_18 r_19 x2 v_high v_wide v_tall) (fun (r_21 : Int32) =>
    if x1 ≤ r_16 then
    (fX5_turn_90 N (fX5_turn_35 N n) x1 x2 x4 x5 r_16 y_18 r_21 (0 : Int32) v_rows v_cols v_high v_wide v_rowOf v_colOf v_below v_face v_tall)
    else (fX5_turn_90 N (fX5_turn_35 N n) x1 x2 x4 x5 r_16 y_18 r_21 (1 : Int32) v_rows v_cols v_high v_wide v_rowOf v_colOf v_below v_face v_tall)))))))

def fX5_turn_30 (N : Nat)  (x1 : Int32) (x2 : Int32) (s0 : Int32) (v_rows : Int32) (v_cols : Int32) (v_high : Int32) (v_wide : Int32) (v_rowOf : List Int32) (v_colOf : List Int32) (v_below : List Int32) (v_face : List Int32) (v_tall : List Int32) : Option (Int32 × Int32 × List Int32 × List Int32 × List Int32 × List Int32 × List Int32) :=
    fX5_turn_35 N N x1 x2 s0 (0 : Int32) v_rows v_cols v_high v_wide v_rowOf v_colOf v_below v_face v_tall

def fX5_turn (N : Nat) (x1 : Int32) (x2 : Int32) (v_rows : Int32) (v_cols : Int32) (v_high : Int32) (v_wide : Int32) (v_rowOf : List Int32) (v_colOf : List Int32) (v_below : List Int32) (v_face : List Int32) (v_tall : List Int32) : Option (Int32 × Int32 × List Int32 × List Int32 × List Int32 × List Int32 × List Int32) :=
    mm_bd1 (fX5_measurePiles N v_rows v_cols v_rowOf v_colOf v_tall) (fun (w_1 : List Int32) =>
    mm_bd1 (fX5_span N x2 v_high v_wide) (fun (r_3 : Int32) =>
    mm_bd1 (fX5_comesFromStart N x2) (fun (r_5 : Bool) =>
    if r_5 = false then
    (fX5_turn_30 N x1 x2 (mm_min (0 : Int32) (((2 : Int32) * x1) - r_3)) v_rows v_cols v_high v_wide v_rowOf v_colOf v_below v_face w_1)
    else (fX5_turn_30 N x1 x2 x1 v_rows v_cols v_high v_wide v_rowOf v_colOf v_below v_face w_1))))

def fX5_wear_29 (N : Nat)  (x1 : Int32) (x2 : Int32) (s0 : Int32) (v_wrong : Int32) (v_more : Int32) (v_worn : List Int32) (v_last : List Int32) (v_bend : List Int32) (p3_stepCount : Int32) (p3_stacked : Int32) (p3_steps : List Int32) (p3_stack : List Int32) : Option (Int32 × Int32 × List Int32 × List Int32 × Int32 × List Int32) :=
    mm_ck (mm_inb x1 v_worn.length) (mm_nm ((mm_ig v_worn x1)) (fun (y_7 : Int32) =>
    mm_ck (mm_nz (2 : Int32)) (mm_ck (mm_nz (2 : Int32)) (mm_ck (mm_inb x1 v_bend.length) (mm_bd3 (fX2_worth N x2 y_7 s0 (mm_rem x1 (2 : Int32)) (x1 / (2 : Int32)) (mm_ig v_bend x1) p3_stepCount p3_stacked p3_steps p3_stack) (fun (r_11 : Int32) (w_12 : Int32) (w_13 : List Int32) =>
    mm_nm ((mm_min (99 : Int32) (y_7 + r_11))) (fun (y_15 : Int32) =>
    mm_ck (mm_inb x1 v_worn.length) (mm_nm (mm_is v_worn x1 y_15) (fun (l_17 : List Int32) =>
    mm_ck (mm_inb x1 v_bend.length) (mm_nm ((mm_ig v_bend x1)) (fun (y_19 : Int32) =>
    mm_ck (mm_inb x1 v_last.length) (mm_nm (mm_is v_last x1 y_19) (fun (l_21 : List Int32) =>
    mm_ck (mm_inb x1 l_17.length) (mm_nm ((v_more + ((mm_ig l_17 x1) - y_7))) (fun (y_23 : Int32) =>
    mm_nm ((v_wrong + s0)) (fun (y_24 : Int32) =>
    some (y_24, y_23, l_17, l_21, w_12, w_13)))))))))))))))))

def fX5_wear_28 (N : Nat)  (x1 : Int32) (x2 : Int32) (v_wrong : Int32) (v_more : Int32) (v_worn : List Int32) (v_last : List Int32) (v_bend : List Int32) (p3_stepCount : Int32) (p3_stacked : Int32) (p3_steps : List Int32) (p3_stack : List Int32) : Option (Int32 × Int32 × List Int32 × List Int32 × Int32 × List Int32) :=
    fX5_wear_29 N x1 x2 (0 : Int32) v_wrong v_more v_worn v_last v_bend p3_stepCount p3_stacked p3_steps p3_stack

def fX5_wear (N : Nat) (x1 : Int32) (x2 : Int32) (v_wrong : Int32) (v_more : Int32) (v_worn : List Int32) (v_last : List Int32) (v_bend : List Int32) (p3_stepCount : Int32) (p3_stacked : Int32) (p3_steps : List Int32) (p3_stack : List Int32) : Option (Int32 × Int32 × List Int32 × List Int32 × Int32 × List Int32) :=
    mm_ck (mm_inb x1 v_last.length) (if (mm_ig v_last x1) = 0 then
    (fX5_wear_28 N x1 x2 v_wrong v_more v_worn v_last v_bend p3_stepCount p3_stacked p3_steps p3_stack)
    else (mm_ck (mm_inb x1 v_last.length) (mm_ck (mm_inb x1 v_bend.length) (if (mm_ig v_last x1) = (mm_ig v_bend x1) then
    (fX5_wear_28 N x1 x2 v_wrong v_more v_worn v_last v_bend p3_stepCount p3_stacked p3_steps p3_stack)
    else (fX5_wear_29 N x1 x2 (1 : Int32) v_wrong v_more v_worn v_last v_bend p3_stepCount p3_stacked p3_steps p3_stack)))))

def fX5_bendAndTurn_43 (N : Nat) (k_12 : Int32 → Int32 → Int32 → Int32 → Int32 → Int32 → Int32 → Int32 → Int32 → Int32 → Int32 → List Int32 → List Int32 → List Int32 → List Int32 → List Int32 → List Int32 → List Int32 → List Int32 → Int32 → Int32 → List Int32 → List Int32 → Option (Int32 × Int32 × Int32 × Int32 × Int32 × Int32 × List Int32 × List Int32 × List Int32 × List Int32 × List Int32 × List Int32 × List Int32 × List Int32 × Int32 × List Int32)) (x1 : Int32) (x2 : Int32) (x5 : Int32) (x6 : Int32) (v_rows : Int32) (v_cols : Int32) (v_high : Int32) (v_wide : Int32) (v_folds : Int32) (v_wrong : Int32) (v_more : Int32) (v_rowOf : List Int32) (v_colOf : List Int32) (v_below : List Int32) (v_face : List Int32) (v_worn : List Int32) (v_last : List Int32) (v_bend : List Int32) (v_tall : List Int32) (p4_stepCount : Int32) (p4_stacked : Int32) (p4_steps : List Int32) (p4_stack : List Int32) : Option (Int32 × Int32 × Int32 × Int32 × Int32 × Int32 × List Int32 × List Int32 × List Int32 × List Int32 × List Int32 × List Int32 × List Int32 × List Int32 × Int32 × List Int32) :=
    mm_nm (x6 + (1 : Int32)) (fun (y_25 : Int32) =>
    k_12 x1 x2 x5 y_25 v_rows v_cols v_high v_wide v_folds v_wrong v_more v_rowOf v_colOf v_below v_face v_worn v_last v_bend v_tall p4_stepCount p4_stacked p4_steps p4_stack)

def fX5_bendAndTurn_12 (N : Nat)  : Nat → Int32 → Int32 → Int32 → Int32 → Int32 → Int32 → Int32 → Int32 → Int32 → Int32 → Int32 → List Int32 → List Int32 → List Int32 → List Int32 → List Int32 → List Int32 → List Int32 → List Int32 → Int32 → Int32 → List Int32 → List Int32 → Option (Int32 × Int32 × Int32 × Int32 × Int32 × Int32 × List Int32 × List Int32 × List Int32 × List Int32 × List Int32 × List Int32 × List Int32 × List Int32 × Int32 × List Int32)
  | 0 => fun _ _ _ _ _ _ _ _ _ _ _ _ _ _ _ _ _ _ _ _ _ _ _ => none
  | n + 1 => fun x1 x2 x5 x6 v_rows v_cols v_high v_wide v_folds v_wrong v_more v_rowOf v_colOf v_below v_face v_worn v_last v_bend v_tall p4_stepCount p4_stacked p4_steps p4_stack =>
    mm_bd1 (fX5_fields N v_rows v_cols) (fun (r_4 : Int32) =>
    if ((2 : Int32) * r_4) ≤ x6 then
    (mm_bd7 (fX5_turn N x1 x2 v_rows v_cols v_high v_wide v_rowOf v_colOf v_below v_face v_tall) (fun (w_7 : Int32) (w_8 : Int32) (w_9 : List Int32) (w_10 : List Int32) (w_11 : List Int32) (w_12 : List Int32) (w_13 : List Int32) =>
    mm_nm ((v_folds + (1 : Int32))) (fun (y_15 : Int32) =>
    some (x5, w_7, w_8, y_15, v_wrong, v_more, w_9, w_10, w_11, w_12, v_worn, v_last, v_bend, w_13, p4_stacked, p4_stack))))
    else (mm_ck (mm_inb x6 v_bend.length) (if (mm_ig v_bend x6) = 0 then
    (fX5_bendAndTurn_43 N (fX5_bendAndTurn_12 N n) x1 x2 x5 x6 v_rows v_cols v_high v_wide v_folds v_wrong v_more v_rowOf v_colOf v_below v_face v_worn v_last v_bend v_tall p4_stepCount p4_stacked p4_steps p4_stack)
    else (mm_bd6 (fX5_wear N x6 x5 v_wrong v_more v_worn v_last v_bend p4_stepCount p4_stacked p4_steps p4_stack) (fun (w_18 : Int32) (w_19 : Int32) (w_20 : List Int32) (w_21 : List Int32) (w_22 : Int32) (w_23 : List Int32) =>
    fX5_bendAndTurn_43 N (fX5_bendAndTurn_12 N n) x1 x2 x5 x6 v_rows v_cols v_high v_wide v_folds w_18 w_19 v_rowOf v_colOf v_below v_face w_20 w_21 v_bend v_tall p4_stepCount w_22 p4_steps w_23)))))

def fX5_bendAndTurn (N : Nat) (x1 : Int32) (x2 : Int32) (x3 : Int32) (v_rows : Int32) (v_cols : Int32) (v_high : Int32) (v_wide : Int32) (v_folds : Int32) (v_wrong : Int32) (v_more : Int32) (v_rowOf : List Int32) (v_colOf : List Int32) (v_below : List Int32) (v_face : List Int32) (v_worn : List Int32) (v_last : List Int32) (v_bend : List Int32) (v_tall : List Int32) (p4_stepCount : Int32) (p4_stacked : Int32) (p4_steps : List Int32) (p4_stack : List Int32) : Option (Int32 × Int32 × Int32 × Int32 × Int32 × Int32 × List Int32 × List Int32 × List Int32 × List Int32 × List Int32 × List Int32 × List Int32 × List Int32 × Int32 × List Int32) :=
    mm_bd2 (fX5_markBends N x1 x2 x3 v_rows v_cols v_rowOf v_colOf v_face v_worn v_bend) (fun (r_1 : Int32) (w_2 : List Int32) =>
    fX5_bendAndTurn_12 N N x1 x2 r_1 (0 : Int32) v_rows v_cols v_high v_wide v_folds v_wrong v_more v_rowOf v_colOf v_below v_face v_worn v_last w_2 v_tall p4_stepCount p4_stacked p4_steps p4_stack)

def fX6_holdFolding (N : Nat) (x1 : Int32) (v_holds : Int32) (v_body : Int32) : Option (Int32 × Int32) :=
    some ((1 : Int32), x1)

def fJ7_fill_d0a16_6 (N : Nat)  : Nat → Int64 → Int32 → Int32 → List Int64 → Option (List Int64)
  | 0 => fun _ _ _ _ => none
  | n + 1 => fun x1 x3 x4 p0_row =>
    if x4 ≤ x3 then
    (some (p0_row))
    else (mm_ck (mm_inb x3 p0_row.length) (mm_nm (mm_ls p0_row x3 x1) (fun (l_4 : List Int64) =>
    mm_nm (x3 + (1 : Int32)) (fun (y_5 : Int32) =>
    fJ7_fill_d0a16_6 N n x1 y_5 x4 l_4))))

def fJ7_fill_d0a16 (N : Nat) (x1 : Int64) (p0_row : List Int64) : Option (List Int64) :=
    mm_nm ((Int32.ofNat p0_row.length)) (fun (y_1 : Int32) =>
    fJ7_fill_d0a16_6 N N x1 (0 : Int32) y_1 p0_row)

def fX6_holdRow (N : Nat) (x1 : Int32) (x2 : Int32) (v_holds : Int32) (v_sort : Int32) (v_size : Int32) (v_items : List Int64) : Option (Int32 × Int32 × Int32 × List Int64) :=
    mm_bd1 (fJ7_fill_d0a16 N (0 : Int64) v_items) (fun (w_1 : List Int64) =>
    some ((2 : Int32), x1, x2, w_1))

def fX6_hasPart (N : Nat) (x1 : Int32) (x2 : Int32) (v_size : Int32) : Option (Bool) :=
    if x1 < 0 then
    (some (false))
    else (if v_size < x1 then
    (some (false))
    else (if (v_size - x1) < x2 then
    (some (false))
    else (some (true))))

def fX6_lowestBits (N : Nat) (x1 : Int64) (v_sort : Int32) : Option (Int64) :=
    if v_sort = (0 : Int32) then
    (some ((((x1.toInt32).toInt8.toInt32).toInt64)))
    else (if v_sort = (1 : Int32) then
    (some ((((x1.toInt32).toInt16.toInt32).toInt64)))
    else (if v_sort = (2 : Int32) then
    (some (((x1.toInt32).toInt64)))
    else (if v_sort = (3 : Int32) then
    (some (x1))
    else (if (lg_cmp x1 (0 : Int64)) = 0 then
    (some ((0 : Int64)))
    else (some ((1 : Int64)))))))

def fX6_store (N : Nat) (x1 : Int32) (x2 : Int64) (v_sort : Int32) (v_items : List Int64) : Option (List Int64) :=
    mm_bd1 (fX6_lowestBits N x2 v_sort) (fun (r_1 : Int64) =>
    mm_ck (mm_inb x1 v_items.length) (mm_nm (mm_ls v_items x1 r_1) (fun (l_4 : List Int64) =>
    some (l_4))))

def fX7_lay_15 (N : Nat)  : Nat → Int32 → Int32 → Int32 → List Int32 → Option (Bool × List Int32)
  | 0 => fun _ _ _ _ => none
  | n + 1 => fun x1 x3 x4 v_at =>
    if x4 < 0 then
    (if x3 = 0 then
    (some (true, v_at))
    else (some (false, v_at)))
    else (mm_ck (mm_nz (10 : Int32)) (mm_nm (((mm_rem x3 (10 : Int32)) - (1 : Int32))) (fun (y_7 : Int32) =>
    if y_7 < 0 then
    (some (false, v_at))
    else (if x1 ≤ y_7 then
    (some (false, v_at))
    else (mm_ck (mm_inb y_7 v_at.length) (if (mm_ig v_at y_7) < 0 then
    (mm_ck (mm_inb y_7 v_at.length) (mm_nm (mm_is v_at y_7 x4) (fun (l_13 : List Int32) =>
    mm_ck (mm_nz (10 : Int32)) (mm_nm ((x3 / (10 : Int32))) (fun (y_15 : Int32) =>
    mm_nm (x4 + (-1 : Int32)) (fun (y_16 : Int32) =>
    fX7_lay_15 N n x1 y_15 y_16 l_13))))))
    else (some (false, v_at))))))))

def fX7_lay (N : Nat) (x1 : Int32) (x2 : Int32) (v_at : List Int32) : Option (Bool × List Int32) :=
    mm_bd1 (fJ7_fill_53178 N (-1 : Int32) v_at) (fun (w_1 : List Int32) =>
    mm_nm ((x1 - (1 : Int32))) (fun (y_3 : Int32) =>
    fX7_lay_15 N N x1 x2 y_3 w_1))

def fX7_isWithin (N : Nat) (x1 : Int32) (x2 : Int32) (v_at : List Int32) : Option (Bool) :=
    mm_ck (mm_inb x1 v_at.length) (mm_ck (mm_inb (x1 + (1 : Int32)) v_at.length) (mm_nm ((mm_min (mm_ig v_at x1) (mm_ig v_at (x1 + (1 : Int32))))) (fun (y_3 : Int32) =>
    mm_ck (mm_inb x1 v_at.length) (mm_ck (mm_inb (x1 + (1 : Int32)) v_at.length) (mm_nm ((mm_max (mm_ig v_at x1) (mm_ig v_at (x1 + (1 : Int32))))) (fun (y_6 : Int32) =>
    if x2 ≤ y_3 then
    (some (false))
    else (if y_6 ≤ x2 then
    (some (false))
    else (some (true)))))))))

def fX7_crossing (N : Nat) (x1 : Int32) (x2 : Int32) (v_at : List Int32) : Option (Bool) :=
    mm_ck (mm_inb x2 v_at.length) (mm_bd1 (fX7_isWithin N x1 (mm_ig v_at x2) v_at) (fun (r_2 : Bool) =>
    mm_ck (mm_inb (x2 + (1 : Int32)) v_at.length) (mm_bd1 (fX7_isWithin N x1 (mm_ig v_at (x2 + (1 : Int32))) v_at) (fun (r_5 : Bool) =>
    if (mm_b r_2) = (mm_b r_5) then
    (some (false))
    else (some (true))))))

def fX7_firstCross_13 (N : Nat) (k_2 : Int32 → Int32 → List Int32 → Option (Int32)) : Nat → Int32 → Int32 → Int32 → List Int32 → Option (Int32)
  | 0 => fun _ _ _ _ => none
  | n + 1 => fun x1 x2 x3 v_at =>
    if (x1 - (1 : Int32)) ≤ x3 then
    (mm_nm (x2 + (1 : Int32)) (fun (y_4 : Int32) =>
    k_2 x1 y_4 v_at))
    else (mm_bd1 (fX7_crossing N x2 x3 v_at) (fun (r_5 : Bool) =>
    if r_5 = false then
    (mm_nm (x3 + (2 : Int32)) (fun (y_8 : Int32) =>
    fX7_firstCross_13 N k_2 n x1 x2 y_8 v_at))
    else (some ((((10 : Int32) * x2) + x3)))))

def fX7_firstCross_2 (N : Nat)  : Nat → Int32 → Int32 → List Int32 → Option (Int32)
  | 0 => fun _ _ _ => none
  | n + 1 => fun x1 x2 v_at =>
    if (x1 - (1 : Int32)) ≤ x2 then
    (some ((-1 : Int32)))
    else (mm_nm ((x2 + (2 : Int32))) (fun (y_2 : Int32) =>
    fX7_firstCross_13 N (fX7_firstCross_2 N n) N x1 x2 y_2 v_at))

def fX7_firstCross (N : Nat) (x1 : Int32) (v_at : List Int32) : Option (Int32) :=
    fX7_firstCross_2 N N x1 (0 : Int32) v_at

def fX7_bits_57 (N : Nat) (k_4 : Int32 → Int32 → Int32 → List Int32 → Option (Int32)) (x1 : Int32) (x2 : Int32) (x3 : Int32) (v_at : List Int32) : Option (Int32) :=
    mm_nm (x3 + (1 : Int32)) (fun (y_9 : Int32) =>
    k_4 x1 x2 y_9 v_at)

def fX7_bits_46 (N : Nat) (k_4 : Int32 → Int32 → Int32 → List Int32 → Option (Int32)) (x1 : Int32) (x2 : Int32) (x3 : Int32) (x4 : Int32) (s0 : Int32) (v_at : List Int32) : Option (Int32) :=
    if s0 = x4 then
    (mm_nm ((x2 ||| ((1 : Int32) <<< (x3 &&& 31)))) (fun (y_8 : Int32) =>
    fX7_bits_57 N k_4 x1 y_8 x3 v_at))
    else (fX7_bits_57 N k_4 x1 x2 x3 v_at)

def fX7_bits_22 (N : Nat) (k_4 : Int32 → Int32 → Int32 → List Int32 → Option (Int32)) (x1 : Int32) (x2 : Int32) (x3 : Int32) (s0 : Int32) (v_at : List Int32) : Option (Int32) :=
    mm_ck (mm_inb x3 v_at.length) (mm_ck (mm_inb (x3 + (1 : Int32)) v_at.length) (if (mm_ig v_at (x3 + (1 : Int32))) ≤ (mm_ig v_at x3) then
    (fX7_bits_46 N k_4 x1 x2 x3 s0 (0 : Int32) v_at)
    else (fX7_bits_46 N k_4 x1 x2 x3 s0 (1 : Int32) v_at)))

def fX7_bits_4 (N : Nat)  : Nat → Int32 → Int32 → Int32 → List Int32 → Option (Int32)
  | 0 => fun _ _ _ _ => none
  | n + 1 => fun x1 x2 x3 v_at =>
    if (x1 - (1 : Int32)) ≤ x3 then
    (some (x2))
    else (mm_ck (mm_nz (2 : Int32)) (if (mm_rem x3 (2 : Int32)) = 0 then
    (fX7_bits_22 N (fX7_bits_4 N n) x1 x2 x3 (1 : Int32) v_at)
    else (fX7_bits_22 N (fX7_bits_4 N n) x1 x2 x3 (0 : Int32) v_at)))

def fX7_bits (N : Nat) (x1 : Int32) (v_at : List Int32) : Option (Int32) :=
    fX7_bits_4 N N x1 (0 : Int32) (0 : Int32) v_at

def fX7_isLaid (N : Nat) (x1 : Int32) (x2 : Int32) (v_at : List Int32) : Option (Bool) :=
    if x2 < 0 then
    (some (false))
    else (if (x1 - (1 : Int32)) ≤ x2 then
    (some (false))
    else (mm_ck (mm_inb x2 v_at.length) (if (mm_ig v_at x2) < 0 then
    (some (false))
    else (mm_ck (mm_inb (x2 + (1 : Int32)) v_at.length) (if (mm_ig v_at (x2 + (1 : Int32))) < 0 then
    (some (false))
    else (some (true)))))))

def fX7_crossesLaid_47 (N : Nat) (k_15 : Int32 → Int32 → Int32 → List Int32 → Option (Bool)) (x1 : Int32) (x2 : Int32) (x3 : Int32) (v_at : List Int32) : Option (Bool) :=
    mm_nm (x3 + (2 : Int32)) (fun (y_14 : Int32) =>
    k_15 x1 x2 y_14 v_at)

def fX7_crossesLaid_15 (N : Nat)  : Nat → Int32 → Int32 → Int32 → List Int32 → Option (Bool)
  | 0 => fun _ _ _ _ => none
  | n + 1 => fun x1 x2 x3 v_at =>
    if (x1 - (1 : Int32)) ≤ x3 then
    (some (false))
    else (if x3 = x2 then
    (fX7_crossesLaid_47 N (fX7_crossesLaid_15 N n) x1 x2 x3 v_at)
    else (mm_bd1 (fX7_isLaid N x1 x3 v_at) (fun (r_8 : Bool) =>
    if r_8 = false then
    (fX7_crossesLaid_47 N (fX7_crossesLaid_15 N n) x1 x2 x3 v_at)
    else (mm_bd1 (fX7_crossing N x2 x3 v_at) (fun (r_11 : Bool) =>
    if r_11 = false then
    (fX7_crossesLaid_47 N (fX7_crossesLaid_15 N n) x1 x2 x3 v_at)
    else (some (true)))))))

def fX7_crossesLaid (N : Nat) (x1 : Int32) (x2 : Int32) (v_at : List Int32) : Option (Bool) :=
    mm_bd1 (fX7_isLaid N x1 x2 v_at) (fun (r_1 : Bool) =>
    if r_1 = false then
    (some (false))
    else (mm_ck (mm_nz (2 : Int32)) (mm_nm ((mm_rem x2 (2 : Int32))) (fun (y_5 : Int32) =>
    fX7_crossesLaid_15 N N x1 x2 y_5 v_at))))

def fX7_enter (N : Nat) (x1 : Int32) (x2 : Int32) (v_list : List Int32) (v_found : List Int32) : Option (List Int32 × List Int32) :=
    mm_ck (mm_inb x1 mm_START.length) (mm_ck (mm_inb x1 v_found.length) (mm_nm (((mm_ig mm_START x1) + (mm_ig v_found x1))) (fun (y_3 : Int32) =>
    mm_ck (mm_inb (x1 + (1 : Int32)) mm_START.length) (if (mm_ig mm_START (x1 + (1 : Int32))) ≤ y_3 then
    (some (v_list, v_found))
    else (mm_ck (mm_inb y_3 v_list.length) (mm_nm (mm_is v_list y_3 x2) (fun (l_7 : List Int32) =>
    mm_ck (mm_inb x1 v_found.length) (mm_nm (((mm_ig v_found x1) + (1 : Int32))) (fun (y_9 : Int32) =>
    mm_ck (mm_inb x1 v_found.length) (mm_nm (mm_is v_found x1 y_9) (fun (l_11 : List Int32) =>
    some (l_7, l_11))))))))))))

def fX7_grow_89 (N : Nat) (go : Int32 → Int32 → Int32 → List Int32 → List Int32 → List Int32 → Option (List Int32 × List Int32 × List Int32)) (k_15 : Int32 → Int32 → Int32 → Int32 → List Int32 → List Int32 → List Int32 → Option (List Int32 × List Int32 × List Int32)) (x1 : Int32) (x2 : Int32) (x3 : Int32) (x4 : Int32) (v_list : List Int32) (v_found : List Int32) (v_at : List Int32) : Option (List Int32 × List Int32 × List Int32) :=
    mm_nm (x4 + (1 : Int32)) (fun (y_20 : Int32) =>
    k_15 x1 x2 x3 y_20 v_list v_found v_at)

def fX7_grow_81 (N : Nat) (go : Int32 → Int32 → Int32 → List Int32 → List Int32 → List Int32 → Option (List Int32 × List Int32 × List Int32)) (k_15 : Int32 → Int32 → Int32 → Int32 → List Int32 → List Int32 → List Int32 → Option (List Int32 × List Int32 × List Int32)) (x1 : Int32) (x2 : Int32) (x3 : Int32) (x4 : Int32) (v_list : List Int32) (v_found : List Int32) (v_at : List Int32) : Option (List Int32 × List Int32 × List Int32) :=
    mm_ck (mm_inb x4 v_at.length) (mm_nm (mm_is v_at x4 (-1 : Int32)) (fun (l_22 : List Int32) =>
    fX7_grow_89 N go k_15 x1 x2 x3 x4 v_list v_found l_22))

def fX7_grow_15 (N : Nat) (go : Int32 → Int32 → Int32 → List Int32 → List Int32 → List Int32 → Option (List Int32 × List Int32 × List Int32))  : Nat → Int32 → Int32 → Int32 → Int32 → List Int32 → List Int32 → List Int32 → Option (List Int32 × List Int32 × List Int32)
  | 0 => fun _ _ _ _ _ _ _ => none
  | n + 1 => fun x1 x2 x3 x4 v_list v_found v_at =>
    if x1 ≤ x4 then
    (some (v_list, v_found, v_at))
    else (mm_ck (mm_inb x4 v_at.length) (if (mm_ig v_at x4) < 0 then
    (mm_ck (mm_inb x4 v_at.length) (mm_nm (mm_is v_at x4 x2) (fun (l_9 : List Int32) =>
    mm_bd1 (fX7_crossesLaid N x1 (x4 - (1 : Int32)) l_9) (fun (r_10 : Bool) =>
    if r_10 = false then
    (mm_bd1 (fX7_crossesLaid N x1 x4 l_9) (fun (r_13 : Bool) =>
    if r_13 = false then
    (mm_bd3 (go x1 (x2 + (1 : Int32)) ((((10 : Int32) * x3) + x4) + (1 : Int32)) v_list v_found l_9) (fun (w_16 : List Int32) (w_17 : List Int32) (w_18 : List Int32) =>
    fX7_grow_81 N go (fX7_grow_15 N go n) x1 x2 x3 x4 w_16 w_17 w_18))
    else (fX7_grow_81 N go (fX7_grow_15 N go n) x1 x2 x3 x4 v_list v_found l_9)))
    else (fX7_grow_81 N go (fX7_grow_15 N go n) x1 x2 x3 x4 v_list v_found l_9)))))
    else (fX7_grow_89 N go (fX7_grow_15 N go n) x1 x2 x3 x4 v_list v_found v_at)))

def fX7_growo (N : Nat) (go : Int32 → Int32 → Int32 → List Int32 → List Int32 → List Int32 → Option (List Int32 × List Int32 × List Int32)) (x1 : Int32) (x2 : Int32) (x3 : Int32) (v_list : List Int32) (v_found : List Int32) (v_at : List Int32) : Option (List Int32 × List Int32 × List Int32) :=
    if x2 = x1 then
    (mm_bd2 (fX7_enter N x1 x3 v_list v_found) (fun (w_2 : List Int32) (w_3 : List Int32) =>
    some (w_2, w_3, v_at)))
    else (fX7_grow_15 N go N x1 x2 x3 (0 : Int32) v_list v_found v_at)

def fX7_grow (N : Nat) : Nat → Int32 → Int32 → Int32 → List Int32 → List Int32 → List Int32 → Option (List Int32 × List Int32 × List Int32)
  | 0 => fun _ _ _ _ _ _ => none
  | M + 1 => fX7_growo N (fX7_grow N M)

def fX7_howMany_24 (N : Nat)  (x1 : Int32) (v_list : List Int32) (v_found : List Int32) (v_at : List Int32) : Option (Int32 × List Int32 × List Int32 × List Int32) :=
    mm_ck (mm_inb x1 v_found.length) (some ((mm_ig v_found x1), v_list, v_found, v_at))

def fX7_howMany (N : Nat) (x1 : Int32) (v_list : List Int32) (v_found : List Int32) (v_at : List Int32) : Option (Int32 × List Int32 × List Int32 × List Int32) :=
    mm_ck (mm_inb x1 v_found.length) (if (mm_ig v_found x1) = 0 then
    (mm_bd1 (fJ7_fill_53178 N (-1 : Int32) v_at) (fun (w_3 : List Int32) =>
    mm_bd3 (fX7_grow N 9 x1 (0 : Int32) (0 : Int32) v_list v_found w_3) (fun (w_5 : List Int32) (w_6 : List Int32) (w_7 : List Int32) =>
    fX7_howMany_24 N x1 w_5 w_6 w_7)))
    else (fX7_howMany_24 N x1 v_list v_found v_at))

def fX7_orderAt (N : Nat) (x1 : Int32) (x2 : Int32) (v_list : List Int32) (v_found : List Int32) (v_at : List Int32) : Option (Int32 × List Int32 × List Int32 × List Int32) :=
    if x2 < 0 then
    (some ((-1 : Int32), v_list, v_found, v_at))
    else (mm_bd4 (fX7_howMany N x1 v_list v_found v_at) (fun (r_2 : Int32) (w_3 : List Int32) (w_4 : List Int32) (w_5 : List Int32) =>
    if r_2 ≤ x2 then
    (some ((-1 : Int32), w_3, w_4, w_5))
    else (mm_ck (mm_inb x1 mm_START.length) (mm_ck (mm_inb ((mm_ig mm_START x1) + x2) w_3.length) (some ((mm_ig w_3 ((mm_ig mm_START x1) + x2)), w_3, w_4, w_5))))))

def fX7_isBent (N : Nat) (x1 : Int32) (x2 : Int32) (x3 : Int32) (v_list : List Int32) (v_at : List Int32) : Option (Bool × List Int32) :=
    mm_ck (mm_inb x1 mm_START.length) (mm_ck (mm_inb ((mm_ig mm_START x1) + x2) v_list.length) (mm_bd2 (fX7_lay N x1 (mm_ig v_list ((mm_ig mm_START x1) + x2)) v_at) (fun (r_3 : Bool) (w_4 : List Int32) =>
    if r_3 = false then
    (some (false, w_4))
    else (mm_bd1 (fX7_bits N x1 w_4) (fun (r_7 : Int32) =>
    if r_7 = x3 then
    (some (true, w_4))
    else (some (false, w_4)))))))

def fX7_howManyBent_33 (N : Nat) (k_12 : Int32 → Int32 → Int32 → Int32 → Int32 → List Int32 → List Int32 → List Int32 → Option (Int32 × List Int32 × List Int32 × List Int32)) (x1 : Int32) (x2 : Int32) (x3 : Int32) (x4 : Int32) (x5 : Int32) (v_list : List Int32) (v_found : List Int32) (v_at : List Int32) : Option (Int32 × List Int32 × List Int32 × List Int32) :=
    mm_nm (x5 + (1 : Int32)) (fun (y_12 : Int32) =>
    k_12 x1 x2 x3 x4 y_12 v_list v_found v_at)

def fX7_howManyBent_12 (N : Nat)  : Nat → Int32 → Int32 → Int32 → Int32 → Int32 → List Int32 → List Int32 → List Int32 → Option (Int32 × List Int32 × List Int32 × List Int32)
  | 0 => fun _ _ _ _ _ _ _ _ => none
  | n + 1 => fun x1 x2 x3 x4 x5 v_list v_found v_at =>
    if x4 ≤ x5 then
    (some (x3, v_list, v_found, v_at))
    else (mm_bd2 (fX7_isBent N x1 x5 x2 v_list v_at) (fun (r_7 : Bool) (w_8 : List Int32) =>
    if r_7 = false then
    (fX7_howManyBent_33 N (fX7_howManyBent_12 N n) x1 x2 x3 x4 x5 v_list v_found w_8)
    else (mm_nm (x3 + (1 : Int32)) (fun (y_11 : Int32) =>
    fX7_howManyBent_33 N (fX7_howManyBent_12 N n) x1 x2 y_11 x4 x5 v_list v_found w_8))))

def fX7_howManyBent (N : Nat) (x1 : Int32) (x2 : Int32) (v_list : List Int32) (v_found : List Int32) (v_at : List Int32) : Option (Int32 × List Int32 × List Int32 × List Int32) :=
    mm_bd4 (fX7_howMany N x1 v_list v_found v_at) (fun (r_1 : Int32) (w_2 : List Int32) (w_3 : List Int32) (w_4 : List Int32) =>
    fX7_howManyBent_12 N N x1 x2 (0 : Int32) r_1 (0 : Int32) w_2 w_3 w_4)

def fX7_firstBent_9 (N : Nat)  : Nat → Int32 → Int32 → Int32 → Int32 → List Int32 → List Int32 → List Int32 → Option (Int32 × List Int32 × List Int32 × List Int32)
  | 0 => fun _ _ _ _ _ _ _ => none
  | n + 1 => fun x1 x2 x3 x4 v_list v_found v_at =>
    if x3 ≤ x4 then
    (some ((-1 : Int32), v_list, v_found, v_at))
    else (mm_bd2 (fX7_isBent N x1 x4 x2 v_list v_at) (fun (r_7 : Bool) (w_8 : List Int32) =>
    if r_7 = false then
    (mm_nm (x4 + (1 : Int32)) (fun (y_11 : Int32) =>
    fX7_firstBent_9 N n x1 x2 x3 y_11 v_list v_found w_8))
    else (mm_ck (mm_inb x1 mm_START.length) (mm_ck (mm_inb ((mm_ig mm_START x1) + x4) v_list.length) (some ((mm_ig v_list ((mm_ig mm_START x1) + x4)), v_list, v_found, w_8))))))

def fX7_firstBent (N : Nat) (x1 : Int32) (x2 : Int32) (v_list : List Int32) (v_found : List Int32) (v_at : List Int32) : Option (Int32 × List Int32 × List Int32 × List Int32) :=
    mm_bd4 (fX7_howMany N x1 v_list v_found v_at) (fun (r_1 : Int32) (w_2 : List Int32) (w_3 : List Int32) (w_4 : List Int32) =>
    fX7_firstBent_9 N N x1 x2 r_1 (0 : Int32) w_2 w_3 w_4)

def fX7_howManyTopped_44 (N : Nat) (k_12 : Int32 → Int32 → Int32 → Int32 → Int32 → List Int32 → List Int32 → List Int32 → Option (Int32 × List Int32 × List Int32 × List Int32)) (x1 : Int32) (x2 : Int32) (x3 : Int32) (x4 : Int32) (x5 : Int32) (v_list : List Int32) (v_found : List Int32) (v_at : List Int32) : Option (Int32 × List Int32 × List Int32 × List Int32) :=
    mm_nm (x5 + (1 : Int32)) (fun (y_12 : Int32) =>
    k_12 x1 x2 x3 x4 y_12 v_list v_found v_at)

def fX7_howManyTopped_12 (N : Nat)  : Nat → Int32 → Int32 → Int32 → Int32 → Int32 → List Int32 → List Int32 → List Int32 → Option (Int32 × List Int32 × List Int32 × List Int32)
  | 0 => fun _ _ _ _ _ _ _ _ => none
  | n + 1 => fun x1 x2 x3 x4 x5 v_list v_found v_at =>
    if x4 ≤ x5 then
    (some (x3, v_list, v_found, v_at))
    else (mm_ck (mm_inb x1 mm_START.length) (mm_ck (mm_inb ((mm_ig mm_START x1) + x5) v_list.length) (mm_ck (mm_nz (10 : Int32)) (if (mm_rem (mm_ig v_list ((mm_ig mm_START x1) + x5)) (10 : Int32)) = (x2 + (1 : Int32)) then
    (mm_nm (x3 + (1 : Int32)) (fun (y_11 : Int32) =>
    fX7_howManyTopped_44 N (fX7_howManyTopped_12 N n) x1 x2 y_11 x4 x5 v_list v_found v_at))
    else (fX7_howManyTopped_44 N (fX7_howManyTopped_12 N n) x1 x2 x3 x4 x5 v_list v_found v_at)))))

def fX7_howManyTopped (N : Nat) (x1 : Int32) (x2 : Int32) (v_list : List Int32) (v_found : List Int32) (v_at : List Int32) : Option (Int32 × List Int32 × List Int32 × List Int32) :=
    mm_bd4 (fX7_howMany N x1 v_list v_found v_at) (fun (r_1 : Int32) (w_2 : List Int32) (w_3 : List Int32) (w_4 : List Int32) =>
    fX7_howManyTopped_12 N N x1 x2 (0 : Int32) r_1 (0 : Int32) w_2 w_3 w_4)

def mm_bd48 {α0 α1 α2 α3 α4 α5 α6 α7 α8 α9 α10 α11 α12 α13 α14 α15 α16 α17 α18 α19 α20 α21 α22 α23 α24 α25 α26 α27 α28 α29 α30 α31 α32 α33 α34 α35 α36 α37 α38 α39 α40 α41 α42 α43 α44 α45 α46 α47 β : Type} (x : Option (α0 × α1 × α2 × α3 × α4 × α5 × α6 × α7 × α8 × α9 × α10 × α11 × α12 × α13 × α14 × α15 × α16 × α17 × α18 × α19 × α20 × α21 × α22 × α23 × α24 × α25 × α26 × α27 × α28 × α29 × α30 × α31 × α32 × α33 × α34 × α35 × α36 × α37 × α38 × α39 × α40 × α41 × α42 × α43 × α44 × α45 × α46 × α47)) (k : α0 → α1 → α2 → α3 → α4 → α5 → α6 → α7 → α8 → α9 → α10 → α11 → α12 → α13 → α14 → α15 → α16 → α17 → α18 → α19 → α20 → α21 → α22 → α23 → α24 → α25 → α26 → α27 → α28 → α29 → α30 → α31 → α32 → α33 → α34 → α35 → α36 → α37 → α38 → α39 → α40 → α41 → α42 → α43 → α44 → α45 → α46 → α47 → Option β) : Option β := match x with
  | some (a0, a1, a2, a3, a4, a5, a6, a7, a8, a9, a10, a11, a12, a13, a14, a15, a16, a17, a18, a19, a20, a21, a22, a23, a24, a25, a26, a27, a28, a29, a30, a31, a32, a33, a34, a35, a36, a37, a38, a39, a40, a41, a42, a43, a44, a45, a46, a47) => k a0 a1 a2 a3 a4 a5 a6 a7 a8 a9 a10 a11 a12 a13 a14 a15 a16 a17 a18 a19 a20 a21 a22 a23 a24 a25 a26 a27 a28 a29 a30 a31 a32 a33 a34 a35 a36 a37 a38 a39 a40 a41 a42 a43 a44 a45 a46 a47
  | none => none

def mm_bd53 {α0 α1 α2 α3 α4 α5 α6 α7 α8 α9 α10 α11 α12 α13 α14 α15 α16 α17 α18 α19 α20 α21 α22 α23 α24 α25 α26 α27 α28 α29 α30 α31 α32 α33 α34 α35 α36 α37 α38 α39 α40 α41 α42 α43 α44 α45 α46 α47 α48 α49 α50 α51 α52 β : Type} (x : Option (α0 × α1 × α2 × α3 × α4 × α5 × α6 × α7 × α8 × α9 × α10 × α11 × α12 × α13 × α14 × α15 × α16 × α17 × α18 × α19 × α20 × α21 × α22 × α23 × α24 × α25 × α26 × α27 × α28 × α29 × α30 × α31 × α32 × α33 × α34 × α35 × α36 × α37 × α38 × α39 × α40 × α41 × α42 × α43 × α44 × α45 × α46 × α47 × α48 × α49 × α50 × α51 × α52)) (k : α0 → α1 → α2 → α3 → α4 → α5 → α6 → α7 → α8 → α9 → α10 → α11 → α12 → α13 → α14 → α15 → α16 → α17 → α18 → α19 → α20 → α21 → α22 → α23 → α24 → α25 → α26 → α27 → α28 → α29 → α30 → α31 → α32 → α33 → α34 → α35 → α36 → α37 → α38 → α39 → α40 → α41 → α42 → α43 → α44 → α45 → α46 → α47 → α48 → α49 → α50 → α51 → α52 → Option β) : Option β := match x with
  | some (a0, a1, a2, a3, a4, a5, a6, a7, a8, a9, a10, a11, a12, a13, a14, a15, a16, a17, a18, a19, a20, a21, a22, a23, a24, a25, a26, a27, a28, a29, a30, a31, a32, a33, a34, a35, a36, a37, a38, a39, a40, a41, a42, a43, a44, a45, a46, a47, a48, a49, a50, a51, a52) => k a0 a1 a2 a3 a4 a5 a6 a7 a8 a9 a10 a11 a12 a13 a14 a15 a16 a17 a18 a19 a20 a21 a22 a23 a24 a25 a26 a27 a28 a29 a30 a31 a32 a33 a34 a35 a36 a37 a38 a39 a40 a41 a42 a43 a44 a45 a46 a47 a48 a49 a50 a51 a52
  | none => none

def mm_bd62 {α0 α1 α2 α3 α4 α5 α6 α7 α8 α9 α10 α11 α12 α13 α14 α15 α16 α17 α18 α19 α20 α21 α22 α23 α24 α25 α26 α27 α28 α29 α30 α31 α32 α33 α34 α35 α36 α37 α38 α39 α40 α41 α42 α43 α44 α45 α46 α47 α48 α49 α50 α51 α52 α53 α54 α55 α56 α57 α58 α59 α60 α61 β : Type} (x : Option (α0 × α1 × α2 × α3 × α4 × α5 × α6 × α7 × α8 × α9 × α10 × α11 × α12 × α13 × α14 × α15 × α16 × α17 × α18 × α19 × α20 × α21 × α22 × α23 × α24 × α25 × α26 × α27 × α28 × α29 × α30 × α31 × α32 × α33 × α34 × α35 × α36 × α37 × α38 × α39 × α40 × α41 × α42 × α43 × α44 × α45 × α46 × α47 × α48 × α49 × α50 × α51 × α52 × α53 × α54 × α55 × α56 × α57 × α58 × α59 × α60 × α61)) (k : α0 → α1 → α2 → α3 → α4 → α5 → α6 → α7 → α8 → α9 → α10 → α11 → α12 → α13 → α14 → α15 → α16 → α17 → α18 → α19 → α20 → α21 → α22 → α23 → α24 → α25 → α26 → α27 → α28 → α29 → α30 → α31 → α32 → α33 → α34 → α35 → α36 → α37 → α38 → α39 → α40 → α41 → α42 → α43 → α44 → α45 → α46 → α47 → α48 → α49 → α50 → α51 → α52 → α53 → α54 → α55 → α56 → α57 → α58 → α59 → α60 → α61 → Option β) : Option β := match x with
  | some (a0, a1, a2, a3, a4, a5, a6, a7, a8, a9, a10, a11, a12, a13, a14, a15, a16, a17, a18, a19, a20, a21, a22, a23, a24, a25, a26, a27, a28, a29, a30, a31, a32, a33, a34, a35, a36, a37, a38, a39, a40, a41, a42, a43, a44, a45, a46, a47, a48, a49, a50, a51, a52, a53, a54, a55, a56, a57, a58, a59, a60, a61) => k a0 a1 a2 a3 a4 a5 a6 a7 a8 a9 a10 a11 a12 a13 a14 a15 a16 a17 a18 a19 a20 a21 a22 a23 a24 a25 a26 a27 a28 a29 a30 a31 a32 a33 a34 a35 a36 a37 a38 a39 a40 a41 a42 a43 a44 a45 a46 a47 a48 a49 a50 a51 a52 a53 a54 a55 a56 a57 a58 a59 a60 a61
  | none => none

def mm_bd67 {α0 α1 α2 α3 α4 α5 α6 α7 α8 α9 α10 α11 α12 α13 α14 α15 α16 α17 α18 α19 α20 α21 α22 α23 α24 α25 α26 α27 α28 α29 α30 α31 α32 α33 α34 α35 α36 α37 α38 α39 α40 α41 α42 α43 α44 α45 α46 α47 α48 α49 α50 α51 α52 α53 α54 α55 α56 α57 α58 α59 α60 α61 α62 α63 α64 α65 α66 β : Type} (x : Option (α0 × α1 × α2 × α3 × α4 × α5 × α6 × α7 × α8 × α9 × α10 × α11 × α12 × α13 × α14 × α15 × α16 × α17 × α18 × α19 × α20 × α21 × α22 × α23 × α24 × α25 × α26 × α27 × α28 × α29 × α30 × α31 × α32 × α33 × α34 × α35 × α36 × α37 × α38 × α39 × α40 × α41 × α42 × α43 × α44 × α45 × α46 × α47 × α48 × α49 × α50 × α51 × α52 × α53 × α54 × α55 × α56 × α57 × α58 × α59 × α60 × α61 × α62 × α63 × α64 × α65 × α66)) (k : α0 → α1 → α2 → α3 → α4 → α5 → α6 → α7 → α8 → α9 → α10 → α11 → α12 → α13 → α14 → α15 → α16 → α17 → α18 → α19 → α20 → α21 → α22 → α23 → α24 → α25 → α26 → α27 → α28 → α29 → α30 → α31 → α32 → α33 → α34 → α35 → α36 → α37 → α38 → α39 → α40 → α41 → α42 → α43 → α44 → α45 → α46 → α47 → α48 → α49 → α50 → α51 → α52 → α53 → α54 → α55 → α56 → α57 → α58 → α59 → α60 → α61 → α62 → α63 → α64 → α65 → α66 → Option β) : Option β := match x with
  | some (a0, a1, a2, a3, a4, a5, a6, a7, a8, a9, a10, a11, a12, a13, a14, a15, a16, a17, a18, a19, a20, a21, a22, a23, a24, a25, a26, a27, a28, a29, a30, a31, a32, a33, a34, a35, a36, a37, a38, a39, a40, a41, a42, a43, a44, a45, a46, a47, a48, a49, a50, a51, a52, a53, a54, a55, a56, a57, a58, a59, a60, a61, a62, a63, a64, a65, a66) => k a0 a1 a2 a3 a4 a5 a6 a7 a8 a9 a10 a11 a12 a13 a14 a15 a16 a17 a18 a19 a20 a21 a22 a23 a24 a25 a26 a27 a28 a29 a30 a31 a32 a33 a34 a35 a36 a37 a38 a39 a40 a41 a42 a43 a44 a45 a46 a47 a48 a49 a50 a51 a52 a53 a54 a55 a56 a57 a58 a59 a60 a61 a62 a63 a64 a65 a66
  | none => none

def fX3_append (N : Nat) (x1 : Int32) (x2 : Int32) (v_size : Int32) (v_lines : List Int32) (v_ways : List Int32) : Option (Bool × Int32 × List Int32 × List Int32) :=
    if v_size < (12 : Int32) then
    (mm_ck (mm_inb v_size v_lines.length) (mm_nm (mm_is v_lines v_size x1) (fun (l_3 : List Int32) =>
    mm_ck (mm_inb v_size v_ways.length) (mm_nm (mm_is v_ways v_size x2) (fun (l_5 : List Int32) =>
    mm_nm ((v_size + (1 : Int32))) (fun (y_6 : Int32) =>
    some (true, y_6, l_3, l_5)))))))
    else (some (false, v_size, v_lines, v_ways))

def fX8_isPlannedFold (N : Nat) (x0 : Int64) (x2 : Int64) : Option (Bool) :=
    if (lg_cmp x0 (1 : Int64)) < 0 then
    (some (false))
    else (if 0 < (lg_cmp x0 (7 : Int64)) then
    (some (false))
    else (if (lg_cmp x2 (0 : Int64)) < 0 then
    (some (false))
    else (if 0 ≤ (lg_cmp x2 (8 : Int64)) then
    (some (false))
    else (some (true)))))

def fX3_appendFrom_6 (N : Nat)  : Nat → Int32 → Int32 → Int32 → Int32 → Int32 → List Int32 → List Int32 → Int32 → List Int64 → Option (Int32 × Int32 × List Int32 × List Int32)
  | 0 => fun _ _ _ _ _ _ _ _ _ => none
  | n + 1 => fun x2 x3 x4 x5 v_size v_lines v_ways p1_size p1_items =>
    if x3 ≤ x5 then
    (some (x4, v_size, v_lines, v_ways))
    else (mm_nm ((((x2).toInt64) + ((2 : Int64) * ((x5).toInt64)))) (fun (y_2 : Int64) =>
    if (lg_cmp (y_2 + (1 : Int64)) ((p1_size).toInt64)) < 0 then
    (mm_ck (mm_inb (y_2.toInt32) p1_items.length) (mm_nm ((mm_lg p1_items (y_2.toInt32))) (fun (y_5 : Int64) =>
    mm_ck (mm_inb ((y_2.toInt32) + (1 : Int32)) p1_items.length) (mm_nm ((mm_lg p1_items ((y_2.toInt32) + (1 : Int32)))) (fun (y_7 : Int64) =>
    mm_bd1 (fX8_isPlannedFold N y_5 y_7) (fun (r_8 : Bool) =>
    if r_8 = false then
    (some (x4, v_size, v_lines, v_ways))
    else (mm_bd4 (fX3_append N (y_5.toInt32) (y_7.toInt32) v_size v_lines v_ways) (fun (r_11 : Bool) (w_12 : Int32) (w_13 : List Int32) (w_14 : List Int32) =>
    if r_11 = false then
    (some (x4, w_12, w_13, w_14))
    else (mm_nm (x4 + (1 : Int32)) (fun (y_17 : Int32) =>
    mm_nm (x5 + (1 : Int32)) (fun (y_18 : Int32) =>
    fX3_appendFrom_6 N n x2 x3 y_17 y_18 w_12 w_13 w_14 p1_size p1_items)))))))))))
    else (some (x4, v_size, v_lines, v_ways))))

def fX3_appendFrom (N : Nat) (x2 : Int32) (x3 : Int32) (v_size : Int32) (v_lines : List Int32) (v_ways : List Int32) (p1_size : Int32) (p1_items : List Int64) : Option (Int32 × Int32 × List Int32 × List Int32) :=
    fX3_appendFrom_6 N N x2 x3 (0 : Int32) (0 : Int32) v_size v_lines v_ways p1_size p1_items

def fX3_tryFirst_84 (N : Nat)  (x1 : Int32) (v_size : Int32) (v_trial_rows : Int32) (v_trial_cols : Int32) (v_trial_high : Int32) (v_trial_wide : Int32) (v_trial_folds : Int32) (v_trial_wrong : Int32) (v_trial_more : Int32) (v_trial_rowOf : List Int32) (v_trial_colOf : List Int32) (v_trial_below : List Int32) (v_trial_face : List Int32) (v_trial_worn : List Int32) (v_trial_last : List Int32) (v_trial_bend : List Int32) (v_trial_tall : List Int32) (v_lines : List Int32) (v_ways : List Int32) (p2_rows : Int32) (p2_cols : Int32) (p2_high : Int32) (p2_wide : Int32) (p2_folds : Int32) (p2_wrong : Int32) (p2_more : Int32) (p2_rowOf : List Int32) (p2_colOf : List Int32) (p2_below : List Int32) (p2_face : List Int32) (p2_worn : List Int32) (p2_last : List Int32) (p4_stepCount : Int32) (p4_stacked : Int32) (p4_steps : List Int32) (p4_stack : List Int32) : Option (Int32 × Int32 × Int32 × Int32 × Int32 × Int32 × Int32 × Int32 × List Int32 × List Int32 × List Int32 × List Int32 × List Int32 × List Int32 × List Int32 × List Int32 × Int32 × List Int32) :=
    some ((mm_min x1 v_size), v_trial_rows, v_trial_cols, v_trial_high, v_trial_wide, v_trial_folds, v_trial_wrong, v_trial_more, v_trial_rowOf, v_trial_colOf, v_trial_below, v_trial_face, v_trial_worn, v_trial_last, v_trial_bend, v_trial_tall, p4_stacked, p4_stack)

def fX3_tryFirst_11 (N : Nat)  : Nat → Int32 → Int32 → Int32 → Int32 → Int32 → Int32 → Int32 → Int32 → Int32 → Int32 → Int32 → List Int32 → List Int32 → List Int32 → List Int32 → List Int32 → List Int32 → List Int32 → List Int32 → List Int32 → List Int32 → Int32 → Int32 → Int32 → Int32 → Int32 → Int32 → Int32 → List Int32 → List Int32 → List Int32 → List Int32 → List Int32 → List Int32 → Int32 → Int32 → List Int32 → List Int32 → Option (Int32 × Int32 × Int32 × Int32 × Int32 × Int32 × Int32 × Int32 × List Int32 × List Int32 × List Int32 × List Int32 × List Int32 × List Int32 × List Int32 × List Int32 × Int32 × List Int32)
  | 0 => fun _ _ _ _ _ _ _ _ _ _ _ _ _ _ _ _ _ _ _ _ _ _ _ _ _ _ _ _ _ _ _ _ _ _ _ _ _ _ => none
  | n + 1 => fun x1 x3 x5 v_size v_trial_rows v_trial_cols v_trial_high v_trial_wide v_trial_folds v_trial_wrong v_trial_more v_trial_rowOf v_trial_colOf v_trial_below v_trial_face v_trial_worn v_trial_last v_trial_bend v_trial_tall v_lines v_ways p2_rows p2_cols p2_high p2_wide p2_folds p2_wrong p2_more p2_rowOf p2_colOf p2_below p2_face p2_worn p2_last p4_stepCount p4_stacked p4_steps p4_stack =>
    if x1 ≤ x5 then
    (fX3_tryFirst_84 N x1 v_size v_trial_rows v_trial_cols v_trial_high v_trial_wide v_trial_folds v_trial_wrong v_trial_more v_trial_rowOf v_trial_colOf v_trial_below v_trial_face v_trial_worn v_trial_last v_trial_bend v_trial_tall v_lines v_ways p2_rows p2_cols p2_high p2_wide p2_folds p2_wrong p2_more p2_rowOf p2_colOf p2_below p2_face p2_worn p2_last p4_stepCount p4_stacked p4_steps p4_stack)
    else (if v_size ≤ x5 then
    (fX3_tryFirst_84 N x1 v_size v_trial_rows v_trial_cols v_trial_high v_trial_wide v_trial_folds v_trial_wrong v_trial_more v_trial_rowOf v_trial_colOf v_trial_below v_trial_face v_trial_worn v_trial_last v_trial_bend v_trial_tall v_lines v_ways p2_rows p2_cols p2_high p2_wide p2_folds p2_wrong p2_more p2_rowOf p2_colOf p2_below p2_face p2_worn p2_last p4_stepCount p4_stacked p4_steps p4_stack)
    else (mm_ck (mm_inb x5 v_lines.length) (mm_ck (mm_inb x5 v_ways.length) (mm_bd1 (fX5_hasLine N (mm_ig v_lines x5) (mm_ig v_ways x5) v_trial_high v_trial_wide) (fun (r_19 : Bool) =>
    if r_19 = false then
    (some (x5, v_trial_rows, v_trial_cols, v_trial_high, v_trial_wide, v_trial_folds, v_trial_wrong, v_trial_more, v_trial_rowOf, v_trial_colOf, v_trial_below, v_trial_face, v_trial_worn, v_trial_last, v_trial_bend, v_trial_tall, p4_stacked, p4_stack))
    else (mm_ck (mm_inb x5 v_lines.length) (mm_ck (mm_inb x5 v_ways.length) (mm_bd16 (fX5_bendAndTurn N (mm_ig v_lines x5) (mm_ig v_ways x5) x3 v_trial_rows v_trial_cols v_trial_high v_trial_wide v_trial_folds v_trial_wrong v_trial_more v_trial_rowOf v_trial_colOf v_trial_below v_trial_face v_trial_worn v_trial_last v_trial_bend v_trial_tall p4_stepCount p4_stacked p4_steps p4_stack) (fun (r_24 : Int32) (w_25 : Int32) (w_26 : Int32) (w_27 : Int32) (w_28 : Int32) (w_29 : Int32) (w_30 : List Int32) (w_31 : List Int32) (w_32 : List Int32) (w_33 : List Int32) (w_34 : List Int32) (w_35 : List Int32) (w_36 : List Int32) (w_37 : List Int32) (w_38 : Int32) (w_39 : List Int32) =>
    mm_nm (x5 + (1 : Int32)) (fun (y_41 : Int32) =>
    fX3_tryFirst_11 N n x1 x3 y_41 v_size v_trial_rows v_trial_cols w_25 w_26 w_27 w_28 w_29 w_30 w_31 w_32 w_33 w_34 w_35 w_36 w_37 v_lines v_ways p2_rows p2_cols p2_high p2_wide p2_folds p2_wrong p2_more p2_rowOf p2_colOf p2_below p2_face p2_worn p2_last p4_stepCount w_38 p4_steps w_39))))))))))
