/-! texts -/
def fX4_soughtFold (N : Nat) (x1 : Int32) (v_folds : Int32) (v_best : List Int32) : Option (Int32) :=
    if x1 < 0 then
    (some ((-1 : Int32)))
    else (if v_folds ≤ x1 then
    (some ((-1 : Int32)))
    else (mm_ck (mm_inb x1 v_best.length) (some ((mm_ig v_best x1)))))

def fX8_sheet (N : Nat) (x1 : Int32) (v_now_rows : Int32) (v_now_cols : Int32) (v_now_high : Int32) (v_now_wide : Int32) (v_now_folds : Int32) (v_now_wrong : Int32) (v_now_more : Int32) (v_now_rowOf : List Int32) (v_now_colOf : List Int32) (v_now_below : List Int32) (v_now_face : List Int32) (v_now_worn : List Int32) (v_now_last : List Int32) : Option (Int32 × Int32 × Int32 × Int32 × Int32 × Int32 × Int32 × Int32 × List Int32 × List Int32 × List Int32 × List Int32 × List Int32 × List Int32) :=
    mm_ck (mm_nz (10 : Int32)) (mm_nm ((x1 / (10 : Int32))) (fun (y_2 : Int32) =>
    mm_ck (mm_nz (10 : Int32)) (mm_nm ((mm_rem x1 (10 : Int32))) (fun (y_4 : Int32) =>
    if y_2 < (1 : Int32) then
    (some ((-1 : Int32), v_now_rows, v_now_cols, v_now_high, v_now_wide, v_now_folds, v_now_wrong, v_now_more, v_now_rowOf, v_now_colOf, v_now_below, v_now_face, v_now_worn, v_now_last))
    else (if (4 : Int32) < y_2 then
    (some ((-1 : Int32), v_now_rows, v_now_cols, v_now_high, v_now_wide, v_now_folds, v_now_wrong, v_now_more, v_now_rowOf, v_now_colOf, v_now_below, v_now_face, v_now_worn, v_now_last))
    else (if y_4 < (1 : Int32) then
    (some ((-1 : Int32), v_now_rows, v_now_cols, v_now_high, v_now_wide, v_now_folds, v_now_wrong, v_now_more, v_now_rowOf, v_now_colOf, v_now_below, v_now_face, v_now_worn, v_now_last))
    else (if y_4 ≤ (8 : Int32) then
    (mm_nm ((((10 : Int32) * v_now_rows) + v_now_cols)) (fun (y_9 : Int32) =>
    mm_bd13 (fX5_renew N y_2 y_4 v_now_rows v_now_cols v_now_high v_now_wide v_now_folds v_now_wrong v_now_more v_now_rowOf v_now_colOf v_now_below v_now_face v_now_worn v_now_last) (fun (w_10 : Int32) (w_11 : Int32) (w_12 : Int32) (w_13 : Int32) (w_14 : Int32) (w_15 : Int32) (w_16 : Int32) (w_17 : List Int32) (w_18 : List Int32) (w_19 : List Int32) (w_20 : List Int32) (w_21 : List Int32) (w_22 : List Int32) =>
    some (y_9, w_10, w_11, w_12, w_13, w_14, w_15, w_16, w_17, w_18, w_19, w_20, w_21, w_22))))
    else (some ((-1 : Int32), v_now_rows, v_now_cols, v_now_high, v_now_wide, v_now_folds, v_now_wrong, v_now_more, v_now_rowOf, v_now_colOf, v_now_below, v_now_face, v_now_worn, v_now_last)))))))))

def fX8_limit (N : Nat) (x1 : Int32) (v_changes_value : Int32) (v_changes_done : Int32) (v_changes_size : Int32) (v_changes_before : List Int32) (v_changes_after : List Int32) : Option (Int32 × Int32 × Int32 × Int32 × List Int32 × List Int32) :=
    if x1 < (1 : Int32) then
    (some ((-1 : Int32), v_changes_value, v_changes_done, v_changes_size, v_changes_before, v_changes_after))
    else (if x1 ≤ (99 : Int32) then
    (mm_bd5 (fX0_become N x1 v_changes_value v_changes_done v_changes_size v_changes_before v_changes_after) (fun (w_3 : Int32) (w_4 : Int32) (w_5 : Int32) (w_6 : List Int32) (w_7 : List Int32) =>
    some (v_changes_value, w_3, w_4, w_5, w_6, w_7)))
    else (some ((-1 : Int32), v_changes_value, v_changes_done, v_changes_size, v_changes_before, v_changes_after)))

def fX8_feed (N : Nat) (x1 : Int32) (v_wearing_size : Int32) (v_wearing_tape : List Int32) : Option (Int32 × Int32 × List Int32) :=
    if x1 < 0 then
    (some ((-1 : Int32), v_wearing_size, v_wearing_tape))
    else (if x1 ≤ (255 : Int32) then
    (mm_bd3 (fX2_write N x1 v_wearing_size v_wearing_tape) (fun (r_3 : Bool) (w_4 : Int32) (w_5 : List Int32) =>
    if r_3 = false then
    (some ((-3 : Int32), w_4, w_5))
    else (some (w_4, w_4, w_5))))
    else (some ((-1 : Int32), v_wearing_size, v_wearing_tape)))

def fX8_law (N : Nat) (v_wearing_size : Int32) (v_wearing_stepCount : Int32) (v_wearing_draftCount : Int32) (v_wearing_place : Int32) (v_wearing_fault : Int32) (v_wearing_tape : List Int32) (v_wearing_steps : List Int32) (v_wearing_draft : List Int32) : Option (Int32 × Int32 × Int32 × Int32 × Int32 × Int32 × List Int32 × List Int32) :=
    mm_bd8 (fX2_readTape N v_wearing_size v_wearing_stepCount v_wearing_draftCount v_wearing_place v_wearing_fault v_wearing_tape v_wearing_steps v_wearing_draft) (fun (r_1 : Int32) (w_2 : Int32) (w_3 : Int32) (w_4 : Int32) (w_5 : Int32) (w_6 : Int32) (w_7 : List Int32) (w_8 : List Int32) =>
    if 0 ≤ r_1 then
    (some (((-100 : Int32) - r_1), w_2, w_3, w_4, w_5, w_6, w_7, w_8))
    else (some ((1 : Int32), w_2, w_3, w_4, w_5, w_6, w_7, w_8)))

def fX8_isWay (N : Nat) (x0 : Int32) : Option (Bool) :=
    if x0 < 0 then
    (some (false))
    else (if (8 : Int32) ≤ x0 then
    (some (false))
    else (some (true)))

def fX8_fold (N : Nat) (x1 : Int32) (x2 : Int32) (v_now_rows : Int32) (v_now_cols : Int32) (v_now_high : Int32) (v_now_wide : Int32) (v_now_folds : Int32) (v_now_wrong : Int32) (v_now_more : Int32) (v_now_rowOf : List Int32) (v_now_colOf : List Int32) (v_now_below : List Int32) (v_now_face : List Int32) (v_now_worn : List Int32) (v_now_last : List Int32) (v_now_bend : List Int32) (v_now_tall : List Int32) (v_wearing_stepCount : Int32) (v_wearing_stacked : Int32) (v_wearing_steps : List Int32) (v_wearing_stack : List Int32) (v_changes_value : Int32) : Option (Int32 × Int32 × Int32 × Int32 × Int32 × Int32 × List Int32 × List Int32 × List Int32 × List Int32 × List Int32 × List Int32 × List Int32 × List Int32 × Int32 × List Int32) :=
    mm_bd1 (fX8_isWay N x2) (fun (r_1 : Bool) =>
    if r_1 = false then
    (some ((-1 : Int32), v_now_high, v_now_wide, v_now_folds, v_now_wrong, v_now_more, v_now_rowOf, v_now_colOf, v_now_below, v_now_face, v_now_worn, v_now_last, v_now_bend, v_now_tall, v_wearing_stacked, v_wearing_stack))
    else (mm_bd1 (fX5_hasLine N x1 x2 v_now_high v_now_wide) (fun (r_4 : Bool) =>
    if r_4 = false then
    (some ((-2 : Int32), v_now_high, v_now_wide, v_now_folds, v_now_wrong, v_now_more, v_now_rowOf, v_now_colOf, v_now_below, v_now_face, v_now_worn, v_now_last, v_now_bend, v_now_tall, v_wearing_stacked, v_wearing_stack))
    else (mm_bd16 (fX5_bendAndTurn N x1 x2 v_changes_value v_now_rows v_now_cols v_now_high v_now_wide v_now_folds v_now_wrong v_now_more v_now_rowOf v_now_colOf v_now_below v_now_face v_now_worn v_now_last v_now_bend v_now_tall v_wearing_stepCount v_wearing_stacked v_wearing_steps v_wearing_stack) (fun (r_7 : Int32) (w_8 : Int32) (w_9 : Int32) (w_10 : Int32) (w_11 : Int32) (w_12 : Int32) (w_13 : List Int32) (w_14 : List Int32) (w_15 : List Int32) (w_16 : List Int32) (w_17 : List Int32) (w_18 : List Int32) (w_19 : List Int32) (w_20 : List Int32) (w_21 : Int32) (w_22 : List Int32) =>
    some (r_7, w_8, w_9, w_10, w_11, w_12, w_13, w_14, w_15, w_16, w_17, w_18, w_19, w_20, w_21, w_22))))))

def fX8_flat (N : Nat) (v_now_rows : Int32) (v_now_cols : Int32) (v_now_high : Int32) (v_now_wide : Int32) (v_now_rowOf : List Int32) (v_now_colOf : List Int32) (v_now_below : List Int32) (v_now_face : List Int32) : Option (Int32 × Int32 × Int32 × List Int32 × List Int32 × List Int32 × List Int32) :=
    mm_bd1 (fX5_piles N v_now_high v_now_wide) (fun (r_1 : Int32) =>
    mm_bd6 (fX5_layOut N v_now_rows v_now_cols v_now_high v_now_wide v_now_rowOf v_now_colOf v_now_below v_now_face) (fun (w_3 : Int32) (w_4 : Int32) (w_5 : List Int32) (w_6 : List Int32) (w_7 : List Int32) (w_8 : List Int32) =>
    some (r_1, w_3, w_4, w_5, w_6, w_7, w_8)))

def fX8_crease (N : Nat) (x1 : Int32) (x2 : Int32) (v_now_rows : Int32) (v_now_cols : Int32) (v_now_worn : List Int32) (v_now_last : List Int32) (v_changes_value : Int32) : Option (Int32) :=
    if x1 < 0 then
    (some ((-1 : Int32)))
    else (if x2 < 0 then
    (some ((-1 : Int32)))
    else (if x2 ≤ (2 : Int32) then
    (mm_ck (mm_nz (10 : Int32)) (mm_nm ((x1 / (10 : Int32))) (fun (y_5 : Int32) =>
    mm_ck (mm_nz (10 : Int32)) (mm_nm ((mm_rem x1 (10 : Int32))) (fun (y_7 : Int32) =>
    mm_bd1 (fX5_neighbour N y_5 y_7 v_now_rows v_now_cols) (fun (r_8 : Int32) =>
    if 0 ≤ r_8 then
    (mm_nm ((((2 : Int32) * y_5) + y_7)) (fun (y_11 : Int32) =>
    if x2 = (0 : Int32) then
    (mm_ck (mm_inb y_11 v_now_worn.length) (some ((mm_ig v_now_worn y_11))))
    else (if x2 = (1 : Int32) then
    (mm_ck (mm_inb y_11 v_now_last.length) (some ((mm_ig v_now_last y_11))))
    else (mm_ck (mm_inb y_11 v_now_worn.length) (if (mm_ig v_now_worn y_11) < v_changes_value then
    (some ((0 : Int32)))
    else (some ((1 : Int32))))))))
    else (some ((-1 : Int32)))))))))
    else (some ((-1 : Int32)))))

def fX8_shape (N : Nat) (x1 : Int32) (v_now_rows : Int32) (v_now_cols : Int32) (v_now_high : Int32) (v_now_wide : Int32) (v_now_below : List Int32) : Option (Int32) :=
    if x1 = (0 : Int32) then
    (some (v_now_high))
    else (if x1 = (1 : Int32) then
    (some (v_now_wide))
    else (if x1 = (2 : Int32) then
    (mm_bd1 (fX5_highestPile N v_now_rows v_now_cols v_now_below) (fun (r_4 : Int32) =>
    some (r_4)))
    else (some ((-1 : Int32)))))

def fX8_where (N : Nat) (x1 : Int32) (x2 : Int32) (v_now_rows : Int32) (v_now_cols : Int32) (v_now_rowOf : List Int32) (v_now_colOf : List Int32) (v_now_below : List Int32) (v_now_face : List Int32) : Option (Int32) :=
    mm_bd1 (fX5_placeOf N x1 x2 v_now_rows v_now_cols v_now_rowOf v_now_colOf v_now_below v_now_face) (fun (r_1 : Int32) =>
    some (r_1))

def fX8_pile_67 (N : Nat)  (s0 : Int32) (s1 : Int32) (s2 : Int32) (v_now_rows : Int32) (v_now_cols : Int32) (v_now_high : Int32) (v_now_wide : Int32) (v_now_rowOf : List Int32) (v_now_colOf : List Int32) (v_now_below : List Int32) : Option (Int32) :=
    mm_bd1 (fX5_fieldAt N s2 s1 s0 v_now_rows v_now_cols v_now_rowOf v_now_colOf v_now_below) (fun (r_13 : Int32) =>
    some (r_13))

def fX8_pile (N : Nat) (x1 : Int32) (x2 : Int32) (v_now_rows : Int32) (v_now_cols : Int32) (v_now_high : Int32) (v_now_wide : Int32) (v_now_rowOf : List Int32) (v_now_colOf : List Int32) (v_now_below : List Int32) : Option (Int32) :=
    mm_bd1 (fX5_hasPile N x1 v_now_high v_now_wide) (fun (r_1 : Bool) =>
    if r_1 = false then
    (some ((-1 : Int32)))
    else (if (-2 : Int32) ≤ x2 then
    (mm_ck (mm_nz (10 : Int32)) (mm_ck (mm_nz (10 : Int32)) (mm_bd1 (fX5_heightAt N (x1 / (10 : Int32)) (mm_rem x1 (10 : Int32)) v_now_rows v_now_cols v_now_rowOf v_now_colOf) (fun (r_7 : Int32) =>
    if x2 = (-2 : Int32) then
    (some (r_7))
    else (mm_ck (mm_nz (10 : Int32)) (mm_ck (mm_nz (10 : Int32)) (if x2 = (-1 : Int32) then
    (fX8_pile_67 N (r_7 - (1 : Int32)) (mm_rem x1 (10 : Int32)) (x1 / (10 : Int32)) v_now_rows v_now_cols v_now_high v_now_wide v_now_rowOf v_now_colOf v_now_below)
    else (fX8_pile_67 N x2 (mm_rem x1 (10 : Int32)) (x1 / (10 : Int32)) v_now_rows v_now_cols v_now_high v_now_wide v_now_rowOf v_now_colOf v_now_below))))))))
    else (some ((-1 : Int32)))))

def fX8_led (N : Nat) (x1 : Int32) (v_now_rows : Int32) (v_now_cols : Int32) (v_now_folds : Int32) (v_now_wrong : Int32) (v_now_worn : List Int32) (v_changes_value : Int32) : Option (Int32) :=
    if x1 = (0 : Int32) then
    (some (v_now_folds))
    else (if x1 = (1 : Int32) then
    (some (v_now_wrong))
    else (if x1 = (2 : Int32) then
    (mm_bd1 (fX5_torn N v_changes_value v_now_rows v_now_cols v_now_worn) (fun (r_4 : Int32) =>
    some (r_4)))
    else (some ((-1 : Int32)))))

def fX8_plan (N : Nat) (x1 : Int32) (x2 : Int32) (v_planned_size : Int32) (v_planned_lines : List Int32) (v_planned_ways : List Int32) : Option (Int32 × Int32 × List Int32 × List Int32) :=
    if x1 = 0 then
    (some ((0 : Int32), (0 : Int32), v_planned_lines, v_planned_ways))
    else (mm_bd1 (fX8_isPlannedFold N ((x1).toInt64) ((x2).toInt64)) (fun (r_2 : Bool) =>
    if r_2 = false then
    (some ((-1 : Int32), v_planned_size, v_planned_lines, v_planned_ways))
    else (mm_bd4 (fX3_append N x1 x2 v_planned_size v_planned_lines v_planned_ways) (fun (r_5 : Bool) (w_6 : Int32) (w_7 : List Int32) (w_8 : List Int32) =>
    if r_5 = false then
    (some ((-3 : Int32), w_6, w_7, w_8))
    else (some (w_6, w_6, w_7, w_8))))))

def fX8_isShelf (N : Nat) (x0 : Int32) : Option (Bool) :=
    if x0 < 0 then
    (some (false))
    else (if (6 : Int32) ≤ x0 then
    (some (false))
    else (some (true)))

def fX8_plans (N : Nat) (x1 : Int32) (x2 : Int32) (x3 : Int32) (v_planned_size : Int32) (v_planned_lines : List Int32) (v_planned_ways : List Int32) (v_shelves0_holds : Int32) (v_shelves0_sort : Int32) (v_shelves0_size : Int32) (v_shelves0_items : List Int64) (v_shelves1_holds : Int32) (v_shelves1_sort : Int32) (v_shelves1_size : Int32) (v_shelves1_items : List Int64) (v_shelves2_holds : Int32) (v_shelves2_sort : Int32) (v_shelves2_size : Int32) (v_shelves2_items : List Int64) (v_shelves3_holds : Int32) (v_shelves3_sort : Int32) (v_shelves3_size : Int32) (v_shelves3_items : List Int64) (v_shelves4_holds : Int32) (v_shelves4_sort : Int32) (v_shelves4_size : Int32) (v_shelves4_items : List Int64) (v_shelves5_holds : Int32) (v_shelves5_sort : Int32) (v_shelves5_size : Int32) (v_shelves5_items : List Int64) : Option (Int32 × Int32 × List Int32 × List Int32) :=
    mm_bd1 (fX8_isShelf N x1) (fun (r_1 : Bool) =>
    if r_1 = false then
    (some ((-1 : Int32), v_planned_size, v_planned_lines, v_planned_ways))
    else (if x3 < (1 : Int32) then
    (some ((-1 : Int32), v_planned_size, v_planned_lines, v_planned_ways))
    else (if x3 ≤ (12 : Int32) then
    (if x1 = (0 : Int32) then
    (if v_shelves0_holds = 0 then
    (some ((0 : Int32), v_planned_size, v_planned_lines, v_planned_ways))
    else (if v_shelves0_holds = (2 : Int32) then
    (if v_shelves0_sort = 0 then
    (if 0 ≤ x2 then
    (mm_bd4 (fX3_appendFrom N x2 x3 v_planned_size v_planned_lines v_planned_ways v_shelves0_size v_shelves0_items) (fun (r_11 : Int32) (w_12 : Int32) (w_13 : List Int32) (w_14 : List Int32) =>
    some (r_11, w_12, w_13, w_14)))
    else (some ((0 : Int32), v_planned_size, v_planned_lines, v_planned_ways)))
    else (some ((-12 : Int32), v_planned_size, v_planned_lines, v_planned_ways)))
    else (some ((-12 : Int32), v_planned_size, v_planned_lines, v_planned_ways))))
    else (if x1 = (1 : Int32) then
    (if v_shelves1_holds = 0 then
    (some ((0 : Int32), v_planned_size, v_planned_lines, v_planned_ways))
    else (if v_shelves1_holds = (2 : Int32) then
    (if v_shelves1_sort = 0 then
    (if 0 ≤ x2 then
    (mm_bd4 (fX3_appendFrom N x2 x3 v_planned_size v_planned_lines v_planned_ways v_shelves1_size v_shelves1_items) (fun (r_21 : Int32) (w_22 : Int32) (w_23 : List Int32) (w_24 : List Int32) =>
    some (r_21, w_22, w_23, w_24)))
    else (some ((0 : Int32), v_planned_size, v_planned_lines, v_planned_ways)))
    else (some ((-12 : Int32), v_planned_size, v_planned_lines, v_planned_ways)))
    else (some ((-12 : Int32), v_planned_size, v_planned_lines, v_planned_ways))))
    else (if x1 = (2 : Int32) then
    (if v_shelves2_holds = 0 then
    (some ((0 : Int32), v_planned_size, v_planned_lines, v_planned_ways))
    else (if v_shelves2_holds = (2 : Int32) then
    (if v_shelves2_sort = 0 then
    (if 0 ≤ x2 then
    (mm_bd4 (fX3_appendFrom N x2 x3 v_planned_size v_planned_lines v_planned_ways v_shelves2_size v_shelves2_items) (fun (r_31 : Int32) (w_32 : Int32) (w_33 : List Int32) (w_34 : List Int32) =>
    some (r_31, w_32, w_33, w_34)))
    else (some ((0 : Int32), v_planned_size, v_planned_lines, v_planned_ways)))
    else (some ((-12 : Int32), v_planned_size, v_planned_lines, v_planned_ways)))
    else (some ((-12 : Int32), v_planned_size, v_planned_lines, v_planned_ways))))
    else (if x1 = (3 : Int32) then
    (if v_shelves3_holds = 0 then
    (some ((0 : Int32), v_planned_size, v_planned_lines, v_planned_ways))
    else (if v_shelves3_holds = (2 : Int32) then
    (if v_shelves3_sort = 0 then
    (if 0 ≤ x2 then
    (mm_bd4 (fX3_appendFrom N x2 x3 v_planned_size v_planned_lines v_planned_ways v_shelves3_size v_shelves3_items) (fun (r_41 : Int32) (w_42 : Int32) (w_43 : List Int32) (w_44 : List Int32) =>
    some (r_41, w_42, w_43, w_44)))
    else (some ((0 : Int32), v_planned_size, v_planned_lines, v_planned_ways)))
    else (some ((-12 : Int32), v_planned_size, v_planned_lines, v_planned_ways)))
    else (some ((-12 : Int32), v_planned_size, v_planned_lines, v_planned_ways))))
    else (if x1 = (4 : Int32) then
    (if v_shelves4_holds = 0 then
    (some ((0 : Int32), v_planned_size, v_planned_lines, v_planned_ways))
    else (if v_shelves4_holds = (2 : Int32) then
    (if v_shelves4_sort = 0 then
    (if 0 ≤ x2 then
    (mm_bd4 (fX3_appendFrom N x2 x3 v_planned_size v_planned_lines v_planned_ways v_shelves4_size v_shelves4_items) (fun (r_51 : Int32) (w_52 : Int32) (w_53 : List Int32) (w_54 : List Int32) =>
    some (r_51, w_52, w_53, w_54)))
    else (some ((0 : Int32), v_planned_size, v_planned_lines, v_planned_ways)))
    else (some ((-12 : Int32), v_planned_size, v_planned_lines, v_planned_ways)))
    else (some ((-12 : Int32), v_planned_size, v_planned_lines, v_planned_ways))))
    else (if x1 = (5 : Int32) then
    (if v_shelves5_holds = 0 then
    (some ((0 : Int32), v_planned_size, v_planned_lines, v_planned_ways))
    else (if v_shelves5_holds = (2 : Int32) then
    (if v_shelves5_sort = 0 then
    (if 0 ≤ x2 then
    (mm_bd4 (fX3_appendFrom N x2 x3 v_planned_size v_planned_lines v_planned_ways v_shelves5_size v_shelves5_items) (fun (r_61 : Int32) (w_62 : Int32) (w_63 : List Int32) (w_64 : List Int32) =>
    some (r_61, w_62, w_63, w_64)))
    else (some ((0 : Int32), v_planned_size, v_planned_lines, v_planned_ways)))
    else (some ((-12 : Int32), v_planned_size, v_planned_lines, v_planned_ways)))
    else (some ((-12 : Int32), v_planned_size, v_planned_lines, v_planned_ways))))
    else (none)))))))
    else (some ((-1 : Int32), v_planned_size, v_planned_lines, v_planned_ways)))))

def fX8_cost (N : Nat) (x1 : Int32) (v_now_rows : Int32) (v_now_cols : Int32) (v_now_high : Int32) (v_now_wide : Int32) (v_now_folds : Int32) (v_now_wrong : Int32) (v_now_more : Int32) (v_now_rowOf : List Int32) (v_now_colOf : List Int32) (v_now_below : List Int32) (v_now_face : List Int32) (v_now_worn : List Int32) (v_now_last : List Int32) (v_wearing_stepCount : Int32) (v_wearing_stacked : Int32) (v_wearing_steps : List Int32) (v_wearing_stack : List Int32) (v_planned_size : Int32) (v_planned_trial_rows : Int32) (v_planned_trial_cols : Int32) (v_planned_trial_high : Int32) (v_planned_trial_wide : Int32) (v_planned_trial_folds : Int32) (v_planned_trial_wrong : Int32) (v_planned_trial_more : Int32) (v_planned_trial_rowOf : List Int32) (v_planned_trial_colOf : List Int32) (v_planned_trial_below : List Int32) (v_planned_trial_face : List Int32) (v_planned_trial_worn : List Int32) (v_planned_trial_last : List Int32) (v_planned_trial_bend : List Int32) (v_planned_trial_tall : List Int32) (v_planned_lines : List Int32) (v_planned_ways : List Int32) (v_changes_value : Int32) : Option (Int32 × Int32 × List Int32 × Int32 × Int32 × Int32 × Int32 × Int32 × Int32 × Int32 × List Int32 × List Int32 × List Int32 × List Int32 × List Int32 × List Int32 × List Int32 × List Int32) :=
    if x1 < 0 then
    (some ((-1 : Int32), v_wearing_stacked, v_wearing_stack, v_planned_trial_rows, v_planned_trial_cols, v_planned_trial_high, v_planned_trial_wide, v_planned_trial_folds, v_planned_trial_wrong, v_planned_trial_more, v_planned_trial_rowOf, v_planned_trial_colOf, v_planned_trial_below, v_planned_trial_face, v_planned_trial_worn, v_planned_trial_last, v_planned_trial_bend, v_planned_trial_tall))
    else (if x1 ≤ (3 : Int32) then
    (mm_bd18 (fX3_tryFirst N (12 : Int32) v_changes_value v_planned_size v_planned_trial_rows v_planned_trial_cols v_planned_trial_high v_planned_trial_wide v_planned_trial_folds v_planned_trial_wrong v_planned_trial_more v_planned_trial_rowOf v_planned_trial_colOf v_planned_trial_below v_planned_trial_face v_planned_trial_worn v_planned_trial_last v_planned_trial_bend v_planned_trial_tall v_planned_lines v_planned_ways v_now_rows v_now_cols v_now_high v_now_wide v_now_folds v_now_wrong v_now_more v_now_rowOf v_now_colOf v_now_below v_now_face v_now_worn v_now_last v_wearing_stepCount v_wearing_stacked v_wearing_steps v_wearing_stack) (fun (r_3 : Int32) (w_4 : Int32) (w_5 : Int32) (w_6 : Int32) (w_7 : Int32) (w_8 : Int32) (w_9 : Int32) (w_10 : Int32) (w_11 : List Int32) (w_12 : List Int32) (w_13 : List Int32) (w_14 : List Int32) (w_15 : List Int32) (w_16 : List Int32) (w_17 : List Int32) (w_18 : List Int32) (w_19 : Int32) (w_20 : List Int32) =>
    if x1 = (0 : Int32) then
    (some (r_3, w_19, w_20, w_4, w_5, w_6, w_7, w_8, w_9, w_10, w_11, w_12, w_13, w_14, w_15, w_16, w_17, w_18))
    else (if x1 = (1 : Int32) then
    (some (w_10, w_19, w_20, w_4, w_5, w_6, w_7, w_8, w_9, w_10, w_11, w_12, w_13, w_14, w_15, w_16, w_17, w_18))
    else (if x1 = (2 : Int32) then
    (some (w_9, w_19, w_20, w_4, w_5, w_6, w_7, w_8, w_9, w_10, w_11, w_12, w_13, w_14, w_15, w_16, w_17, w_18))
    else (mm_bd1 (fX5_torn N v_changes_value w_4 w_5 w_15) (fun (r_25 : Int32) =>
    mm_bd1 (fX5_torn N v_changes_value v_now_rows v_now_cols v_now_worn) (fun (r_27 : Int32) =>
    some ((r_25 - r_27), w_19, w_20, w_4, w_5, w_6, w_7, w_8, w_9, w_10, w_11, w_12, w_13, w_14, w_15, w_16, w_17, w_18))))))))
    else (some ((-1 : Int32), v_wearing_stacked, v_wearing_stack, v_planned_trial_rows, v_planned_trial_cols, v_planned_trial_high, v_planned_trial_wide, v_planned_trial_folds, v_planned_trial_wrong, v_planned_trial_more, v_planned_trial_rowOf, v_planned_trial_colOf, v_planned_trial_below, v_planned_trial_face, v_planned_trial_worn, v_planned_trial_last, v_planned_trial_bend, v_planned_trial_tall)))

def fX8_behind (N : Nat) (x1 : Int32) (v_now_rows : Int32) (v_now_cols : Int32) (v_now_high : Int32) (v_now_wide : Int32) (v_now_folds : Int32) (v_now_wrong : Int32) (v_now_more : Int32) (v_now_rowOf : List Int32) (v_now_colOf : List Int32) (v_now_below : List Int32) (v_now_face : List Int32) (v_now_worn : List Int32) (v_now_last : List Int32) (v_wearing_stepCount : Int32) (v_wearing_stacked : Int32) (v_wearing_steps : List Int32) (v_wearing_stack : List Int32) (v_planned_size : Int32) (v_planned_trial_rows : Int32) (v_planned_trial_cols : Int32) (v_planned_trial_high : Int32) (v_planned_trial_wide : Int32) (v_planned_trial_folds : Int32) (v_planned_trial_wrong : Int32) (v_planned_trial_more : Int32) (v_planned_trial_rowOf : List Int32) (v_planned_trial_colOf : List Int32) (v_planned_trial_below : List Int32) (v_planned_trial_face : List Int32) (v_planned_trial_worn : List Int32) (v_planned_trial_last : List Int32) (v_planned_trial_bend : List Int32) (v_planned_trial_tall : List Int32) (v_planned_lines : List Int32) (v_planned_ways : List Int32) (v_changes_value : Int32) : Option (Bool × Int32 × List Int32 × Int32 × Int32 × Int32 × Int32 × Int32 × Int32 × Int32 × List Int32 × List Int32 × List Int32 × List Int32 × List Int32 × List Int32 × List Int32 × List Int32) :=
    if x1 < 0 then
    (some (false, v_wearing_stacked, v_wearing_stack, v_planned_trial_rows, v_planned_trial_cols, v_planned_trial_high, v_planned_trial_wide, v_planned_trial_folds, v_planned_trial_wrong, v_planned_trial_more, v_planned_trial_rowOf, v_planned_trial_colOf, v_planned_trial_below, v_planned_trial_face, v_planned_trial_worn, v_planned_trial_last, v_planned_trial_bend, v_planned_trial_tall))
    else (mm_bd18 (fX3_tryFirst N x1 v_changes_value v_planned_size v_planned_trial_rows v_planned_trial_cols v_planned_trial_high v_planned_trial_wide v_planned_trial_folds v_planned_trial_wrong v_planned_trial_more v_planned_trial_rowOf v_planned_trial_colOf v_planned_trial_below v_planned_trial_face v_planned_trial_worn v_planned_trial_last v_planned_trial_bend v_planned_trial_tall v_planned_lines v_planned_ways v_now_rows v_now_cols v_now_high v_now_wide v_now_folds v_now_wrong v_now_more v_now_rowOf v_now_colOf v_now_below v_now_face v_now_worn v_now_last v_wearing_stepCount v_wearing_stacked v_wearing_steps v_wearing_stack) (fun (r_2 : Int32) (w_3 : Int32) (w_4 : Int32) (w_5 : Int32) (w_6 : Int32) (w_7 : Int32) (w_8 : Int32) (w_9 : Int32) (w_10 : List Int32) (w_11 : List Int32) (w_12 : List Int32) (w_13 : List Int32) (w_14 : List Int32) (w_15 : List Int32) (w_16 : List Int32) (w_17 : List Int32) (w_18 : Int32) (w_19 : List Int32) =>
    if r_2 = x1 then
    (some (true, w_18, w_19, w_3, w_4, w_5, w_6, w_7, w_8, w_9, w_10, w_11, w_12, w_13, w_14, w_15, w_16, w_17))
    else (some (false, w_18, w_19, w_3, w_4, w_5, w_6, w_7, w_8, w_9, w_10, w_11, w_12, w_13, w_14, w_15, w_16, w_17))))

def fX8_lies (N : Nat) (x1 : Int32) (x2 : Int32) (v_now_rows : Int32) (v_now_cols : Int32) (v_now_high : Int32) (v_now_wide : Int32) (v_now_folds : Int32) (v_now_wrong : Int32) (v_now_more : Int32) (v_now_rowOf : List Int32) (v_now_colOf : List Int32) (v_now_below : List Int32) (v_now_face : List Int32) (v_now_worn : List Int32) (v_now_last : List Int32) (v_wearing_stepCount : Int32) (v_wearing_stacked : Int32) (v_wearing_steps : List Int32) (v_wearing_stack : List Int32) (v_planned_size : Int32) (v_planned_trial_rows : Int32) (v_planned_trial_cols : Int32) (v_planned_trial_high : Int32) (v_planned_trial_wide : Int32) (v_planned_trial_folds : Int32) (v_planned_trial_wrong : Int32) (v_planned_trial_more : Int32) (v_planned_trial_rowOf : List Int32) (v_planned_trial_colOf : List Int32) (v_planned_trial_below : List Int32) (v_planned_trial_face : List Int32) (v_planned_trial_worn : List Int32) (v_planned_trial_last : List Int32) (v_planned_trial_bend : List Int32) (v_planned_trial_tall : List Int32) (v_planned_lines : List Int32) (v_planned_ways : List Int32) (v_changes_value : Int32) : Option (Int32 × Int32 × List Int32 × Int32 × Int32 × Int32 × Int32 × Int32 × Int32 × Int32 × List Int32 × List Int32 × List Int32 × List Int32 × List Int32 × List Int32 × List Int32 × List Int32) :=
    if x1 < 0 then
    (some ((-1 : Int32), v_wearing_stacked, v_wearing_stack, v_planned_trial_rows, v_planned_trial_cols, v_planned_trial_high, v_planned_trial_wide, v_planned_trial_folds, v_planned_trial_wrong, v_planned_trial_more, v_planned_trial_rowOf, v_planned_trial_colOf, v_planned_trial_below, v_planned_trial_face, v_planned_trial_worn, v_planned_trial_last, v_planned_trial_bend, v_planned_trial_tall))
    else (mm_ck (mm_nz (100 : Int32)) (mm_bd1 (fX5_hasField N (x1 / (100 : Int32)) v_now_rows v_now_cols) (fun (r_3 : Bool) =>
    if r_3 = false then
    (some ((-1 : Int32), v_wearing_stacked, v_wearing_stack, v_planned_trial_rows, v_planned_trial_cols, v_planned_trial_high, v_planned_trial_wide, v_planned_trial_folds, v_planned_trial_wrong, v_planned_trial_more, v_planned_trial_rowOf, v_planned_trial_colOf, v_planned_trial_below, v_planned_trial_face, v_planned_trial_worn, v_planned_trial_last, v_planned_trial_bend, v_planned_trial_tall))
    else (mm_ck (mm_nz (100 : Int32)) (mm_bd18 (fX8_behind N (mm_rem x1 (100 : Int32)) v_now_rows v_now_cols v_now_high v_now_wide v_now_folds v_now_wrong v_now_more v_now_rowOf v_now_colOf v_now_below v_now_face v_now_worn v_now_last v_wearing_stepCount v_wearing_stacked v_wearing_steps v_wearing_stack v_planned_size v_planned_trial_rows v_planned_trial_cols v_planned_trial_high v_planned_trial_wide v_planned_trial_folds v_planned_trial_wrong v_planned_trial_more v_planned_trial_rowOf v_planned_trial_colOf v_planned_trial_below v_planned_trial_face v_planned_trial_worn v_planned_trial_last v_planned_trial_bend v_planned_trial_tall v_planned_lines v_planned_ways v_changes_value) (fun (r_7 : Bool) (w_8 : Int32) (w_9 : List Int32) (w_10 : Int32) (w_11 : Int32) (w_12 : Int32) (w_13 : Int32) (w_14 : Int32) (w_15 : Int32) (w_16 : Int32) (w_17 : List Int32) (w_18 : List Int32) (w_19 : List Int32) (w_20 : List Int32) (w_21 : List Int32) (w_22 : List Int32) (w_23 : List Int32) (w_24 : List Int32) =>
    if r_7 = false then
    (some ((-1 : Int32), w_8, w_9, w_10, w_11, w_12, w_13, w_14, w_15, w_16, w_17, w_18, w_19, w_20, w_21, w_22, w_23, w_24))
    else (mm_ck (mm_nz (100 : Int32)) (mm_bd1 (fX5_placeOf N (x1 / (100 : Int32)) x2 w_10 w_11 w_17 w_18 w_19 w_20) (fun (r_28 : Int32) =>
    some (r_28, w_8, w_9, w_10, w_11, w_12, w_13, w_14, w_15, w_16, w_17, w_18, w_19, w_20, w_21, w_22, w_23, w_24))))))))))

def fX8_top (N : Nat) (x1 : Int32) (x2 : Int32) (v_now_rows : Int32) (v_now_cols : Int32) (v_now_high : Int32) (v_now_wide : Int32) (v_now_folds : Int32) (v_now_wrong : Int32) (v_now_more : Int32) (v_now_rowOf : List Int32) (v_now_colOf : List Int32) (v_now_below : List Int32) (v_now_face : List Int32) (v_now_worn : List Int32) (v_now_last : List Int32) (v_wearing_stepCount : Int32) (v_wearing_stacked : Int32) (v_wearing_steps : List Int32) (v_wearing_stack : List Int32) (v_planned_size : Int32) (v_planned_trial_rows : Int32) (v_planned_trial_cols : Int32) (v_planned_trial_high : Int32) (v_planned_trial_wide : Int32) (v_planned_trial_folds : Int32) (v_planned_trial_wrong : Int32) (v_planned_trial_more : Int32) (v_planned_trial_rowOf : List Int32) (v_planned_trial_colOf : List Int32) (v_planned_trial_below : List Int32) (v_planned_trial_face : List Int32) (v_planned_trial_worn : List Int32) (v_planned_trial_last : List Int32) (v_planned_trial_bend : List Int32) (v_planned_trial_tall : List Int32) (v_planned_lines : List Int32) (v_planned_ways : List Int32) (v_changes_value : Int32) : Option (Int32 × Int32 × List Int32 × Int32 × Int32 × Int32 × Int32 × Int32 × Int32 × Int32 × List Int32 × List Int32 × List Int32 × List Int32 × List Int32 × List Int32 × List Int32 × List Int32) :=
    mm_bd18 (fX8_behind N x1 v_now_rows v_now_cols v_now_high v_now_wide v_now_folds v_now_wrong v_now_more v_now_rowOf v_now_colOf v_now_below v_now_face v_now_worn v_now_last v_wearing_stepCount v_wearing_stacked v_wearing_steps v_wearing_stack v_planned_size v_planned_trial_rows v_planned_trial_cols v_planned_trial_high v_planned_trial_wide v_planned_trial_folds v_planned_trial_wrong v_planned_trial_more v_planned_trial_rowOf v_planned_trial_colOf v_planned_trial_below v_planned_trial_face v_planned_trial_worn v_planned_trial_last v_planned_trial_bend v_planned_trial_tall v_planned_lines v_planned_ways v_changes_value) (fun (r_1 : Bool) (w_2 : Int32) (w_3 : List Int32) (w_4 : Int32) (w_5 : Int32) (w_6 : Int32) (w_7 : Int32) (w_8 : Int32) (w_9 : Int32) (w_10 : Int32) (w_11 : List Int32) (w_12 : List Int32) (w_13 : List Int32) (w_14 : List Int32) (w_15 : List Int32) (w_16 : List Int32) (w_17 : List Int32) (w_18 : List Int32) =>
    if r_1 = false then
    (some ((-1 : Int32), w_2, w_3, w_4, w_5, w_6, w_7, w_8, w_9, w_10, w_11, w_12, w_13, w_14, w_15, w_16, w_17, w_18))
    else (mm_bd1 (fX5_hasPile N x2 w_6 w_7) (fun (r_21 : Bool) =>
    if r_21 = false then
    (some ((-1 : Int32), w_2, w_3, w_4, w_5, w_6, w_7, w_8, w_9, w_10, w_11, w_12, w_13, w_14, w_15, w_16, w_17, w_18))
    else (mm_ck (mm_nz (10 : Int32)) (mm_ck (mm_nz (10 : Int32)) (mm_bd1 (fX5_topAt N (x2 / (10 : Int32)) (mm_rem x2 (10 : Int32)) w_4 w_5 w_11 w_12 w_13) (fun (r_26 : Int32) =>
    some (r_26, w_2, w_3, w_4, w_5, w_6, w_7, w_8, w_9, w_10, w_11, w_12, w_13, w_14, w_15, w_16, w_17, w_18))))))))

def fX8_beside (N : Nat) (x1 : Int32) (x2 : Int32) (v_now_rows : Int32) (v_now_cols : Int32) (v_now_high : Int32) (v_now_wide : Int32) (v_now_folds : Int32) (v_now_wrong : Int32) (v_now_more : Int32) (v_now_rowOf : List Int32) (v_now_colOf : List Int32) (v_now_below : List Int32) (v_now_face : List Int32) (v_now_worn : List Int32) (v_now_last : List Int32) (v_wearing_stepCount : Int32) (v_wearing_stacked : Int32) (v_wearing_steps : List Int32) (v_wearing_stack : List Int32) (v_planned_size : Int32) (v_planned_trial_rows : Int32) (v_planned_trial_cols : Int32) (v_planned_trial_high : Int32) (v_planned_trial_wide : Int32) (v_planned_trial_folds : Int32) (v_planned_trial_wrong : Int32) (v_planned_trial_more : Int32) (v_planned_trial_rowOf : List Int32) (v_planned_trial_colOf : List Int32) (v_planned_trial_below : List Int32) (v_planned_trial_face : List Int32) (v_planned_trial_worn : List Int32) (v_planned_trial_last : List Int32) (v_planned_trial_bend : List Int32) (v_planned_trial_tall : List Int32) (v_planned_lines : List Int32) (v_planned_ways : List Int32) (v_changes_value : Int32) : Option (Int32 × Int32 × List Int32 × Int32 × Int32 × Int32 × Int32 × Int32 × Int32 × Int32 × List Int32 × List Int32 × List Int32 × List Int32 × List Int32 × List Int32 × List Int32 × List Int32) :=
    if 0 ≤ x2 then
    (mm_ck (mm_nz (100 : Int32)) (mm_nm ((x2 / (100 : Int32))) (fun (y_3 : Int32) =>
    mm_ck (mm_nz (100 : Int32)) (mm_nm ((mm_rem x2 (100 : Int32))) (fun (y_5 : Int32) =>
    if y_3 = y_5 then
    (some ((-1 : Int32), v_wearing_stacked, v_wearing_stack, v_planned_trial_rows, v_planned_trial_cols, v_planned_trial_high, v_planned_trial_wide, v_planned_trial_folds, v_planned_trial_wrong, v_planned_trial_more, v_planned_trial_rowOf, v_planned_trial_colOf, v_planned_trial_below, v_planned_trial_face, v_planned_trial_worn, v_planned_trial_last, v_planned_trial_bend, v_planned_trial_tall))
    else (mm_bd1 (fX5_hasField N y_3 v_now_rows v_now_cols) (fun (r_7 : Bool) =>
    if r_7 = false then
    (some ((-1 : Int32), v_wearing_stacked, v_wearing_stack, v_planned_trial_rows, v_planned_trial_cols, v_planned_trial_high, v_planned_trial_wide, v_planned_trial_folds, v_planned_trial_wrong, v_planned_trial_more, v_planned_trial_rowOf, v_planned_trial_colOf, v_planned_trial_below, v_planned_trial_face, v_planned_trial_worn, v_planned_trial_last, v_planned_trial_bend, v_planned_trial_tall))
    else (mm_bd1 (fX5_hasField N y_5 v_now_rows v_now_cols) (fun (r_10 : Bool) =>
    if r_10 = false then
    (some ((-1 : Int32), v_wearing_stacked, v_wearing_stack, v_planned_trial_rows, v_planned_trial_cols, v_planned_trial_high, v_planned_trial_wide, v_planned_trial_folds, v_planned_trial_wrong, v_planned_trial_more, v_planned_trial_rowOf, v_planned_trial_colOf, v_planned_trial_below, v_planned_trial_face, v_planned_trial_worn, v_planned_trial_last, v_planned_trial_bend, v_planned_trial_tall))
    else (mm_bd18 (fX8_behind N x1 v_now_rows v_now_cols v_now_high v_now_wide v_now_folds v_now_wrong v_now_more v_now_rowOf v_now_colOf v_now_below v_now_face v_now_worn v_now_last v_wearing_stepCount v_wearing_stacked v_wearing_steps v_wearing_stack v_planned_size v_planned_trial_rows v_planned_trial_cols v_planned_trial_high v_planned_trial_wide v_planned_trial_folds v_planned_trial_wrong v_planned_trial_more v_planned_trial_rowOf v_planned_trial_colOf v_planned_trial_below v_planned_trial_face v_planned_trial_worn v_planned_trial_last v_planned_trial_bend v_planned_trial_tall v_planned_lines v_planned_ways v_changes_value) (fun (r_13 : Bool) (w_14 : Int32) (w_15 : List Int32) (w_16 : Int32) (w_17 : Int32) (w_18 : Int32) (w_19 : Int32) (w_20 : Int32) (w_21 : Int32) (w_22 : Int32) (w_23 : List Int32) (w_24 : List Int32) (w_25 : List Int32) (w_26 : List Int32) (w_27 : List Int32) (w_28 : List Int32) (w_29 : List Int32) (w_30 : List Int32) =>
    if r_13 = false then
    (some ((-1 : Int32), w_14, w_15, w_16, w_17, w_18, w_19, w_20, w_21, w_22, w_23, w_24, w_25, w_26, w_27, w_28, w_29, w_30))
    else (mm_bd1 (fX5_topsTouch N y_3 y_5 w_16 w_17 w_23 w_24 w_25) (fun (r_33 : Bool) =>
    if r_33 = false then
    (some ((0 : Int32), w_14, w_15, w_16, w_17, w_18, w_19, w_20, w_21, w_22, w_23, w_24, w_25, w_26, w_27, w_28, w_29, w_30))
    else (some ((1 : Int32), w_14, w_15, w_16, w_17, w_18, w_19, w_20, w_21, w_22, w_23, w_24, w_25, w_26, w_27, w_28, w_29, w_30)))))))))))))))
    else (some ((-1 : Int32), v_wearing_stacked, v_wearing_stack, v_planned_trial_rows, v_planned_trial_cols, v_planned_trial_high, v_planned_trial_wide, v_planned_trial_folds, v_planned_trial_wrong, v_planned_trial_more, v_planned_trial_rowOf, v_planned_trial_colOf, v_planned_trial_below, v_planned_trial_face, v_planned_trial_worn, v_planned_trial_last, v_planned_trial_bend, v_planned_trial_tall))

def fX8_wished (N : Nat) (x1 : Int32) (x2 : Int32) (v_now_rows : Int32) (v_now_cols : Int32) (v_now_high : Int32) (v_now_wide : Int32) (v_now_folds : Int32) (v_now_wrong : Int32) (v_now_more : Int32) (v_now_rowOf : List Int32) (v_now_colOf : List Int32) (v_now_below : List Int32) (v_now_face : List Int32) (v_now_worn : List Int32) (v_now_last : List Int32) (v_search_found : Bool) (v_search_wrong : Int32) (v_search_more : Int32) (v_search_folds : Int32) (v_search_wanted : Int32) (v_search_levels0_rows : Int32) (v_search_levels0_cols : Int32) (v_search_levels0_high : Int32) (v_search_levels0_wide : Int32) (v_search_levels0_folds : Int32) (v_search_levels0_wrong : Int32) (v_search_levels0_more : Int32) (v_search_levels0_rowOf : List Int32) (v_search_levels0_colOf : List Int32) (v_search_levels0_below : List Int32) (v_search_levels0_face : List Int32) (v_search_levels0_worn : List Int32) (v_search_levels0_last : List Int32) (v_search_levels1_rows : Int32) (v_search_levels1_cols : Int32) (v_search_levels1_high : Int32) (v_search_levels1_wide : Int32) (v_search_levels1_folds : Int32) (v_search_levels1_wrong : Int32) (v_search_levels1_more : Int32) (v_search_levels1_rowOf : List Int32) (v_search_levels1_colOf : List Int32) (v_search_levels1_below : List Int32) (v_search_levels1_face : List Int32) (v_search_levels1_worn : List Int32) (v_search_levels1_last : List Int32) (v_search_levels1_tall : List Int32) (v_search_levels2_rows : Int32) (v_search_levels2_cols : Int32) (v_search_levels2_high : Int32) (v_search_levels2_wide : Int32) (v_search_levels2_folds : Int32) (v_search_levels2_wrong : Int32) (v_search_levels2_more : Int32) (v_search_levels2_rowOf : List Int32) (v_search_levels2_colOf : List Int32) (v_search_levels2_below : List Int32) (v_search_levels2_face : List Int32) (v_search_levels2_worn : List Int32) (v_search_levels2_last : List Int32) (v_search_levels2_tall : List Int32) (v_search_levels3_rows : Int32) (v_search_levels3_cols : Int32) (v_search_levels3_high : Int32) (v_search_levels3_wide : Int32) (v_search_levels3_folds : Int32) (v_search_levels3_wrong : Int32) (v_search_levels3_more : Int32) (v_search_levels3_rowOf : List Int32) (v_search_levels3_colOf : List Int32) (v_search_levels3_below : List Int32) (v_search_levels3_face : List Int32) (v_search_levels3_worn : List Int32) (v_search_levels3_last : List Int32) (v_search_levels3_tall : List Int32) (v_search_path : List Int32) (v_search_best : List Int32) : Option (Int32 × Bool × Int32 × Int32 × Int32 × Int32 × Int32 × Int32 × Int32 × Int32 × Int32 × Int32 × Int32 × List Int32 × List Int32 × List Int32 × List Int32 × List Int32 × List Int32 × Int32 × Int32 × Int32 × Int32 × Int32 × Int32 × Int32 × List Int32 × List Int32 × List Int32 × List Int32 × List Int32 × List Int32 × List Int32 × Int32 × Int32 × Int32 × Int32 × Int32 × Int32 × Int32 × List Int32 × List Int32 × List Int32 × List Int32 × List Int32 × List Int32 × List Int32 × Int32 × Int32 × Int32 × Int32 × Int32 × Int32 × Int32 × List Int32 × List Int32 × List Int32 × List Int32 × List Int32 × List Int32 × List Int32 × List Int32 × List Int32) :=
    mm_bd1 (fX5_hasField N x1 v_now_rows v_now_cols) (fun (r_1 : Bool) =>
    if r_1 = false then
    (some ((-1 : Int32), v_search_found, v_search_wrong, v_search_more, v_search_folds, v_search_wanted, v_search_levels0_rows, v_search_levels0_cols, v_search_levels0_high, v_search_levels0_wide, v_search_levels0_folds, v_search_levels0_wrong, v_search_levels0_more, v_search_levels0_rowOf, v_search_levels0_colOf, v_search_levels0_below, v_search_levels0_face, v_search_levels0_worn, v_search_levels0_last, v_search_levels1_rows, v_search_levels1_cols, v_search_levels1_high, v_search_levels1_wide, v_search_levels1_folds, v_search_levels1_wrong, v_search_levels1_more, v_search_levels1_rowOf, v_search_levels1_colOf, v_search_levels1_below, v_search_levels1_face, v_search_levels1_worn, v_search_levels1_last, v_search_levels1_tall, v_search_levels2_rows, v_search_levels2_cols, v_search_levels2_high, v_search_levels2_wide, v_search_levels2_folds, v_search_levels2_wrong, v_search_levels2_more, v_search_levels2_rowOf, v_search_levels2_colOf, v_search_levels2_below, v_search_levels2_face, v_search_levels2_worn, v_search_levels2_last, v_search_levels2_tall, v_search_levels3_rows, v_search_levels3_cols, v_search_levels3_high, v_search_levels3_wide, v_search_levels3_folds, v_search_levels3_wrong, v_search_levels3_more, v_search_levels3_rowOf, v_search_levels3_colOf, v_search_levels3_below, v_search_levels3_face, v_search_levels3_worn, v_search_levels3_last, v_search_levels3_tall, v_search_path, v_search_best))
    else (if x2 < (-1 : Int32) then
    (some ((-1 : Int32), v_search_found, v_search_wrong, v_search_more, v_search_folds, v_search_wanted, v_search_levels0_rows, v_search_levels0_cols, v_search_levels0_high, v_search_levels0_wide, v_search_levels0_folds, v_search_levels0_wrong, v_search_levels0_more, v_search_levels0_rowOf, v_search_levels0_colOf, v_search_levels0_below, v_search_levels0_face, v_search_levels0_worn, v_search_levels0_last, v_search_levels1_rows, v_search_levels1_cols, v_search_levels1_high, v_search_levels1_wide, v_search_levels1_folds, v_search_levels1_wrong, v_search_levels1_more, v_search_levels1_rowOf, v_search_levels1_colOf, v_search_levels1_below, v_search_levels1_face, v_search_levels1_worn, v_search_levels1_last, v_search_levels1_tall, v_search_levels2_rows, v_search_levels2_cols, v_search_levels2_high, v_search_levels2_wide, v_search_levels2_folds, v_search_levels2_wrong, v_search_levels2_more, v_search_levels2_rowOf, v_search_levels2_colOf, v_search_levels2_below, v_search_levels2_face, v_search_levels2_worn, v_search_levels2_last, v_search_levels2_tall, v_search_levels3_rows, v_search_levels3_cols, v_search_levels3_high, v_search_levels3_wide, v_search_levels3_folds, v_search_levels3_wrong, v_search_levels3_more, v_search_levels3_rowOf, v_search_levels3_colOf, v_search_levels3_below, v_search_levels3_face, v_search_levels3_worn, v_search_levels3_last, v_search_levels3_tall, v_search_path, v_search_best))
    else (if x2 < (3 : Int32) then
    (mm_bd1 (fX5_fields N v_now_rows v_now_cols) (fun (r_6 : Int32) =>
    if r_6 ≤ (16 : Int32) then
    (mm_bd62 (fX4_seekTop N x1 v_search_found v_search_wrong v_search_more v_search_folds v_search_wanted v_search_levels0_rows v_search_levels0_cols v_search_levels0_high v_search_levels0_wide v_search_levels0_folds v_search_levels0_wrong v_search_levels0_more v_search_levels0_rowOf v_search_levels0_colOf v_search_levels0_below v_search_levels0_face v_search_levels0_worn v_search_levels0_last v_search_levels1_rows v_search_levels1_cols v_search_levels1_high v_search_levels1_wide v_search_levels1_folds v_search_levels1_wrong v_search_levels1_more v_search_levels1_rowOf v_search_levels1_colOf v_search_levels1_below v_search_levels1_face v_search_levels1_worn v_search_levels1_last v_search_levels1_tall v_search_levels2_rows v_search_levels2_cols v_search_levels2_high v_search_levels2_wide v_search_levels2_folds v_search_levels2_wrong v_search_levels2_more v_search_levels2_rowOf v_search_levels2_colOf v_search_levels2_below v_search_levels2_face v_search_levels2_worn v_search_levels2_last v_search_levels2_tall v_search_levels3_rows v_search_levels3_cols v_search_levels3_high v_search_levels3_wide v_search_levels3_folds v_search_levels3_wrong v_search_levels3_more v_search_levels3_rowOf v_search_levels3_colOf v_search_levels3_below v_search_levels3_face v_search_levels3_worn v_search_levels3_last v_search_levels3_tall v_search_path v_search_best v_now_rows v_now_cols v_now_high v_now_wide v_now_folds v_now_wrong v_now_more v_now_rowOf v_now_colOf v_now_below v_now_face v_now_worn v_now_last) (fun (w_9 : Bool) (w_10 : Int32) (w_11 : Int32) (w_12 : Int32) (w_13 : Int32) (w_14 : Int32) (w_15 : Int32) (w_16 : Int32) (w_17 : Int32) (w_18 : Int32) (w_19 : Int32) (w_20 : Int32) (w_21 : List Int32) (w_22 : List Int32) (w_23 : List Int32) (w_24 : List Int32) (w_25 : List Int32) (w_26 : List Int32) (w_27 : Int32) (w_28 : Int32) (w_29 : Int32) (w_30 : Int32) (w_31 : Int32) (w_32 : Int32) (w_33 : Int32) (w_34 : List Int32) (w_35 : List Int32) (w_36 : List Int32) (w_37 : List Int32) (w_38 : List Int32) (w_39 : List Int32) (w_40 : List Int32) (w_41 : Int32) (w_42 : Int32) (w_43 : Int32) (w_44 : Int32) (w_45 : Int32) (w_46 : Int32) (w_47 : Int32) (w_48 : List Int32) (w_49 : List Int32) (w_50 : List Int32) (w_51 : List Int32) (w_52 : List Int32) (w_53 : List Int32) (w_54 : List Int32) (w_55 : Int32) (w_56 : Int32) (w_57 : Int32) (w_58 : Int32) (w_59 : Int32) (w_60 : Int32) (w_61 : Int32) (w_62 : List Int32) (w_63 : List Int32) (w_64 : List Int32) (w_65 : List Int32) (w_66 : List Int32) (w_67 : List Int32) (w_68 : List Int32) (w_69 : List Int32) (w_70 : List Int32) =>
    if w_9 = false then
    (some ((-2 : Int32), w_9, w_10, w_11, w_12, w_13, w_14, w_15, w_16, w_17, w_18, w_19, w_20, w_21, w_22, w_23, w_24, w_25, w_26, w_27, w_28, w_29, w_30, w_31, w_32, w_33, w_34, w_35, w_36, w_37, w_38, w_39, w_40, w_41, w_42, w_43, w_44, w_45, w_46, w_47, w_48, w_49, w_50, w_51, w_52, w_53, w_54, w_55, w_56, w_57, w_58, w_59, w_60, w_61, w_62, w_63, w_64, w_65, w_66, w_67, w_68, w_69, w_70))
    else (if x2 = (-1 : Int32) then
    (some (w_12, w_9, w_10, w_11, w_12, w_13, w_14, w_15, w_16, w_17, w_18, w_19, w_20, w_21, w_22, w_23, w_24, w_25, w_26, w_27, w_28, w_29, w_30, w_31, w_32, w_33, w_34, w_35, w_36, w_37, w_38, w_39, w_40, w_41, w_42, w_43, w_44, w_45, w_46, w_47, w_48, w_49, w_50, w_51, w_52, w_53, w_54, w_55, w_56, w_57, w_58, w_59, w_60, w_61, w_62, w_63, w_64, w_65, w_66, w_67, w_68, w_69, w_70))
    else (mm_bd1 (fX4_soughtFold N x2 w_12 w_70) (fun (r_74 : Int32) =>
    some (r_74, w_9, w_10, w_11, w_12, w_13, w_14, w_15, w_16, w_17, w_18, w_19, w_20, w_21, w_22, w_23, w_24, w_25, w_26, w_27, w_28, w_29, w_30, w_31, w_32, w_33, w_34, w_35, w_36, w_37, w_38, w_39, w_40, w_41, w_42, w_43, w_44, w_45, w_46, w_47, w_48, w_49, w_50, w_51, w_52, w_53, w_54, w_55, w_56, w_57, w_58, w_59, w_60, w_61, w_62, w_63, w_64, w_65, w_66, w_67, w_68, w_69, w_70))))))
    else (some ((-5 : Int32), v_search_found, v_search_wrong, v_search_more, v_search_folds, v_search_wanted, v_search_levels0_rows, v_search_levels0_cols, v_search_levels0_high, v_search_levels0_wide, v_search_levels0_folds, v_search_levels0_wrong, v_search_levels0_more, v_search_levels0_rowOf, v_search_levels0_colOf, v_search_levels0_below, v_search_levels0_face, v_search_levels0_worn, v_search_levels0_last, v_search_levels1_rows, v_search_levels1_cols, v_search_levels1_high, v_search_levels1_wide, v_search_levels1_folds, v_search_levels1_wrong, v_search_levels1_more, v_search_levels1_rowOf, v_search_levels1_colOf, v_search_levels1_below, v_search_levels1_face, v_search_levels1_worn, v_search_levels1_last, v_search_levels1_tall, v_search_levels2_rows, v_search_levels2_cols, v_search_levels2_high, v_search_levels2_wide, v_search_levels2_folds, v_search_levels2_wrong, v_search_levels2_more, v_search_levels2_rowOf, v_search_levels2_colOf, v_search_levels2_below, v_search_levels2_face, v_search_levels2_worn, v_search_levels2_last, v_search_levels2_tall, v_search_levels3_rows, v_search_levels3_cols, v_search_levels3_high, v_search_levels3_wide, v_search_levels3_folds, v_search_levels3_wrong, v_search_levels3_more, v_search_levels3_rowOf, v_search_levels3_colOf, v_search_levels3_below, v_search_levels3_face, v_search_levels3_worn, v_search_levels3_last, v_search_levels3_tall, v_search_path, v_search_best))))
    else (some ((-1 : Int32), v_search_found, v_search_wrong, v_search_more, v_search_folds, v_search_wanted, v_search_levels0_rows, v_search_levels0_cols, v_search_levels0_high, v_search_levels0_wide, v_search_levels0_folds, v_search_levels0_wrong, v_search_levels0_more, v_search_levels0_rowOf, v_search_levels0_colOf, v_search_levels0_below, v_search_levels0_face, v_search_levels0_worn, v_search_levels0_last, v_search_levels1_rows, v_search_levels1_cols, v_search_levels1_high, v_search_levels1_wide, v_search_levels1_folds, v_search_levels1_wrong, v_search_levels1_more, v_search_levels1_rowOf, v_search_levels1_colOf, v_search_levels1_below, v_search_levels1_face, v_search_levels1_worn, v_search_levels1_last, v_search_levels1_tall, v_search_levels2_rows, v_search_levels2_cols, v_search_levels2_high, v_search_levels2_wide, v_search_levels2_folds, v_search_levels2_wrong, v_search_levels2_more, v_search_levels2_rowOf, v_search_levels2_colOf, v_search_levels2_below, v_search_levels2_face, v_search_levels2_worn, v_search_levels2_last, v_search_levels2_tall, v_search_levels3_rows, v_search_levels3_cols, v_search_levels3_high, v_search_levels3_wide, v_search_levels3_folds, v_search_levels3_wrong, v_search_levels3_more, v_search_levels3_rowOf, v_search_levels3_colOf, v_search_levels3_below, v_search_levels3_face, v_search_levels3_worn, v_search_levels3_last, v_search_levels3_tall, v_search_path, v_search_best)))))

def fX8_right (N : Nat) (x1 : Int32) (v_now_rows : Int32) (v_now_cols : Int32) (v_now_high : Int32) (v_now_wide : Int32) (v_now_folds : Int32) (v_now_wrong : Int32) (v_now_more : Int32) (v_now_rowOf : List Int32) (v_now_colOf : List Int32) (v_now_below : List Int32) (v_now_face : List Int32) (v_now_worn : List Int32) (v_now_last : List Int32) (v_wearing_stepCount : Int32) (v_wearing_stacked : Int32) (v_wearing_steps : List Int32) (v_wearing_stack : List Int32) (v_search_found : Bool) (v_search_wrong : Int32) (v_search_more : Int32) (v_search_folds : Int32) (v_search_wanted : Int32) (v_search_levels0_rows : Int32) (v_search_levels0_cols : Int32) (v_search_levels0_high : Int32) (v_search_levels0_wide : Int32) (v_search_levels0_folds : Int32) (v_search_levels0_wrong : Int32) (v_search_levels0_more : Int32) (v_search_levels0_rowOf : List Int32) (v_search_levels0_colOf : List Int32) (v_search_levels0_below : List Int32) (v_search_levels0_face : List Int32) (v_search_levels0_worn : List Int32) (v_search_levels0_last : List Int32) (v_search_levels1_rows : Int32) (v_search_levels1_cols : Int32) (v_search_levels1_high : Int32) (v_search_levels1_wide : Int32) (v_search_levels1_folds : Int32) (v_search_levels1_wrong : Int32) (v_search_levels1_more : Int32) (v_search_levels1_rowOf : List Int32) (v_search_levels1_colOf : List Int32) (v_search_levels1_below : List Int32) (v_search_levels1_face : List Int32) (v_search_levels1_worn : List Int32) (v_search_levels1_last : List Int32) (v_search_levels1_bend : List Int32) (v_search_levels1_tall : List Int32) (v_search_levels2_rows : Int32) (v_search_levels2_cols : Int32) (v_search_levels2_high : Int32) (v_search_levels2_wide : Int32) (v_search_levels2_folds : Int32) (v_search_levels2_wrong : Int32) (v_search_levels2_more : Int32) (v_search_levels2_rowOf : List Int32) (v_search_levels2_colOf : List Int32) (v_search_levels2_below : List Int32) (v_search_levels2_face : List Int32) (v_search_levels2_worn : List Int32) (v_search_levels2_last : List Int32) (v_search_levels2_bend : List Int32) (v_search_levels2_tall : List Int32) (v_search_levels3_rows : Int32) (v_search_levels3_cols : Int32) (v_search_levels3_high : Int32) (v_search_levels3_wide : Int32) (v_search_levels3_folds : Int32) (v_search_levels3_wrong : Int32) (v_search_levels3_more : Int32) (v_search_levels3_rowOf : List Int32) (v_search_levels3_colOf : List Int32) (v_search_levels3_below : List Int32) (v_search_levels3_face : List Int32) (v_search_levels3_worn : List Int32) (v_search_levels3_last : List Int32) (v_search_levels3_bend : List Int32) (v_search_levels3_tall : List Int32) (v_search_path : List Int32) (v_search_best : List Int32) (v_changes_value : Int32) : Option (Int32 × Int32 × List Int32 × Bool × Int32 × Int32 × Int32 × Int32 × Int32 × Int32 × Int32 × Int32 × Int32 × Int32 × Int32 × List Int32 × List Int32 × List Int32 × List Int32 × List Int32 × List Int32 × Int32 × Int32 × Int32 × Int32 × Int32 × Int32 × Int32 × List Int32 × List Int32 × List Int32 × List Int32 × List Int32 × List Int32 × List Int32 × List Int32 × Int32 × Int32 × Int32 × Int32 × Int32 × Int32 × Int32 × List Int32 × List Int32 × List Int32 × List Int32 × List Int32 × List Int32 × List Int32 × List Int32 × Int32 × Int32 × Int32 × Int32 × Int32 × Int32 × Int32 × List Int32 × List Int32 × List Int32 × List Int32 × List Int32 × List Int32 × List Int32 × List Int32 × List Int32 × List Int32) :=
    if x1 < (-3 : Int32) then
    (some ((-1 : Int32), v_wearing_stacked, v_wearing_stack, v_search_found, v_search_wrong, v_search_more, v_search_folds, v_search_wanted, v_search_levels0_rows, v_search_levels0_cols, v_search_levels0_high, v_search_levels0_wide, v_search_levels0_folds, v_search_levels0_wrong, v_search_levels0_more, v_search_levels0_rowOf, v_search_levels0_colOf, v_search_levels0_below, v_search_levels0_face, v_search_levels0_worn, v_search_levels0_last, v_search_levels1_rows, v_search_levels1_cols, v_search_levels1_high, v_search_levels1_wide, v_search_levels1_folds, v_search_levels1_wrong, v_search_levels1_more, v_search_levels1_rowOf, v_search_levels1_colOf, v_search_levels1_below, v_search_levels1_face, v_search_levels1_worn, v_search_levels1_last, v_search_levels1_bend, v_search_levels1_tall, v_search_levels2_rows, v_search_levels2_cols, v_search_levels2_high, v_search_levels2_wide, v_search_levels2_folds, v_search_levels2_wrong, v_search_levels2_more, v_search_levels2_rowOf, v_search_levels2_colOf, v_search_levels2_below, v_search_levels2_face, v_search_levels2_worn, v_search_levels2_last, v_search_levels2_bend, v_search_levels2_tall, v_search_levels3_rows, v_search_levels3_cols, v_search_levels3_high, v_search_levels3_wide, v_search_levels3_folds, v_search_levels3_wrong, v_search_levels3_more, v_search_levels3_rowOf, v_search_levels3_colOf, v_search_levels3_below, v_search_levels3_face, v_search_levels3_worn, v_search_levels3_last, v_search_levels3_bend, v_search_levels3_tall, v_search_path, v_search_best))
    else (if x1 < (3 : Int32) then
    (mm_bd1 (fX5_fields N v_now_rows v_now_cols) (fun (r_3 : Int32) =>
    if r_3 ≤ (16 : Int32) then
    (mm_bd67 (fX4_seekLeastWrong N v_changes_value v_search_found v_search_wrong v_search_more v_search_folds v_search_wanted v_search_levels0_rows v_search_levels0_cols v_search_levels0_high v_search_levels0_wide v_search_levels0_folds v_search_levels0_wrong v_search_levels0_more v_search_levels0_rowOf v_search_levels0_colOf v_search_levels0_below v_search_levels0_face v_search_levels0_worn v_search_levels0_last v_search_levels1_rows v_search_levels1_cols v_search_levels1_high v_search_levels1_wide v_search_levels1_folds v_search_levels1_wrong v_search_levels1_more v_search_levels1_rowOf v_search_levels1_colOf v_search_levels1_below v_search_levels1_face v_search_levels1_worn v_search_levels1_last v_search_levels1_bend v_search_levels1_tall v_search_levels2_rows v_search_levels2_cols v_search_levels2_high v_search_levels2_wide v_search_levels2_folds v_search_levels2_wrong v_search_levels2_more v_search_levels2_rowOf v_search_levels2_colOf v_search_levels2_below v_search_levels2_face v_search_levels2_worn v_search_levels2_last v_search_levels2_bend v_search_levels2_tall v_search_levels3_rows v_search_levels3_cols v_search_levels3_high v_search_levels3_wide v_search_levels3_folds v_search_levels3_wrong v_search_levels3_more v_search_levels3_rowOf v_search_levels3_colOf v_search_levels3_below v_search_levels3_face v_search_levels3_worn v_search_levels3_last v_search_levels3_bend v_search_levels3_tall v_search_path v_search_best v_now_rows v_now_cols v_now_high v_now_wide v_now_folds v_now_wrong v_now_more v_now_rowOf v_now_colOf v_now_below v_now_face v_now_worn v_now_last v_wearing_stepCount v_wearing_stacked v_wearing_steps v_wearing_stack) (fun (w_6 : Bool) (w_7 : Int32) (w_8 : Int32) (w_9 : Int32) (w_10 : Int32) (w_11 : Int32) (w_12 : Int32) (w_13 : Int32) (w_14 : Int32) (w_15 : Int32) (w_16 : Int32) (w_17 : Int32) (w_18 : List Int32) (w_19 : List Int32) (w_20 : List Int32) (w_21 : List Int32) (w_22 : List Int32) (w_23 : List Int32) (w_24 : Int32) (w_25 : Int32) (w_26 : Int32) (w_27 : Int32) (w_28 : Int32) (w_29 : Int32) (w_30 : Int32) (w_31 : List Int32) (w_32 : List Int32) (w_33 : List Int32) (w_34 : List Int32) (w_35 : List Int32) (w_36 : List Int32) (w_37 : List Int32) (w_38 : List Int32) (w_39 : Int32) (w_40 : Int32) (w_41 : Int32) (w_42 : Int32) (w_43 : Int32) (w_44 : Int32) (w_45 : Int32) (w_46 : List Int32) (w_47 : List Int32) (w_48 : List Int32) (w_49 : List Int32) (w_50 : List Int32) (w_51 : List Int32) (w_52 : List Int32) (w_53 : List Int32) (w_54 : Int32) (w_55 : Int32) (w_56 : Int32) (w_57 : Int32) (w_58 : Int32) (w_59 : Int32) (w_60 : Int32) (w_61 : List Int32) (w_62 : List Int32) (w_63 : List Int32) (w_64 : List Int32) (w_65 : List Int32) (w_66 : List Int32) (w_67 : List Int32) (w_68 : List Int32) (w_69 : List Int32) (w_70 : List Int32) (w_71 : Int32) (w_72 : List Int32) =>
    if w_6 = false then
    (some ((-2 : Int32), w_71, w_72, w_6, w_7, w_8, w_9, w_10, w_11, w_12, w_13, w_14, w_15, w_16, w_17, w_18, w_19, w_20, w_21, w_22, w_23, w_24, w_25, w_26, w_27, w_28, w_29, w_30, w_31, w_32, w_33, w_34, w_35, w_36, w_37, w_38, w_39, w_40, w_41, w_42, w_43, w_44, w_45, w_46, w_47, w_48, w_49, w_50, w_51, w_52, w_53, w_54, w_55, w_56, w_57, w_58, w_59, w_60, w_61, w_62, w_63, w_64, w_65, w_66, w_67, w_68, w_69, w_70))
    else (if x1 = (-3 : Int32) then
    (some (w_9, w_71, w_72, w_6, w_7, w_8, w_9, w_10, w_11, w_12, w_13, w_14, w_15, w_16, w_17, w_18, w_19, w_20, w_21, w_22, w_23, w_24, w_25, w_26, w_27, w_28, w_29, w_30, w_31, w_32, w_33, w_34, w_35, w_36, w_37, w_38, w_39, w_40, w_41, w_42, w_43, w_44, w_45, w_46, w_47, w_48, w_49, w_50, w_51, w_52, w_53, w_54, w_55, w_56, w_57, w_58, w_59, w_60, w_61, w_62, w_63, w_64, w_65, w_66, w_67, w_68, w_69, w_70))
    else (if x1 = (-2 : Int32) then
    (some (w_8, w_71, w_72, w_6, w_7, w_8, w_9, w_10, w_11, w_12, w_13, w_14, w_15, w_16, w_17, w_18, w_19, w_20, w_21, w_22, w_23, w_24, w_25, w_26, w_27, w_28, w_29, w_30, w_31, w_32, w_33, w_34, w_35, w_36, w_37, w_38, w_39, w_40, w_41, w_42, w_43, w_44, w_45, w_46, w_47, w_48, w_49, w_50, w_51, w_52, w_53, w_54, w_55, w_56, w_57, w_58, w_59, w_60, w_61, w_62, w_63, w_64, w_65, w_66, w_67, w_68, w_69, w_70))
    else (if x1 = (-1 : Int32) then
    (some (w_7, w_71, w_72, w_6, w_7, w_8, w_9, w_10, w_11, w_12, w_13, w_14, w_15, w_16, w_17, w_18, w_19, w_20, w_21, w_22, w_23, w_24, w_25, w_26, w_27, w_28, w_29, w_30, w_31, w_32, w_33, w_34, w_35, w_36, w_37, w_38, w_39, w_40, w_41, w_42, w_43, w_44, w_45, w_46, w_47, w_48, w_49, w_50, w_51, w_52, w_53, w_54, w_55, w_56, w_57, w_58, w_59, w_60, w_61, w_62, w_63, w_64, w_65, w_66, w_67, w_68, w_69, w_70))
    else (mm_bd1 (fX4_soughtFold N x1 w_9 w_70) (fun (r_78 : Int32) =>
    some (r_78, w_71, w_72, w_6, w_7, w_8, w_9, w_10, w_11, w_12, w_13, w_14, w_15, w_16, w_17, w_18, w_19, w_20, w_21, w_22, w_23, w_24, w_25, w_26, w_27, w_28, w_29, w_30, w_31, w_32, w_33, w_34, w_35, w_36, w_37, w_38, w_39, w_40, w_41, w_42, w_43, w_44, w_45, w_46, w_47, w_48, w_49, w_50, w_51, w_52, w_53, w_54, w_55, w_56, w_57, w_58, w_59, w_60, w_61, w_62, w_63, w_64, w_65, w_66, w_67, w_68, w_69, w_70))))))))
    else (some ((-5 : Int32), v_wearing_stacked, v_wearing_stack, v_search_found, v_search_wrong, v_search_more, v_search_folds, v_search_wanted, v_search_levels0_rows, v_search_levels0_cols, v_search_levels0_high, v_search_levels0_wide, v_search_levels0_folds, v_search_levels0_wrong, v_search_levels0_more, v_search_levels0_rowOf, v_search_levels0_colOf, v_search_levels0_below, v_search_levels0_face, v_search_levels0_worn, v_search_levels0_last, v_search_levels1_rows, v_search_levels1_cols, v_search_levels1_high, v_search_levels1_wide, v_search_levels1_folds, v_search_levels1_wrong, v_search_levels1_more, v_search_levels1_rowOf, v_search_levels1_colOf, v_search_levels1_below, v_search_levels1_face, v_search_levels1_worn, v_search_levels1_last, v_search_levels1_bend, v_search_levels1_tall, v_search_levels2_rows, v_search_levels2_cols, v_search_levels2_high, v_search_levels2_wide, v_search_levels2_folds, v_search_levels2_wrong, v_search_levels2_more, v_search_levels2_rowOf, v_search_levels2_colOf, v_search_levels2_below, v_search_levels2_face, v_search_levels2_worn, v_search_levels2_last, v_search_levels2_bend, v_search_levels2_tall, v_search_levels3_rows, v_search_levels3_cols, v_search_levels3_high, v_search_levels3_wide, v_search_levels3_folds, v_search_levels3_wrong, v_search_levels3_more, v_search_levels3_rowOf, v_search_levels3_colOf, v_search_levels3_below, v_search_levels3_face, v_search_levels3_worn, v_search_levels3_last, v_search_levels3_bend, v_search_levels3_tall, v_search_path, v_search_best))))
    else (some ((-1 : Int32), v_wearing_stacked, v_wearing_stack, v_search_found, v_search_wrong, v_search_more, v_search_folds, v_search_wanted, v_search_levels0_rows, v_search_levels0_cols, v_search_levels0_high, v_search_levels0_wide, v_search_levels0_folds, v_search_levels0_wrong, v_search_levels0_more, v_search_levels0_rowOf, v_search_levels0_colOf, v_search_levels0_below, v_search_levels0_face, v_search_levels0_worn, v_search_levels0_last, v_search_levels1_rows, v_search_levels1_cols, v_search_levels1_high, v_search_levels1_wide, v_search_levels1_folds, v_search_levels1_wrong, v_search_levels1_more, v_search_levels1_rowOf, v_search_levels1_colOf, v_search_levels1_below, v_search_levels1_face, v_search_levels1_worn, v_search_levels1_last, v_search_levels1_bend, v_search_levels1_tall, v_search_levels2_rows, v_search_levels2_cols, v_search_levels2_high, v_search_levels2_wide, v_search_levels2_folds, v_search_levels2_wrong, v_search_levels2_more, v_search_levels2_rowOf, v_search_levels2_colOf, v_search_levels2_below, v_search_levels2_face, v_search_levels2_worn, v_search_levels2_last, v_search_levels2_bend, v_search_levels2_tall, v_search_levels3_rows, v_search_levels3_cols, v_search_levels3_high, v_search_levels3_wide, v_search_levels3_folds, v_search_levels3_wrong, v_search_levels3_more, v_search_levels3_rowOf, v_search_levels3_colOf, v_search_levels3_below, v_search_levels3_face, v_search_levels3_worn, v_search_levels3_last, v_search_levels3_bend, v_search_levels3_tall, v_search_path, v_search_best)))

def fX8_wind_118 (N : Nat) (k_54 : Int32 → Int32 → Int32 → Int32 → Int32 → Int32 → Int32 → Int32 → Int32 → Int32 → Int32 → Int32 → Int32 → List Int32 → List Int32 → List Int32 → List Int32 → List Int32 → List Int32 → Int32 → Int32 → List Int32 → List Int32 → Int32 → Int32 → Int32 → Int32 → Int32 → Int32 → Int32 → Int32 → List Int32 → List Int32 → List Int32 → List Int32 → List Int32 → List Int32 → List Int32 → List Int32 → List Int32 → List Int32 → Int32 → Option (Int32 × Int32 × List Int32 × Int32 × Int32 × Int32 × Int32 × Int32 × Int32 × Int32 × List Int32 × List Int32 × List Int32 × List Int32 × List Int32 × List Int32 × List Int32 × List Int32)) (x3 : Int32) (x4 : Int32) (x5 : Int32) (x6 : Int32) (x8 : Int32) (s0 : Int32) (s1 : Int32) (v_now_rows : Int32) (v_now_cols : Int32) (v_now_high : Int32) (v_now_wide : Int32) (v_now_folds : Int32) (v_now_wrong : Int32) (v_now_more : Int32) (v_now_rowOf : List Int32) (v_now_colOf : List Int32) (v_now_below : List Int32) (v_now_face : List Int32) (v_now_worn : List Int32) (v_now_last : List Int32) (v_wearing_stepCount : Int32) (v_wearing_stacked : Int32) (v_wearing_steps : List Int32) (v_wearing_stack : List Int32) (v_planned_size : Int32) (v_planned_trial_rows : Int32) (v_planned_trial_cols : Int32) (v_planned_trial_high : Int32) (v_planned_trial_wide : Int32) (v_planned_trial_folds : Int32) (v_planned_trial_wrong : Int32) (v_planned_trial_more : Int32) (v_planned_trial_rowOf : List Int32) (v_planned_trial_colOf : List Int32) (v_planned_trial_below : List Int32) (v_planned_trial_face : List Int32) (v_planned_trial_worn : List Int32) (v_planned_trial_last : List Int32) (v_planned_trial_bend : List Int32) (v_planned_trial_tall : List Int32) (v_planned_lines : List Int32) (v_planned_ways : List Int32) (v_changes_value : Int32) : Option (Int32 × Int32 × List Int32 × Int32 × Int32 × Int32 × Int32 × Int32 × Int32 × Int32 × List Int32 × List Int32 × List Int32 × List Int32 × List Int32 × List Int32 × List Int32 × List Int32) :=
    mm_nm ((s1 + s0)) (fun (y_32 : Int32) =>
    mm_nm (x8 + (1 : Int32)) (fun (y_33 : Int32) =>
    k_54 x3 x4 x5 x6 y_32 y_33 v_now_rows v_now_cols v_now_high v_now_wide v_now_folds v_now_wrong v_now_more v_now_rowOf v_now_colOf v_now_below v_now_face v_now_worn v_now_last v_wearing_stepCount v_wearing_stacked v_wearing_steps v_wearing_stack v_planned_size v_planned_trial_rows v_planned_trial_cols v_planned_trial_high v_planned_trial_wide v_planned_trial_folds v_planned_trial_wrong v_planned_trial_more v_planned_trial_rowOf v_planned_trial_colOf v_planned_trial_below v_planned_trial_face v_planned_trial_worn v_planned_trial_last v_planned_trial_bend v_planned_trial_tall v_planned_lines v_planned_ways v_changes_value))

def fX8_wind_54 (N : Nat)  : Nat → Int32 → Int32 → Int32 → Int32 → Int32 → Int32 → Int32 → Int32 → Int32 → Int32 → Int32 → Int32 → Int32 → List Int32 → List Int32 → List Int32 → List Int32 → List Int32 → List Int32 → Int32 → Int32 → List Int32 → List Int32 → Int32 → Int32 → Int32 → Int32 → Int32 → Int32 → Int32 → Int32 → List Int32 → List Int32 → List Int32 → List Int32 → List Int32 → List Int32 → List Int32 → List Int32 → List Int32 → List Int32 → Int32 → Option (Int32 × Int32 × List Int32 × Int32 × Int32 × Int32 × Int32 × Int32 × Int32 × Int32 × List Int32 × List Int32 × List Int32 × List Int32 × List Int32 × List Int32 × List Int32 × List Int32)
  | 0 => fun _ _ _ _ _ _ _ _ _ _ _ _ _ _ _ _ _ _ _ _ _ _ _ _ _ _ _ _ _ _ _ _ _ _ _ _ _ _ _ _ _ _ => none
  | n + 1 => fun x3 x4 x5 x6 x7 x8 v_now_rows v_now_cols v_now_high v_now_wide v_now_folds v_now_wrong v_now_more v_now_rowOf v_now_colOf v_now_below v_now_face v_now_worn v_now_last v_wearing_stepCount v_wearing_stacked v_wearing_steps v_wearing_stack v_planned_size v_planned_trial_rows v_planned_trial_cols v_planned_trial_high v_planned_trial_wide v_planned_trial_folds v_planned_trial_wrong v_planned_trial_more v_planned_trial_rowOf v_planned_trial_colOf v_planned_trial_below v_planned_trial_face v_planned_trial_worn v_planned_trial_last v_planned_trial_bend v_planned_trial_tall v_planned_lines v_planned_ways v_changes_value =>
    if x4 ≤ x8 then
    (mm_ck (mm_nz x4) (some ((x7 / x4), v_wearing_stacked, v_wearing_stack, v_planned_trial_rows, v_planned_trial_cols, v_planned_trial_high, v_planned_trial_wide, v_planned_trial_folds, v_planned_trial_wrong, v_planned_trial_more, v_planned_trial_rowOf, v_planned_trial_colOf, v_planned_trial_below, v_planned_trial_face, v_planned_trial_worn, v_planned_trial_last, v_planned_trial_bend, v_planned_trial_tall)))
    else (mm_bd18 (fX3_tryInWind N v_changes_value x6 x5 v_planned_size v_planned_trial_rows v_planned_trial_cols v_planned_trial_high v_planned_trial_wide v_planned_trial_folds v_planned_trial_wrong v_planned_trial_more v_planned_trial_rowOf v_planned_trial_colOf v_planned_trial_below v_planned_trial_face v_planned_trial_worn v_planned_trial_last v_planned_trial_bend v_planned_trial_tall v_planned_lines v_planned_ways v_now_rows v_now_cols v_now_high v_now_wide v_now_folds v_now_wrong v_now_more v_now_rowOf v_now_colOf v_now_below v_now_face v_now_worn v_now_last v_wearing_stepCount v_wearing_stacked v_wearing_steps v_wearing_stack) (fun (r_12 : Int32) (w_13 : Int32) (w_14 : Int32) (w_15 : Int32) (w_16 : Int32) (w_17 : Int32) (w_18 : Int32) (w_19 : Int32) (w_20 : List Int32) (w_21 : List Int32) (w_22 : List Int32) (w_23 : List Int32) (w_24 : List Int32) (w_25 : List Int32) (w_26 : List Int32) (w_27 : List Int32) (w_28 : Int32) (w_29 : List Int32) =>
    if x3 = 0 then
    (fX8_wind_118 N (fX8_wind_54 N n) x3 x4 x5 r_12 x8 w_18 x7 v_now_rows v_now_cols v_now_high v_now_wide v_now_folds v_now_wrong v_now_more v_now_rowOf v_now_colOf v_now_below v_now_face v_now_worn v_now_last v_wearing_stepCount w_28 v_wearing_steps w_29 v_planned_size w_13 w_14 w_15 w_16 w_17 w_18 w_19 w_20 w_21 w_22 w_23 w_24 w_25 w_26 w_27 v_planned_lines v_planned_ways v_changes_value)
    else (fX8_wind_118 N (fX8_wind_54 N n) x3 x4 x5 r_12 x8 w_19 x7 v_now_rows v_now_cols v_now_high v_now_wide v_now_folds v_now_wrong v_now_more v_now_rowOf v_now_colOf v_now_below v_now_face v_now_worn v_now_last v_wearing_stepCount w_28 v_wearing_steps w_29 v_planned_size w_13 w_14 w_15 w_16 w_17 w_18 w_19 w_20 w_21 w_22 w_23 w_24 w_25 w_26 w_27 v_planned_lines v_planned_ways v_changes_value)))

def fX8_wind (N : Nat) (x1 : Int32) (x2 : Int32) (x3 : Int32) (v_now_rows : Int32) (v_now_cols : Int32) (v_now_high : Int32) (v_now_wide : Int32) (v_now_folds : Int32) (v_now_wrong : Int32) (v_now_more : Int32) (v_now_rowOf : List Int32) (v_now_colOf : List Int32) (v_now_below : List Int32) (v_now_face : List Int32) (v_now_worn : List Int32) (v_now_last : List Int32) (v_wearing_stepCount : Int32) (v_wearing_stacked : Int32) (v_wearing_steps : List Int32) (v_wearing_stack : List Int32) (v_planned_size : Int32) (v_planned_trial_rows : Int32) (v_planned_trial_cols : Int32) (v_planned_trial_high : Int32) (v_planned_trial_wide : Int32) (v_planned_trial_folds : Int32) (v_planned_trial_wrong : Int32) (v_planned_trial_more : Int32) (v_planned_trial_rowOf : List Int32) (v_planned_trial_colOf : List Int32) (v_planned_trial_below : List Int32) (v_planned_trial_face : List Int32) (v_planned_trial_worn : List Int32) (v_planned_trial_last : List Int32) (v_planned_trial_bend : List Int32) (v_planned_trial_tall : List Int32) (v_planned_lines : List Int32) (v_planned_ways : List Int32) (v_changes_value : Int32) : Option (Int32 × Int32 × List Int32 × Int32 × Int32 × Int32 × Int32 × Int32 × Int32 × Int32 × List Int32 × List Int32 × List Int32 × List Int32 × List Int32 × List Int32 × List Int32 × List Int32) :=
    mm_ck (mm_nz (1000 : Int32)) (mm_nm ((x2 / (1000 : Int32))) (fun (y_2 : Int32) =>
    mm_ck (mm_nz (1000 : Int32)) (mm_nm ((mm_rem x2 (1000 : Int32))) (fun (y_4 : Int32) =>
    if y_2 < (1 : Int32) then
    (some ((-1 : Int32), v_wearing_stacked, v_wearing_stack, v_planned_trial_rows, v_planned_trial_cols, v_planned_trial_high, v_planned_trial_wide, v_planned_trial_folds, v_planned_trial_wrong, v_planned_trial_more, v_planned_trial_rowOf, v_planned_trial_colOf, v_planned_trial_below, v_planned_trial_face, v_planned_trial_worn, v_planned_trial_last, v_planned_trial_bend, v_planned_trial_tall))
    else (if (20 : Int32) < y_2 then
    (some ((-1 : Int32), v_wearing_stacked, v_wearing_stack, v_planned_trial_rows, v_planned_trial_cols, v_planned_trial_high, v_planned_trial_wide, v_planned_trial_folds, v_planned_trial_wrong, v_planned_trial_more, v_planned_trial_rowOf, v_planned_trial_colOf, v_planned_trial_below, v_planned_trial_face, v_planned_trial_worn, v_planned_trial_last, v_planned_trial_bend, v_planned_trial_tall))
    else (if (100 : Int32) < y_4 then
    (some ((-1 : Int32), v_wearing_stacked, v_wearing_stack, v_planned_trial_rows, v_planned_trial_cols, v_planned_trial_high, v_planned_trial_wide, v_planned_trial_folds, v_planned_trial_wrong, v_planned_trial_more, v_planned_trial_rowOf, v_planned_trial_colOf, v_planned_trial_below, v_planned_trial_face, v_planned_trial_worn, v_planned_trial_last, v_planned_trial_bend, v_planned_trial_tall))
    else (if x3 < 0 then
    (some ((-1 : Int32), v_wearing_stacked, v_wearing_stack, v_planned_trial_rows, v_planned_trial_cols, v_planned_trial_high, v_planned_trial_wide, v_planned_trial_folds, v_planned_trial_wrong, v_planned_trial_more, v_planned_trial_rowOf, v_planned_trial_colOf, v_planned_trial_below, v_planned_trial_face, v_planned_trial_worn, v_planned_trial_last, v_planned_trial_bend, v_planned_trial_tall))
    else (if x3 ≤ (1 : Int32) then
    (fX8_wind_54 N N x3 y_2 y_4 x1 (0 : Int32) (0 : Int32) v_now_rows v_now_cols v_now_high v_now_wide v_now_folds v_now_wrong v_now_more v_now_rowOf v_now_colOf v_now_below v_now_face v_now_worn v_now_last v_wearing_stepCount v_wearing_stacked v_wearing_steps v_wearing_stack v_planned_size v_planned_trial_rows v_planned_trial_cols v_planned_trial_high v_planned_trial_wide v_planned_trial_folds v_planned_trial_wrong v_planned_trial_more v_planned_trial_rowOf v_planned_trial_colOf v_planned_trial_below v_planned_trial_face v_planned_trial_worn v_planned_trial_last v_planned_trial_bend v_planned_trial_tall v_planned_lines v_planned_ways v_changes_value)
    else (some ((-1 : Int32), v_wearing_stacked, v_wearing_stack, v_planned_trial_rows, v_planned_trial_cols, v_planned_trial_high, v_planned_trial_wide, v_planned_trial_folds, v_planned_trial_wrong, v_planned_trial_more, v_planned_trial_rowOf, v_planned_trial_colOf, v_planned_trial_below, v_planned_trial_face, v_planned_trial_worn, v_planned_trial_last, v_planned_trial_bend, v_planned_trial_tall))))))))))

def fX8_isStrip (N : Nat) (x0 : Int32) : Option (Bool) :=
    if x0 < (2 : Int32) then
    (some (false))
    else (if (7 : Int32) < x0 then
    (some (false))
    else (some (true)))

def fX8_crosses (N : Nat) (x1 : Int32) (x2 : Int32) (v_strip_at : List Int32) : Option (Int32 × List Int32) :=
    mm_bd1 (fX8_isStrip N x1) (fun (r_1 : Bool) =>
    if r_1 = false then
    (some ((-1 : Int32), v_strip_at))
    else (mm_bd2 (fX7_lay N x1 x2 v_strip_at) (fun (r_4 : Bool) (w_5 : List Int32) =>
    if r_4 = false then
    (some ((-1 : Int32), w_5))
    else (mm_bd1 (fX7_firstCross N x1 w_5) (fun (r_8 : Int32) =>
    if 0 ≤ r_8 then
    (some (r_8, w_5))
    else (some ((-2 : Int32), w_5)))))))

def fX8_orders (N : Nat) (x1 : Int32) (x2 : Int32) (v_strip_list : List Int32) (v_strip_found : List Int32) (v_strip_at : List Int32) : Option (Int32 × List Int32 × List Int32 × List Int32) :=
    mm_bd1 (fX8_isStrip N x1) (fun (r_1 : Bool) =>
    if r_1 = false then
    (some ((-1 : Int32), v_strip_list, v_strip_found, v_strip_at))
    else (if x2 = (-1 : Int32) then
    (mm_bd4 (fX7_howMany N x1 v_strip_list v_strip_found v_strip_at) (fun (r_10 : Int32) (w_11 : List Int32) (w_12 : List Int32) (w_13 : List Int32) =>
    some (r_10, w_11, w_12, w_13)))
    else (mm_bd4 (fX7_orderAt N x1 x2 v_strip_list v_strip_found v_strip_at) (fun (r_5 : Int32) (w_6 : List Int32) (w_7 : List Int32) (w_8 : List Int32) =>
    some (r_5, w_6, w_7, w_8)))))

def fX8_bends (N : Nat) (x1 : Int32) (x2 : Int32) (v_strip_at : List Int32) : Option (Int32 × List Int32) :=
    mm_bd1 (fX8_isStrip N x1) (fun (r_1 : Bool) =>
    if r_1 = false then
    (some ((-1 : Int32), v_strip_at))
    else (mm_bd2 (fX7_lay N x1 x2 v_strip_at) (fun (r_4 : Bool) (w_5 : List Int32) =>
    if r_4 = false then
    (some ((-1 : Int32), w_5))
    else (mm_bd1 (fX7_firstCross N x1 w_5) (fun (r_8 : Int32) =>
    if r_8 < 0 then
    (mm_bd1 (fX7_bits N x1 w_5) (fun (r_11 : Int32) =>
    some (r_11, w_5)))
    else (some ((-5 : Int32), w_5)))))))

def fX8_by (N : Nat) (x1 : Int32) (x2 : Int32) (x3 : Int32) (v_strip_list : List Int32) (v_strip_found : List Int32) (v_strip_at : List Int32) : Option (Int32 × List Int32 × List Int32 × List Int32) :=
    mm_bd1 (fX8_isStrip N x1) (fun (r_1 : Bool) =>
    if r_1 = false then
    (some ((-1 : Int32), v_strip_list, v_strip_found, v_strip_at))
    else (if x2 < 0 then
    (some ((-1 : Int32), v_strip_list, v_strip_found, v_strip_at))
    else (if ((1 : Int32) <<< ((x1 - (1 : Int32)) &&& 31)) ≤ x2 then
    (some ((-1 : Int32), v_strip_list, v_strip_found, v_strip_at))
    else (if x3 < 0 then
    (some ((-1 : Int32), v_strip_list, v_strip_found, v_strip_at))
    else (if x3 ≤ (1 : Int32) then
    (if x3 = 0 then
    (mm_bd4 (fX7_howManyBent N x1 x2 v_strip_list v_strip_found v_strip_at) (fun (r_15 : Int32) (w_16 : List Int32) (w_17 : List Int32) (w_18 : List Int32) =>
    some (r_15, w_16, w_17, w_18)))
    else (mm_bd4 (fX7_firstBent N x1 x2 v_strip_list v_strip_found v_strip_at) (fun (r_9 : Int32) (w_10 : List Int32) (w_11 : List Int32) (w_12 : List Int32) =>
    if 0 ≤ r_9 then
    (some (r_9, w_10, w_11, w_12))
    else (some ((-2 : Int32), w_10, w_11, w_12)))))
    else (some ((-1 : Int32), v_strip_list, v_strip_found, v_strip_at)))))))

def fX8_with (N : Nat) (x1 : Int32) (x2 : Int32) (v_strip_list : List Int32) (v_strip_found : List Int32) (v_strip_at : List Int32) : Option (Int32 × List Int32 × List Int32 × List Int32) :=
    mm_bd1 (fX8_isStrip N x1) (fun (r_1 : Bool) =>
    if r_1 = false then
    (some ((-1 : Int32), v_strip_list, v_strip_found, v_strip_at))
    else (if x2 < 0 then
    (some ((-1 : Int32), v_strip_list, v_strip_found, v_strip_at))
    else (if x2 < x1 then
    (mm_bd4 (fX7_howManyTopped N x1 x2 v_strip_list v_strip_found v_strip_at) (fun (r_6 : Int32) (w_7 : List Int32) (w_8 : List Int32) (w_9 : List Int32) =>
    some (r_6, w_7, w_8, w_9)))
    else (some ((-1 : Int32), v_strip_list, v_strip_found, v_strip_at)))))

def fX8_image (N : Nat) (v_hasImage : Bool) (v_now_rows : Int32) (v_now_cols : Int32) (v_now_high : Int32) (v_now_wide : Int32) (v_now_folds : Int32) (v_now_wrong : Int32) (v_now_more : Int32) (v_now_rowOf : List Int32) (v_now_colOf : List Int32) (v_now_below : List Int32) (v_now_face : List Int32) (v_now_worn : List Int32) (v_now_last : List Int32) (v_kept_rows : Int32) (v_kept_cols : Int32) (v_kept_high : Int32) (v_kept_wide : Int32) (v_kept_folds : Int32) (v_kept_wrong : Int32) (v_kept_more : Int32) (v_kept_rowOf : List Int32) (v_kept_colOf : List Int32) (v_kept_below : List Int32) (v_kept_face : List Int32) (v_kept_worn : List Int32) (v_kept_last : List Int32) : Option (Int32 × Bool × Int32 × Int32 × Int32 × Int32 × Int32 × Int32 × Int32 × List Int32 × List Int32 × List Int32 × List Int32 × List Int32 × List Int32) :=
    mm_bd13 (fX5_copy N v_kept_rows v_kept_cols v_kept_high v_kept_wide v_kept_folds v_kept_wrong v_kept_more v_kept_rowOf v_kept_colOf v_kept_below v_kept_face v_kept_worn v_kept_last v_now_rows v_now_cols v_now_high v_now_wide v_now_folds v_now_wrong v_now_more v_now_rowOf v_now_colOf v_now_below v_now_face v_now_worn v_now_last) (fun (w_1 : Int32) (w_2 : Int32) (w_3 : Int32) (w_4 : Int32) (w_5 : Int32) (w_6 : Int32) (w_7 : Int32) (w_8 : List Int32) (w_9 : List Int32) (w_10 : List Int32) (w_11 : List Int32) (w_12 : List Int32) (w_13 : List Int32) =>
    some (v_now_folds, true, w_1, w_2, w_3, w_4, w_5, w_6, w_7, w_8, w_9, w_10, w_11, w_12, w_13))

def fX8_back (N : Nat) (v_hasImage : Bool) (v_now_rows : Int32) (v_now_cols : Int32) (v_now_high : Int32) (v_now_wide : Int32) (v_now_folds : Int32) (v_now_wrong : Int32) (v_now_more : Int32) (v_now_rowOf : List Int32) (v_now_colOf : List Int32) (v_now_below : List Int32) (v_now_face : List Int32) (v_now_worn : List Int32) (v_now_last : List Int32) (v_kept_rows : Int32) (v_kept_cols : Int32) (v_kept_high : Int32) (v_kept_wide : Int32) (v_kept_folds : Int32) (v_kept_wrong : Int32) (v_kept_more : Int32) (v_kept_rowOf : List Int32) (v_kept_colOf : List Int32) (v_kept_below : List Int32) (v_kept_face : List Int32) (v_kept_worn : List Int32) (v_kept_last : List Int32) : Option (Int32 × Int32 × Int32 × Int32 × Int32 × Int32 × Int32 × Int32 × List Int32 × List Int32 × List Int32 × List Int32 × List Int32 × List Int32) :=
    if v_hasImage = false then
    (some ((-5 : Int32), v_now_rows, v_now_cols, v_now_high, v_now_wide, v_now_folds, v_now_wrong, v_now_more, v_now_rowOf, v_now_colOf, v_now_below, v_now_face, v_now_worn, v_now_last))
    else (mm_bd13 (fX5_copy N v_now_rows v_now_cols v_now_high v_now_wide v_now_folds v_now_wrong v_now_more v_now_rowOf v_now_colOf v_now_below v_now_face v_now_worn v_now_last v_kept_rows v_kept_cols v_kept_high v_kept_wide v_kept_folds v_kept_wrong v_kept_more v_kept_rowOf v_kept_colOf v_kept_below v_kept_face v_kept_worn v_kept_last) (fun (w_2 : Int32) (w_3 : Int32) (w_4 : Int32) (w_5 : Int32) (w_6 : Int32) (w_7 : Int32) (w_8 : Int32) (w_9 : List Int32) (w_10 : List Int32) (w_11 : List Int32) (w_12 : List Int32) (w_13 : List Int32) (w_14 : List Int32) =>
    some (w_6, w_2, w_3, w_4, w_5, w_6, w_7, w_8, w_9, w_10, w_11, w_12, w_13, w_14)))

def fX8_undo (N : Nat) (v_changes_value : Int32) (v_changes_done : Int32) (v_changes_before : List Int32) : Option (Int32 × Int32 × Int32) :=
    if v_changes_done = 0 then
    (some ((-5 : Int32), v_changes_value, v_changes_done))
    else (mm_bd2 (fX0_stepBack N v_changes_value v_changes_done v_changes_before) (fun (w_2 : Int32) (w_3 : Int32) =>
    some (w_3, w_2, w_3)))

def fX8_redo (N : Nat) (v_changes_value : Int32) (v_changes_done : Int32) (v_changes_size : Int32) (v_changes_after : List Int32) : Option (Int32 × Int32 × Int32) :=
    if v_changes_done = v_changes_size then
    (some ((-5 : Int32), v_changes_value, v_changes_done))
    else (mm_bd2 (fX0_stepOn N v_changes_value v_changes_done v_changes_size v_changes_after) (fun (w_2 : Int32) (w_3 : Int32) =>
    some ((v_changes_size - w_3), w_2, w_3)))

def fX8_body (N : Nat) (x1 : Int32) (v_foldings_size : Int32) (v_foldings_kinds : List Int32) : Option (Int32 × Int32 × List Int32) :=
    if x1 < 0 then
    (some ((-1 : Int32), v_foldings_size, v_foldings_kinds))
    else (if x1 < (8 : Int32) then
    (mm_bd3 (fX1_make N x1 v_foldings_size v_foldings_kinds) (fun (r_3 : Bool) (w_4 : Int32) (w_5 : List Int32) =>
    if r_3 = false then
    (some ((-3 : Int32), w_4, w_5))
    else (some ((w_4 - (1 : Int32)), w_4, w_5))))
    else (some ((-1 : Int32), v_foldings_size, v_foldings_kinds)))

def fX8_act (N : Nat) (x1 : Int32) (x2 : Int32) (x3 : Int32) (v_foldings_size : Int32) (v_foldings_ran : Int32) (v_foldings_number : Int32) (v_foldings_kinds : List Int32) (v_foldings_trace : List Int32) : Option (Int32 × Int32 × Int32 × List Int32) :=
    mm_bd4 (fX1_perform N x1 x2 x3 v_foldings_size v_foldings_ran v_foldings_number v_foldings_kinds v_foldings_trace) (fun (r_1 : Int32) (w_2 : Int32) (w_3 : Int32) (w_4 : List Int32) =>
    some (r_1, w_2, w_3, w_4))

def fX8_trace (N : Nat) (x1 : Int32) (v_foldings_ran : Int32) (v_foldings_trace : List Int32) : Option (Int32) :=
    mm_bd1 (fX1_traced N x1 v_foldings_ran v_foldings_trace) (fun (r_1 : Int32) =>
    some (r_1))

def fX8_keep_25 (N : Nat)  (x1 : Int32) (x2 : Int32) (v_foldings_size : Int32) (v_shelves0_holds : Int32) (v_shelves0_body : Int32) (v_shelves1_holds : Int32) (v_shelves1_body : Int32) (v_shelves2_holds : Int32) (v_shelves2_body : Int32) (v_shelves3_holds : Int32) (v_shelves3_body : Int32) (v_shelves4_holds : Int32) (v_shelves4_body : Int32) (v_shelves5_holds : Int32) (v_shelves5_body : Int32) : Option (Int32 × Int32 × Int32 × Int32 × Int32 × Int32 × Int32 × Int32 × Int32 × Int32 × Int32 × Int32 × Int32) :=
    if x2 = (-1 : Int32) then
    (if x1 = (0 : Int32) then
    (some ((1 : Int32), (0 : Int32), v_shelves0_body, v_shelves1_holds, v_shelves1_body, v_shelves2_holds, v_shelves2_body, v_shelves3_holds, v_shelves3_body, v_shelves4_holds, v_shelves4_body, v_shelves5_holds, v_shelves5_body))
    else (if x1 = (1 : Int32) then
    (some ((1 : Int32), v_shelves0_holds, v_shelves0_body, (0 : Int32), v_shelves1_body, v_shelves2_holds, v_shelves2_body, v_shelves3_holds, v_shelves3_body, v_shelves4_holds, v_shelves4_body, v_shelves5_holds, v_shelves5_body))
    else (if x1 = (2 : Int32) then
    (some ((1 : Int32), v_shelves0_holds, v_shelves0_body, v_shelves1_holds, v_shelves1_body, (0 : Int32), v_shelves2_body, v_shelves3_holds, v_shelves3_body, v_shelves4_holds, v_shelves4_body, v_shelves5_holds, v_shelves5_body))
    else (if x1 = (3 : Int32) then
    (some ((1 : Int32), v_shelves0_holds, v_shelves0_body, v_shelves1_holds, v_shelves1_body, v_shelves2_holds, v_shelves2_body, (0 : Int32), v_shelves3_body, v_shelves4_holds, v_shelves4_body, v_shelves5_holds, v_shelves5_body))
    else (if x1 = (4 : Int32) then
    (some ((1 : Int32), v_shelves0_holds, v_shelves0_body, v_shelves1_holds, v_shelves1_body, v_shelves2_holds, v_shelves2_body, v_shelves3_holds, v_shelves3_body, (0 : Int32), v_shelves4_body, v_shelves5_holds, v_shelves5_body))
    else (if x1 = (5 : Int32) then
    (some ((1 : Int32), v_shelves0_holds, v_shelves0_body, v_shelves1_holds, v_shelves1_body, v_shelves2_holds, v_shelves2_body, v_shelves3_holds, v_shelves3_body, v_shelves4_holds, v_shelves4_body, (0 : Int32), v_shelves5_body))
    else (none)))))))
    else (if x1 = (0 : Int32) then
    (mm_bd2 (fX6_holdFolding N x2 v_shelves0_holds v_shelves0_body) (fun (w_10 : Int32) (w_11 : Int32) =>
    some ((1 : Int32), w_10, w_11, v_shelves1_holds, v_shelves1_body, v_shelves2_holds, v_shelves2_body, v_shelves3_holds, v_shelves3_body, v_shelves4_holds, v_shelves4_body, v_shelves5_holds, v_shelves5_body)))
    else (if x1 = (1 : Int32) then
    (mm_bd2 (fX6_holdFolding N x2 v_shelves1_holds v_shelves1_body) (fun (w_14 : Int32) (w_15 : Int32) =>
    some ((1 : Int32), v_shelves0_holds, v_shelves0_body, w_14, w_15, v_shelves2_holds, v_shelves2_body, v_shelves3_holds, v_shelves3_body, v_shelves4_holds, v_shelves4_body, v_shelves5_holds, v_shelves5_body)))
    else (if x1 = (2 : Int32) then
    (mm_bd2 (fX6_holdFolding N x2 v_shelves2_holds v_shelves2_body) (fun (w_18 : Int32) (w_19 : Int32) =>
    some ((1 : Int32), v_shelves0_holds, v_shelves0_body, v_shelves1_holds, v_shelves1_body, w_18, w_19, v_shelves3_holds, v_shelves3_body, v_shelves4_holds, v_shelves4_body, v_shelves5_holds, v_shelves5_body)))
    else (if x1 = (3 : Int32) then
    (mm_bd2 (fX6_holdFolding N x2 v_shelves3_holds v_shelves3_body) (fun (w_22 : Int32) (w_23 : Int32) =>
    some ((1 : Int32), v_shelves0_holds, v_shelves0_body, v_shelves1_holds, v_shelves1_body, v_shelves2_holds, v_shelves2_body, w_22, w_23, v_shelves4_holds, v_shelves4_body, v_shelves5_holds, v_shelves5_body)))
    else (if x1 = (4 : Int32) then
    (mm_bd2 (fX6_holdFolding N x2 v_shelves4_holds v_shelves4_body) (fun (w_26 : Int32) (w_27 : Int32) =>
    some ((1 : Int32), v_shelves0_holds, v_shelves0_body, v_shelves1_holds, v_shelves1_body, v_shelves2_holds, v_shelves2_body, v_shelves3_holds, v_shelves3_body, w_26, w_27, v_shelves5_holds, v_shelves5_body)))
    else (if x1 = (5 : Int32) then
    (mm_bd2 (fX6_holdFolding N x2 v_shelves5_holds v_shelves5_body) (fun (w_30 : Int32) (w_31 : Int32) =>
    some ((1 : Int32), v_shelves0_holds, v_shelves0_body, v_shelves1_holds, v_shelves1_body, v_shelves2_holds, v_shelves2_body, v_shelves3_holds, v_shelves3_body, v_shelves4_holds, v_shelves4_body, w_30, w_31)))
    else (none)))))))

def fX8_keep (N : Nat) (x1 : Int32) (x2 : Int32) (v_foldings_size : Int32) (v_shelves0_holds : Int32) (v_shelves0_body : Int32) (v_shelves1_holds : Int32) (v_shelves1_body : Int32) (v_shelves2_holds : Int32) (v_shelves2_body : Int32) (v_shelves3_holds : Int32) (v_shelves3_body : Int32) (v_shelves4_holds : Int32) (v_shelves4_body : Int32) (v_shelves5_holds : Int32) (v_shelves5_body : Int32) : Option (Int32 × Int32 × Int32 × Int32 × Int32 × Int32 × Int32 × Int32 × Int32 × Int32 × Int32 × Int32 × Int32) :=
    mm_bd1 (fX8_isShelf N x1) (fun (r_1 : Bool) =>
    if r_1 = false then
    (some ((-1 : Int32), v_shelves0_holds, v_shelves0_body, v_shelves1_holds, v_shelves1_body, v_shelves2_holds, v_shelves2_body, v_shelves3_holds, v_shelves3_body, v_shelves4_holds, v_shelves4_body, v_shelves5_holds, v_shelves5_body))
    else (if x2 = (-1 : Int32) then
    (fX8_keep_25 N x1 x2 v_foldings_size v_shelves0_holds v_shelves0_body v_shelves1_holds v_shelves1_body v_shelves2_holds v_shelves2_body v_shelves3_holds v_shelves3_body v_shelves4_holds v_shelves4_body v_shelves5_holds v_shelves5_body)
    else (mm_bd1 (fX1_has N x2 v_foldings_size) (fun (r_5 : Bool) =>
    if r_5 = false then
    (some ((-1 : Int32), v_shelves0_holds, v_shelves0_body, v_shelves1_holds, v_shelves1_body, v_shelves2_holds, v_shelves2_body, v_shelves3_holds, v_shelves3_body, v_shelves4_holds, v_shelves4_body, v_shelves5_holds, v_shelves5_body))
    else (fX8_keep_25 N x1 x2 v_foldings_size v_shelves0_holds v_shelves0_body v_shelves1_holds v_shelves1_body v_shelves2_holds v_shelves2_body v_shelves3_holds v_shelves3_body v_shelves4_holds v_shelves4_body v_shelves5_holds v_shelves5_body)))))

def fX8_row (N : Nat) (x1 : Int32) (x2 : Int32) (x3 : Int32) (v_shelves0_holds : Int32) (v_shelves0_sort : Int32) (v_shelves0_size : Int32) (v_shelves0_items : List Int64) (v_shelves1_holds : Int32) (v_shelves1_sort : Int32) (v_shelves1_size : Int32) (v_shelves1_items : List Int64) (v_shelves2_holds : Int32) (v_shelves2_sort : Int32) (v_shelves2_size : Int32) (v_shelves2_items : List Int64) (v_shelves3_holds : Int32) (v_shelves3_sort : Int32) (v_shelves3_size : Int32) (v_shelves3_items : List Int64) (v_shelves4_holds : Int32) (v_shelves4_sort : Int32) (v_shelves4_size : Int32) (v_shelves4_items : List Int64) (v_shelves5_holds : Int32) (v_shelves5_sort : Int32) (v_shelves5_size : Int32) (v_shelves5_items : List Int64) : Option (Int32 × Int32 × Int32 × Int32 × List Int64 × Int32 × Int32 × Int32 × List Int64 × Int32 × Int32 × Int32 × List Int64 × Int32 × Int32 × Int32 × List Int64 × Int32 × Int32 × Int32 × List Int64 × Int32 × Int32 × Int32 × List Int64) :=
    mm_bd1 (fX8_isShelf N x1) (fun (r_1 : Bool) =>
    if r_1 = false then
    (some ((-1 : Int32), v_shelves0_holds, v_shelves0_sort, v_shelves0_size, v_shelves0_items, v_shelves1_holds, v_shelves1_sort, v_shelves1_size, v_shelves1_items, v_shelves2_holds, v_shelves2_sort, v_shelves2_size, v_shelves2_items, v_shelves3_holds, v_shelves3_sort, v_shelves3_size, v_shelves3_items, v_shelves4_holds, v_shelves4_sort, v_shelves4_size, v_shelves4_items, v_shelves5_holds, v_shelves5_sort, v_shelves5_size, v_shelves5_items))
    else (if x2 < 0 then
    (some ((-1 : Int32), v_shelves0_holds, v_shelves0_sort, v_shelves0_size, v_shelves0_items, v_shelves1_holds, v_shelves1_sort, v_shelves1_size, v_shelves1_items, v_shelves2_holds, v_shelves2_sort, v_shelves2_size, v_shelves2_items, v_shelves3_holds, v_shelves3_sort, v_shelves3_size, v_shelves3_items, v_shelves4_holds, v_shelves4_sort, v_shelves4_size, v_shelves4_items, v_shelves5_holds, v_shelves5_sort, v_shelves5_size, v_shelves5_items))
    else (if (5 : Int32) ≤ x2 then
    (some ((-1 : Int32), v_shelves0_holds, v_shelves0_sort, v_shelves0_size, v_shelves0_items, v_shelves1_holds, v_shelves1_sort, v_shelves1_size, v_shelves1_items, v_shelves2_holds, v_shelves2_sort, v_shelves2_size, v_shelves2_items, v_shelves3_holds, v_shelves3_sort, v_shelves3_size, v_shelves3_items, v_shelves4_holds, v_shelves4_sort, v_shelves4_size, v_shelves4_items, v_shelves5_holds, v_shelves5_sort, v_shelves5_size, v_shelves5_items))
    else (if x3 ≤ (60 : Int32) then
    (if 0 ≤ x3 then
    (if x1 = (0 : Int32) then
    (mm_bd4 (fX6_holdRow N x2 x3 v_shelves0_holds v_shelves0_sort v_shelves0_size v_shelves0_items) (fun (w_9 : Int32) (w_10 : Int32) (w_11 : Int32) (w_12 : List Int64) =>
    some ((1 : Int32), w_9, w_10, w_11, w_12, v_shelves1_holds, v_shelves1_sort, v_shelves1_size, v_shelves1_items, v_shelves2_holds, v_shelves2_sort, v_shelves2_size, v_shelves2_items, v_shelves3_holds, v_shelves3_sort, v_shelves3_size, v_shelves3_items, v_shelves4_holds, v_shelves4_sort, v_shelves4_size, v_shelves4_items, v_shelves5_holds, v_shelves5_sort, v_shelves5_size, v_shelves5_items)))
    else (if x1 = (1 : Int32) then
    (mm_bd4 (fX6_holdRow N x2 x3 v_shelves1_holds v_shelves1_sort v_shelves1_size v_shelves1_items) (fun (w_15 : Int32) (w_16 : Int32) (w_17 : Int32) (w_18 : List Int64) =>
    some ((1 : Int32), v_shelves0_holds, v_shelves0_sort, v_shelves0_size, v_shelves0_items, w_15, w_16, w_17, w_18, v_shelves2_holds, v_shelves2_sort, v_shelves2_size, v_shelves2_items, v_shelves3_holds, v_shelves3_sort, v_shelves3_size, v_shelves3_items, v_shelves4_holds, v_shelves4_sort, v_shelves4_size, v_shelves4_items, v_shelves5_holds, v_shelves5_sort, v_shelves5_size, v_shelves5_items)))
    else (if x1 = (2 : Int32) then
    (mm_bd4 (fX6_holdRow N x2 x3 v_shelves2_holds v_shelves2_sort v_shelves2_size v_shelves2_items) (fun (w_21 : Int32) (w_22 : Int32) (w_23 : Int32) (w_24 : List Int64) =>
    some ((1 : Int32), v_shelves0_holds, v_shelves0_sort, v_shelves0_size, v_shelves0_items, v_shelves1_holds, v_shelves1_sort, v_shelves1_size, v_shelves1_items, w_21, w_22, w_23, w_24, v_shelves3_holds, v_shelves3_sort, v_shelves3_size, v_shelves3_items, v_shelves4_holds, v_shelves4_sort, v_shelves4_size, v_shelves4_items, v_shelves5_holds, v_shelves5_sort, v_shelves5_size, v_shelves5_items)))
    else (if x1 = (3 : Int32) then
    (mm_bd4 (fX6_holdRow N x2 x3 v_shelves3_holds v_shelves3_sort v_shelves3_size v_shelves3_items) (fun (w_27 : Int32) (w_28 : Int32) (w_29 : Int32) (w_30 : List Int64) =>
    some ((1 : Int32), v_shelves0_holds, v_shelves0_sort, v_shelves0_size, v_shelves0_items, v_shelves1_holds, v_shelves1_sort, v_shelves1_size, v_shelves1_items, v_shelves2_holds, v_shelves2_sort, v_shelves2_size, v_shelves2_items, w_27, w_28, w_29, w_30, v_shelves4_holds, v_shelves4_sort, v_shelves4_size, v_shelves4_items, v_shelves5_holds, v_shelves5_sort, v_shelves5_size, v_shelves5_items)))
    else (if x1 = (4 : Int32) then
    (mm_bd4 (fX6_holdRow N x2 x3 v_shelves4_holds v_shelves4_sort v_shelves4_size v_shelves4_items) (fun (w_33 : Int32) (w_34 : Int32) (w_35 : Int32) (w_36 : List Int64) =>
    some ((1 : Int32), v_shelves0_holds, v_shelves0_sort, v_shelves0_size, v_shelves0_items, v_shelves1_holds, v_shelves1_sort, v_shelves1_size, v_shelves1_items, v_shelves2_holds, v_shelves2_sort, v_shelves2_size, v_shelves2_items, v_shelves3_holds, v_shelves3_sort, v_shelves3_size, v_shelves3_items, w_33, w_34, w_35, w_36, v_shelves5_holds, v_shelves5_sort, v_shelves5_size, v_shelves5_items)))
    else (if x1 = (5 : Int32) then
    (mm_bd4 (fX6_holdRow N x2 x3 v_shelves5_holds v_shelves5_sort v_shelves5_size v_shelves5_items) (fun (w_39 : Int32) (w_40 : Int32) (w_41 : Int32) (w_42 : List Int64) =>
    some ((1 : Int32), v_shelves0_holds, v_shelves0_sort, v_shelves0_size, v_shelves0_items, v_shelves1_holds, v_shelves1_sort, v_shelves1_size, v_shelves1_items, v_shelves2_holds, v_shelves2_sort, v_shelves2_size, v_shelves2_items, v_shelves3_holds, v_shelves3_sort, v_shelves3_size, v_shelves3_items, v_shelves4_holds, v_shelves4_sort, v_shelves4_size, v_shelves4_items, w_39, w_40, w_41, w_42)))
    else (none)))))))
    else (some ((-14 : Int32), v_shelves0_holds, v_shelves0_sort, v_shelves0_size, v_shelves0_items, v_shelves1_holds, v_shelves1_sort, v_shelves1_size, v_shelves1_items, v_shelves2_holds, v_shelves2_sort, v_shelves2_size, v_shelves2_items, v_shelves3_holds, v_shelves3_sort, v_shelves3_size, v_shelves3_items, v_shelves4_holds, v_shelves4_sort, v_shelves4_size, v_shelves4_items, v_shelves5_holds, v_shelves5_sort, v_shelves5_size, v_shelves5_items)))
    else (some ((-1 : Int32), v_shelves0_holds, v_shelves0_sort, v_shelves0_size, v_shelves0_items, v_shelves1_holds, v_shelves1_sort, v_shelves1_size, v_shelves1_items, v_shelves2_holds, v_shelves2_sort, v_shelves2_size, v_shelves2_items, v_shelves3_holds, v_shelves3_sort, v_shelves3_size, v_shelves3_items, v_shelves4_holds, v_shelves4_sort, v_shelves4_size, v_shelves4_items, v_shelves5_holds, v_shelves5_sort, v_shelves5_size, v_shelves5_items))))))

def fX8_refusedElement (N : Nat) (x1 : Int32) (x2 : Int32) (v_shelves0_holds : Int32) (v_shelves0_size : Int32) (v_shelves1_holds : Int32) (v_shelves1_size : Int32) (v_shelves2_holds : Int32) (v_shelves2_size : Int32) (v_shelves3_holds : Int32) (v_shelves3_size : Int32) (v_shelves4_holds : Int32) (v_shelves4_size : Int32) (v_shelves5_holds : Int32) (v_shelves5_size : Int32) : Option (Int32) :=
    mm_bd1 (fX8_isShelf N x1) (fun (r_1 : Bool) =>
    if r_1 = false then
    (some ((-1 : Int32)))
    else (if x1 = (0 : Int32) then
    (if v_shelves0_holds = (0 : Int32) then
    (some ((-11 : Int32)))
    else (if v_shelves0_holds = (1 : Int32) then
    (some ((-12 : Int32)))
    else (mm_bd1 (fX6_hasPart N x2 (1 : Int32) v_shelves0_size) (fun (r_7 : Bool) =>
    if r_7 = false then
    (some ((-13 : Int32)))
    else (some ((0 : Int32)))))))
    else (if x1 = (1 : Int32) then
    (if v_shelves1_holds = (0 : Int32) then
    (some ((-11 : Int32)))
    else (if v_shelves1_holds = (1 : Int32) then
    (some ((-12 : Int32)))
    else (mm_bd1 (fX6_hasPart N x2 (1 : Int32) v_shelves1_size) (fun (r_13 : Bool) =>
    if r_13 = false then
    (some ((-13 : Int32)))
    else (some ((0 : Int32)))))))
    else (if x1 = (2 : Int32) then
    (if v_shelves2_holds = (0 : Int32) then
    (some ((-11 : Int32)))
    else (if v_shelves2_holds = (1 : Int32) then
    (some ((-12 : Int32)))
    else (mm_bd1 (fX6_hasPart N x2 (1 : Int32) v_shelves2_size) (fun (r_19 : Bool) =>
    if r_19 = false then
    (some ((-13 : Int32)))
    else (some ((0 : Int32)))))))
    else (if x1 = (3 : Int32) then
    (if v_shelves3_holds = (0 : Int32) then
    (some ((-11 : Int32)))
    else (if v_shelves3_holds = (1 : Int32) then
    (some ((-12 : Int32)))
    else (mm_bd1 (fX6_hasPart N x2 (1 : Int32) v_shelves3_size) (fun (r_25 : Bool) =>
    if r_25 = false then
    (some ((-13 : Int32)))
    else (some ((0 : Int32)))))))
    else (if x1 = (4 : Int32) then
    (if v_shelves4_holds = (0 : Int32) then
    (some ((-11 : Int32)))
    else (if v_shelves4_holds = (1 : Int32) then
    (some ((-12 : Int32)))
    else (mm_bd1 (fX6_hasPart N x2 (1 : Int32) v_shelves4_size) (fun (r_31 : Bool) =>
    if r_31 = false then
    (some ((-13 : Int32)))
    else (some ((0 : Int32)))))))
    else (if x1 = (5 : Int32) then
    (if v_shelves5_holds = (0 : Int32) then
    (some ((-11 : Int32)))
    else (if v_shelves5_holds = (1 : Int32) then
    (some ((-12 : Int32)))
    else (mm_bd1 (fX6_hasPart N x2 (1 : Int32) v_shelves5_size) (fun (r_37 : Bool) =>
    if r_37 = false then
    (some ((-13 : Int32)))
    else (some ((0 : Int32)))))))
    else (none))))))))

def fX8_put (N : Nat) (x1 : Int32) (x2 : Int32) (x3 : Int64) (v_shelves0_holds : Int32) (v_shelves0_sort : Int32) (v_shelves0_size : Int32) (v_shelves0_items : List Int64) (v_shelves1_holds : Int32) (v_shelves1_sort : Int32) (v_shelves1_size : Int32) (v_shelves1_items : List Int64) (v_shelves2_holds : Int32) (v_shelves2_sort : Int32) (v_shelves2_size : Int32) (v_shelves2_items : List Int64) (v_shelves3_holds : Int32) (v_shelves3_sort : Int32) (v_shelves3_size : Int32) (v_shelves3_items : List Int64) (v_shelves4_holds : Int32) (v_shelves4_sort : Int32) (v_shelves4_size : Int32) (v_shelves4_items : List Int64) (v_shelves5_holds : Int32) (v_shelves5_sort : Int32) (v_shelves5_size : Int32) (v_shelves5_items : List Int64) : Option (Int32 × List Int64 × List Int64 × List Int64 × List Int64 × List Int64 × List Int64) :=
    mm_bd1 (fX8_refusedElement N x1 x2 v_shelves0_holds v_shelves0_size v_shelves1_holds v_shelves1_size v_shelves2_holds v_shelves2_size v_shelves3_holds v_shelves3_size v_shelves4_holds v_shelves4_size v_shelves5_holds v_shelves5_size) (fun (r_1 : Int32) =>
    if r_1 = 0 then
    (if x1 = (0 : Int32) then
    (mm_bd1 (fX6_store N x2 x3 v_shelves0_sort v_shelves0_items) (fun (w_5 : List Int64) =>
    some ((1 : Int32), w_5, v_shelves1_items, v_shelves2_items, v_shelves3_items, v_shelves4_items, v_shelves5_items)))
    else (if x1 = (1 : Int32) then
    (mm_bd1 (fX6_store N x2 x3 v_shelves1_sort v_shelves1_items) (fun (w_8 : List Int64) =>
    some ((1 : Int32), v_shelves0_items, w_8, v_shelves2_items, v_shelves3_items, v_shelves4_items, v_shelves5_items)))
    else (if x1 = (2 : Int32) then
    (mm_bd1 (fX6_store N x2 x3 v_shelves2_sort v_shelves2_items) (fun (w_11 : List Int64) =>
    some ((1 : Int32), v_shelves0_items, v_shelves1_items, w_11, v_shelves3_items, v_shelves4_items, v_shelves5_items)))
    else (if x1 = (3 : Int32) then
    (mm_bd1 (fX6_store N x2 x3 v_shelves3_sort v_shelves3_items) (fun (w_14 : List Int64) =>
    some ((1 : Int32), v_shelves0_items, v_shelves1_items, v_shelves2_items, w_14, v_shelves4_items, v_shelves5_items)))
    else (if x1 = (4 : Int32) then
    (mm_bd1 (fX6_store N x2 x3 v_shelves4_sort v_shelves4_items) (fun (w_17 : List Int64) =>
    some ((1 : Int32), v_shelves0_items, v_shelves1_items, v_shelves2_items, v_shelves3_items, w_17, v_shelves5_items)))
    else (if x1 = (5 : Int32) then
    (mm_bd1 (fX6_store N x2 x3 v_shelves5_sort v_shelves5_items) (fun (w_20 : List Int64) =>
    some ((1 : Int32), v_shelves0_items, v_shelves1_items, v_shelves2_items, v_shelves3_items, v_shelves4_items, w_20)))
    else (none)))))))
    else (some (r_1, v_shelves0_items, v_shelves1_items, v_shelves2_items, v_shelves3_items, v_shelves4_items, v_shelves5_items)))

def fX8_element (N : Nat) (x1 : Int32) (x2 : Int32) (v_shelves0_holds : Int32) (v_shelves0_size : Int32) (v_shelves0_items : List Int64) (v_shelves1_holds : Int32) (v_shelves1_size : Int32) (v_shelves1_items : List Int64) (v_shelves2_holds : Int32) (v_shelves2_size : Int32) (v_shelves2_items : List Int64) (v_shelves3_holds : Int32) (v_shelves3_size : Int32) (v_shelves3_items : List Int64) (v_shelves4_holds : Int32) (v_shelves4_size : Int32) (v_shelves4_items : List Int64) (v_shelves5_holds : Int32) (v_shelves5_size : Int32) (v_shelves5_items : List Int64) : Option (Int64) :=
    mm_bd1 (fX8_refusedElement N x1 x2 v_shelves0_holds v_shelves0_size v_shelves1_holds v_shelves1_size v_shelves2_holds v_shelves2_size v_shelves3_holds v_shelves3_size v_shelves4_holds v_shelves4_size v_shelves5_holds v_shelves5_size) (fun (r_1 : Int32) =>
    if r_1 = 0 then
    (if x1 = (0 : Int32) then
    (mm_ck (mm_inb x2 v_shelves0_items.length) (some ((mm_lg v_shelves0_items x2))))
    else (if x1 = (1 : Int32) then
    (mm_ck (mm_inb x2 v_shelves1_items.length) (some ((mm_lg v_shelves1_items x2))))
    else (if x1 = (2 : Int32) then
    (mm_ck (mm_inb x2 v_shelves2_items.length) (some ((mm_lg v_shelves2_items x2))))
    else (if x1 = (3 : Int32) then
    (mm_ck (mm_inb x2 v_shelves3_items.length) (some ((mm_lg v_shelves3_items x2))))
    else (if x1 = (4 : Int32) then
    (mm_ck (mm_inb x2 v_shelves4_items.length) (some ((mm_lg v_shelves4_items x2))))
    else (if x1 = (5 : Int32) then
    (mm_ck (mm_inb x2 v_shelves5_items.length) (some ((mm_lg v_shelves5_items x2))))
    else (none)))))))
    else (some ((-9223372036854775808 : Int64))))

def fX8_shift (N : Nat) (x1 : Int32) (x2 : Int32) (x3 : Int32) (x4 : Int32) (x5 : Int32) (v_shelves0_holds : Int32) (v_shelves0_sort : Int32) (v_shelves0_size : Int32) (v_shelves0_items : List Int64) (v_shelves1_holds : Int32) (v_shelves1_sort : Int32) (v_shelves1_size : Int32) (v_shelves1_items : List Int64) (v_shelves2_holds : Int32) (v_shelves2_sort : Int32) (v_shelves2_size : Int32) (v_shelves2_items : List Int64) (v_shelves3_holds : Int32) (v_shelves3_sort : Int32) (v_shelves3_size : Int32) (v_shelves3_items : List Int64) (v_shelves4_holds : Int32) (v_shelves4_sort : Int32) (v_shelves4_size : Int32) (v_shelves4_items : List Int64) (v_shelves5_holds : Int32) (v_shelves5_sort : Int32) (v_shelves5_size : Int32) (v_shelves5_items : List Int64) : Option (Int32 × List Int64 × List Int64 × List Int64 × List Int64 × List Int64 × List Int64) :=
    mm_bd1 (fX8_isShelf N x1) (fun (r_1 : Bool) =>
    if r_1 = false then
    (some ((-1 : Int32), v_shelves0_items, v_shelves1_items, v_shelves2_items, v_shelves3_items, v_shelves4_items, v_shelves5_items))
    else (mm_bd1 (fX8_isShelf N x3) (fun (r_4 : Bool) =>
    if r_4 = false then
    (some ((-1 : Int32), v_shelves0_items, v_shelves1_items, v_shelves2_items, v_shelves3_items, v_shelves4_items, v_shelves5_items))
    else (if x1 = (0 : Int32) then
    (if x3 = (0 : Int32) then
    (if v_shelves0_holds = 0 then
    (some ((-11 : Int32), v_shelves0_items, v_shelves1_items, v_shelves2_items, v_shelves3_items, v_shelves4_items, v_shelves5_items))
    else (if v_shelves0_holds = 0 then
    (some ((-11 : Int32), v_shelves0_items, v_shelves1_items, v_shelves2_items, v_shelves3_items, v_shelves4_items, v_shelves5_items))
    else (if v_shelves0_holds = (2 : Int32) then
    (if v_shelves0_holds = (2 : Int32) then
    (if v_shelves0_sort = v_shelves0_sort then
    (if x5 < 0 then
    (some ((-13 : Int32), v_shelves0_items, v_shelves1_items, v_shelves2_items, v_shelves3_items, v_shelves4_items, v_shelves5_items))
    else (mm_bd1 (fX6_hasPart N x2 x5 v_shelves0_size) (fun (r_15 : Bool) =>
    if r_15 = false then
    (some ((-13 : Int32), v_shelves0_items, v_shelves1_items, v_shelves2_items, v_shelves3_items, v_shelves4_items, v_shelves5_items))
    else (mm_bd1 (fX6_hasPart N x4 x5 v_shelves0_size) (fun (r_18 : Bool) =>
    if r_18 = false then
    (some ((-13 : Int32), v_shelves0_items, v_shelves1_items, v_shelves2_items, v_shelves3_items, v_shelves4_items, v_shelves5_items))
    else (mm_ck (mm_cok x2 x4 x5 v_shelves0_items.length v_shelves0_items.length) (mm_nm (mm_cp v_shelves0_items v_shelves0_items x2 x4 x5) (fun (l_22 : List Int64) =>
    some (x5, l_22, v_shelves1_items, v_shelves2_items, v_shelves3_items, v_shelves4_items, v_shelves5_items)))))))))
    else (some ((-12 : Int32), v_shelves0_items, v_shelves1_items, v_shelves2_items, v_shelves3_items, v_shelves4_items, v_shelves5_items)))
    else (some ((-12 : Int32), v_shelves0_items, v_shelves1_items, v_shelves2_items, v_shelves3_items, v_shelves4_items, v_shelves5_items)))
    else (some ((-12 : Int32), v_shelves0_items, v_shelves1_items, v_shelves2_items, v_shelves3_items, v_shelves4_items, v_shelves5_items)))))
    else (if x3 = (1 : Int32) then
    (if v_shelves0_holds = 0 then
    (some ((-11 : Int32), v_shelves0_items, v_shelves1_items, v_shelves2_items, v_shelves3_items, v_shelves4_items, v_shelves5_items))
    else (if v_shelves1_holds = 0 then
    (some ((-11 : Int32), v_shelves0_items, v_shelves1_items, v_shelves2_items, v_shelves3_items, v_shelves4_items, v_shelves5_items))
    else (if v_shelves0_holds = (2 : Int32) then
    (if v_shelves1_holds = (2 : Int32) then
    (if v_shelves0_sort = v_shelves1_sort then
    (if x5 < 0 then
    (some ((-13 : Int32), v_shelves0_items, v_shelves1_items, v_shelves2_items, v_shelves3_items, v_shelves4_items, v_shelves5_items))
    else (mm_bd1 (fX6_hasPart N x2 x5 v_shelves0_size) (fun (r_30 : Bool) =>
    if r_30 = false then
    (some ((-13 : Int32), v_shelves0_items, v_shelves1_items, v_shelves2_items, v_shelves3_items, v_shelves4_items, v_shelves5_items))
    else (mm_bd1 (fX6_hasPart N x4 x5 v_shelves1_size) (fun (r_33 : Bool) =>
    if r_33 = false then
    (some ((-13 : Int32), v_shelves0_items, v_shelves1_items, v_shelves2_items, v_shelves3_items, v_shelves4_items, v_shelves5_items))
    else (mm_ck (mm_cok x2 x4 x5 v_shelves0_items.length v_shelves1_items.length) (mm_nm (mm_cp v_shelves0_items v_shelves1_items x2 x4 x5) (fun (l_37 : List Int64) =>
    some (x5, v_shelves0_items, l_37, v_shelves2_items, v_shelves3_items, v_shelves4_items, v_shelves5_items)))))))))
    else (some ((-12 : Int32), v_shelves0_items, v_shelves1_items, v_shelves2_items, v_shelves3_items, v_shelves4_items, v_shelves5_items)))
    else (some ((-12 : Int32), v_shelves0_items, v_shelves1_items, v_shelves2_items, v_shelves3_items, v_shelves4_items, v_shelves5_items)))
    else (some ((-12 : Int32), v_shelves0_items, v_shelves1_items, v_shelves2_items, v_shelves3_items, v_shelves4_items, v_shelves5_items)))))
    else (if x3 = (2 : Int32) then
    (if v_shelves0_holds = 0 then
    (some ((-11 : Int32), v_shelves0_items, v_shelves1_items, v_shelves2_items, v_shelves3_items, v_shelves4_items, v_shelves5_items))
    else (if v_shelves2_holds = 0 then
    (some ((-11 : Int32), v_shelves0_items, v_shelves1_items, v_shelves2_items, v_shelves3_items, v_shelves4_items, v_shelves5_items))
    else (if v_shelves0_holds = (2 : Int32) then
    (if v_shelves2_holds = (2 : Int32) then
    (if v_shelves0_sort = v_shelves2_sort then
    (if x5 < 0 then
    (some ((-13 : Int32), v_shelves0_items, v_shelves1_items, v_shelves2_items, v_shelves3_items, v_shelves4_items, v_shelves5_items))
    else (mm_bd1 (fX6_hasPart N x2 x5 v_shelves0_size) (fun (r_45 : Bool) =>
    if r_45 = false then
    (some ((-13 : Int32), v_shelves0_items, v_shelves1_items, v_shelves2_items, v_shelves3_items, v_shelves4_items, v_shelves5_items))
    else (mm_bd1 (fX6_hasPart N x4 x5 v_shelves2_size) (fun (r_48 : Bool) =>
    if r_48 = false then
    (some ((-13 : Int32), v_shelves0_items, v_shelves1_items, v_shelves2_items, v_shelves3_items, v_shelves4_items, v_shelves5_items))
    else (mm_ck (mm_cok x2 x4 x5 v_shelves0_items.length v_shelves2_items.length) (mm_nm (mm_cp v_shelves0_items v_shelves2_items x2 x4 x5) (fun (l_52 : List Int64) =>
    some (x5, v_shelves0_items, v_shelves1_items, l_52, v_shelves3_items, v_shelves4_items, v_shelves5_items)))))))))
    else (some ((-12 : Int32), v_shelves0_items, v_shelves1_items, v_shelves2_items, v_shelves3_items, v_shelves4_items, v_shelves5_items)))
    else (some ((-12 : Int32), v_shelves0_items, v_shelves1_items, v_shelves2_items, v_shelves3_items, v_shelves4_items, v_shelves5_items)))
    else (some ((-12 : Int32), v_shelves0_items, v_shelves1_items, v_shelves2_items, v_shelves3_items, v_shelves4_items, v_shelves5_items)))))
    else (if x3 = (3 : Int32) then
    (if v_shelves0_holds = 0 then
    (some ((-11 : Int32), v_shelves0_items, v_shelves1_items, v_shelves2_items, v_shelves3_items, v_shelves4_items, v_shelves5_items))
    else (if v_shelves3_holds = 0 then
    (some ((-11 : Int32), v_shelves0_items, v_shelves1_items, v_shelves2_items, v_shelves3_items, v_shelves4_items, v_shelves5_items))
    else (if v_shelves0_holds = (2 : Int32) then
    (if v_shelves3_holds = (2 : Int32) then
    (if v_shelves0_sort = v_shelves3_sort then
    (if x5 < 0 then
    (some ((-13 : Int32), v_shelves0_items, v_shelves1_items, v_shelves2_items, v_shelves3_items, v_shelves4_items, v_shelves5_items))
    else (mm_bd1 (fX6_hasPart N x2 x5 v_shelves0_size) (fun (r_60 : Bool) =>
    if r_60 = false then
    (some ((-13 : Int32), v_shelves0_items, v_shelves1_items, v_shelves2_items, v_shelves3_items, v_shelves4_items, v_shelves5_items))
    else (mm_bd1 (fX6_hasPart N x4 x5 v_shelves3_size) (fun (r_63 : Bool) =>
    if r_63 = false then
    (some ((-13 : Int32), v_shelves0_items, v_shelves1_items, v_shelves2_items, v_shelves3_items, v_shelves4_items, v_shelves5_items))
    else (mm_ck (mm_cok x2 x4 x5 v_shelves0_items.length v_shelves3_items.length) (mm_nm (mm_cp v_shelves0_items v_shelves3_items x2 x4 x5) (fun (l_67 : List Int64) =>
    some (x5, v_shelves0_items, v_shelves1_items, v_shelves2_items, l_67, v_shelves4_items, v_shelves5_items)))))))))
    else (some ((-12 : Int32), v_shelves0_items, v_shelves1_items, v_shelves2_items, v_shelves3_items, v_shelves4_items, v_shelves5_items)))
    else (some ((-12 : Int32), v_shelves0_items, v_shelves1_items, v_shelves2_items, v_shelves3_items, v_shelves4_items, v_shelves5_items)))
    else (some ((-12 : Int32), v_shelves0_items, v_shelves1_items, v_shelves2_items, v_shelves3_items, v_shelves4_items, v_shelves5_items)))))
    else (if x3 = (4 : Int32) then
    (if v_shelves0_holds = 0 then
    (some ((-11 : Int32), v_shelves0_items, v_shelves1_items, v_shelves2_items, v_shelves3_items, v_shelves4_items, v_shelves5_items))
    else (if v_shelves4_holds = 0 then
    (some ((-11 : Int32), v_shelves0_items, v_shelves1_items, v_shelves2_items, v_shelves3_items, v_shelves4_items, v_shelves5_items))
    else (if v_shelves0_holds = (2 : Int32) then
    (if v_shelves4_holds = (2 : Int32) then
    (if v_shelves0_sort = v_shelves4_sort then
    (if x5 < 0 then
    (some ((-13 : Int32), v_shelves0_items, v_shelves1_items, v_shelves2_items, v_shelves3_items, v_shelves4_items, v_shelves5_items))
    else (mm_bd1 (fX6_hasPart N x2 x5 v_shelves0_size) (fun (r_75 : Bool) =>
    if r_75 = false then
    (some ((-13 : Int32), v_shelves0_items, v_shelves1_items, v_shelves2_items, v_shelves3_items, v_shelves4_items, v_shelves5_items))
    else (mm_bd1 (fX6_hasPart N x4 x5 v_shelves4_size) (fun (r_78 : Bool) =>
    if r_78 = false then
    (some ((-13 : Int32), v_shelves0_items, v_shelves1_items, v_shelves2_items, v_shelves3_items, v_shelves4_items, v_shelves5_items))
    else (mm_ck (mm_cok x2 x4 x5 v_shelves0_items.length v_shelves4_items.length) (mm_nm (mm_cp v_shelves0_items v_shelves4_items x2 x4 x5) (fun (l_82 : List Int64) =>
    some (x5, v_shelves0_items, v_shelves1_items, v_shelves2_items, v_shelves3_items, l_82, v_shelves5_items)))))))))
    else (some ((-12 : Int32), v_shelves0_items, v_shelves1_items, v_shelves2_items, v_shelves3_items, v_shelves4_items, v_shelves5_items)))
    else (some ((-12 : Int32), v_shelves0_items, v_shelves1_items, v_shelves2_items, v_shelves3_items, v_shelves4_items, v_shelves5_items)))
    else (some ((-12 : Int32), v_shelves0_items, v_shelves1_items, v_shelves2_items, v_shelves3_items, v_shelves4_items, v_shelves5_items)))))
    else (if x3 = (5 : Int32) then
    (if v_shelves0_holds = 0 then
    (some ((-11 : Int32), v_shelves0_items, v_shelves1_items, v_shelves2_items, v_shelves3_items, v_shelves4_items, v_shelves5_items))
    else (if v_shelves5_holds = 0 then
    (some ((-11 : Int32), v_shelves0_items, v_shelves1_items, v_shelves2_items, v_shelves3_items, v_shelves4_items, v_shelves5_items))
    else (if v_shelves0_holds = (2 : Int32) then
    (if v_shelves5_holds = (2 : Int32) then
    (if v_shelves0_sort = v_shelves5_sort then
    (if x5 < 0 then
    (some ((-13 : Int32), v_shelves0_items, v_shelves1_items, v_shelves2_items, v_shelves3_items, v_shelves4_items, v_shelves5_items))
    else (mm_bd1 (fX6_hasPart N x2 x5 v_shelves0_size) (fun (r_90 : Bool) =>
    if r_90 = false then
    (some ((-13 : Int32), v_shelves0_items, v_shelves1_items, v_shelves2_items, v_shelves3_items, v_shelves4_items, v_shelves5_items))
    else (mm_bd1 (fX6_hasPart N x4 x5 v_shelves5_size) (fun (r_93 : Bool) =>
    if r_93 = false then
    (some ((-13 : Int32), v_shelves0_items, v_shelves1_items, v_shelves2_items, v_shelves3_items, v_shelves4_items, v_shelves5_items))
    else (mm_ck (mm_cok x2 x4 x5 v_shelves0_items.length v_shelves5_items.length) (mm_nm (mm_cp v_shelves0_items v_shelves5_items x2 x4 x5) (fun (l_97 : List Int64) =>
    some (x5, v_shelves0_items, v_shelves1_items, v_shelves2_items, v_shelves3_items, v_shelves4_items, l_97)))))))))
    else (some ((-12 : Int32), v_shelves0_items, v_shelves1_items, v_shelves2_items, v_shelves3_items, v_shelves4_items, v_shelves5_items)))
    else (some ((-12 : Int32), v_shelves0_items, v_shelves1_items, v_shelves2_items, v_shelves3_items, v_shelves4_items, v_shelves5_items)))
    else (some ((-12 : Int32), v_shelves0_items, v_shelves1_items, v_shelves2_items, v_shelves3_items, v_shelves4_items, v_shelves5_items)))))
    else (none)))))))
    else (if x1 = (1 : Int32) then
    (if x3 = (0 : Int32) then
    (if v_shelves1_holds = 0 then
    (some ((-11 : Int32), v_shelves0_items, v_shelves1_items, v_shelves2_items, v_shelves3_items, v_shelves4_items, v_shelves5_items))
    else (if v_shelves0_holds = 0 then
    (some ((-11 : Int32), v_shelves0_items, v_shelves1_items, v_shelves2_items, v_shelves3_items, v_shelves4_items, v_shelves5_items))
    else (if v_shelves1_holds = (2 : Int32) then
    (if v_shelves0_holds = (2 : Int32) then
    (if v_shelves1_sort = v_shelves0_sort then
    (if x5 < 0 then
    (some ((-13 : Int32), v_shelves0_items, v_shelves1_items, v_shelves2_items, v_shelves3_items, v_shelves4_items, v_shelves5_items))
    else (mm_bd1 (fX6_hasPart N x2 x5 v_shelves1_size) (fun (r_106 : Bool) =>
    if r_106 = false then
    (some ((-13 : Int32), v_shelves0_items, v_shelves1_items, v_shelves2_items, v_shelves3_items, v_shelves4_items, v_shelves5_items))
    else (mm_bd1 (fX6_hasPart N x4 x5 v_shelves0_size) (fun (r_109 : Bool) =>
    if r_109 = false then
    (some ((-13 : Int32), v_shelves0_items, v_shelves1_items, v_shelves2_items, v_shelves3_items, v_shelves4_items, v_shelves5_items))
    else (mm_ck (mm_cok x2 x4 x5 v_shelves1_items.length v_shelves0_items.length) (mm_nm (mm_cp v_shelves1_items v_shelves0_items x2 x4 x5) (fun (l_113 : List Int64) =>
    some (x5, l_113, v_shelves1_items, v_shelves2_items, v_shelves3_items, v_shelves4_items, v_shelves5_items)))))))))
    else (some ((-12 : Int32), v_shelves0_items, v_shelves1_items, v_shelves2_items, v_shelves3_items, v_shelves4_items, v_shelves5_items)))
    else (some ((-12 : Int32), v_shelves0_items, v_shelves1_items, v_shelves2_items, v_shelves3_items, v_shelves4_items, v_shelves5_items)))
    else (some ((-12 : Int32), v_shelves0_items, v_shelves1_items, v_shelves2_items, v_shelves3_items, v_shelves4_items, v_shelves5_items)))))
    else (if x3 = (1 : Int32) then
    (if v_shelves1_holds = 0 then
    (some ((-11 : Int32), v_shelves0_items, v_shelves1_items, v_shelves2_items, v_shelves3_items, v_shelves4_items, v_shelves5_items))
    else (if v_shelves1_holds = 0 then
    (some ((-11 : Int32), v_shelves0_items, v_shelves1_items, v_shelves2_items, v_shelves3_items, v_shelves4_items, v_shelves5_items))
    else (if v_shelves1_holds = (2 : Int32) then
    (if v_shelves1_holds = (2 : Int32) then
    (if v_shelves1_sort = v_shelves1_sort then
    (if x5 < 0 then
    (some ((-13 : Int32), v_shelves0_items, v_shelves1_items, v_shelves2_items, v_shelves3_items, v_shelves4_items, v_shelves5_items))
    else (mm_bd1 (fX6_hasPart N x2 x5 v_shelves1_size) (fun (r_121 : Bool) =>
    if r_121 = false then
    (some ((-13 : Int32), v_shelves0_items, v_shelves1_items, v_shelves2_items, v_shelves3_items, v_shelves4_items, v_shelves5_items))
    else (mm_bd1 (fX6_hasPart N x4 x5 v_shelves1_size) (fun (r_124 : Bool) =>
    if r_124 = false then
    (some ((-13 : Int32), v_shelves0_items, v_shelves1_items, v_shelves2_items, v_shelves3_items, v_shelves4_items, v_shelves5_items))
    else (mm_ck (mm_cok x2 x4 x5 v_shelves1_items.length v_shelves1_items.length) (mm_nm (mm_cp v_shelves1_items v_shelves1_items x2 x4 x5) (fun (l_128 : List Int64) =>
    some (x5, v_shelves0_items, l_128, v_shelves2_items, v_shelves3_items, v_shelves4_items, v_shelves5_items)))))))))
    else (some ((-12 : Int32), v_shelves0_items, v_shelves1_items, v_shelves2_items, v_shelves3_items, v_shelves4_items, v_shelves5_items)))
    else (some ((-12 : Int32), v_shelves0_items, v_shelves1_items, v_shelves2_items, v_shelves3_items, v_shelves4_items, v_shelves5_items)))
    else (some ((-12 : Int32), v_shelves0_items, v_shelves1_items, v_shelves2_items, v_shelves3_items, v_shelves4_items, v_shelves5_items)))))
    else (if x3 = (2 : Int32) then
    (if v_shelves1_holds = 0 then
    (some ((-11 : Int32), v_shelves0_items, v_shelves1_items, v_shelves2_items, v_shelves3_items, v_shelves4_items, v_shelves5_items))
    else (if v_shelves2_holds = 0 then
    (some ((-11 : Int32), v_shelves0_items, v_shelves1_items, v_shelves2_items, v_shelves3_items, v_shelves4_items, v_shelves5_items))
    else (if v_shelves1_holds = (2 : Int32) then
    (if v_shelves2_holds = (2 : Int32) then
    (if v_shelves1_sort = v_shelves2_sort then
    (if x5 < 0 then
    (some ((-13 : Int32), v_shelves0_items, v_shelves1_items, v_shelves2_items, v_shelves3_items, v_shelves4_items, v_shelves5_items))
    else (mm_bd1 (fX6_hasPart N x2 x5 v_shelves1_size) (fun (r_136 : Bool) =>
    if r_136 = false then
    (some ((-13 : Int32), v_shelves0_items, v_shelves1_items, v_shelves2_items, v_shelves3_items, v_shelves4_items, v_shelves5_items))
    else (mm_bd1 (fX6_hasPart N x4 x5 v_shelves2_size) (fun (r_139 : Bool) =>
    if r_139 = false then
    (some ((-13 : Int32), v_shelves0_items, v_shelves1_items, v_shelves2_items, v_shelves3_items, v_shelves4_items, v_shelves5_items))
    else (mm_ck (mm_cok x2 x4 x5 v_shelves1_items.length v_shelves2_items.length) (mm_nm (mm_cp v_shelves1_items v_shelves2_items x2 x4 x5) (fun (l_143 : List Int64) =>
    some (x5, v_shelves0_items, v_shelves1_items, l_143, v_shelves3_items, v_shelves4_items, v_shelves5_items)))))))))
    else (some ((-12 : Int32), v_shelves0_items, v_shelves1_items, v_shelves2_items, v_shelves3_items, v_shelves4_items, v_shelves5_items)))
    else (some ((-12 : Int32), v_shelves0_items, v_shelves1_items, v_shelves2_items, v_shelves3_items, v_shelves4_items, v_shelves5_items)))
    else (some ((-12 : Int32), v_shelves0_items, v_shelves1_items, v_shelves2_items, v_shelves3_items, v_shelves4_items, v_shelves5_items)))))
    else (if x3 = (3 : Int32) then
    (if v_shelves1_holds = 0 then
    (some ((-11 : Int32), v_shelves0_items, v_shelves1_items, v_shelves2_items, v_shelves3_items, v_shelves4_items, v_shelves5_items))
    else (if v_shelves3_holds = 0 then
    (some ((-11 : Int32), v_shelves0_items, v_shelves1_items, v_shelves2_items, v_shelves3_items, v_shelves4_items, v_shelves5_items))
    else (if v_shelves1_holds = (2 : Int32) then
    (if v_shelves3_holds = (2 : Int32) then
    (if v_shelves1_sort = v_shelves3_sort then
    (if x5 < 0 then
    (some ((-13 : Int32), v_shelves0_items, v_shelves1_items, v_shelves2_items, v_shelves3_items, v_shelves4_items, v_shelves5_items))
    else (mm_bd1 (fX6_hasPart N x2 x5 v_shelves1_size) (fun (r_151 : Bool) =>
    if r_151 = false then
    (some ((-13 : Int32), v_shelves0_items, v_shelves1_items, v_shelves2_items, v_shelves3_items, v_shelves4_items, v_shelves5_items))
    else (mm_bd1 (fX6_hasPart N x4 x5 v_shelves3_size) (fun (r_154 : Bool) =>
    if r_154 = false then
    (some ((-13 : Int32), v_shelves0_items, v_shelves1_items, v_shelves2_items, v_shelves3_items, v_shelves4_items, v_shelves5_items))
    else (mm_ck (mm_cok x2 x4 x5 v_shelves1_items.length v_shelves3_items.length) (mm_nm (mm_cp v_shelves1_items v_shelves3_items x2 x4 x5) (fun (l_158 : List Int64) =>
    some (x5, v_shelves0_items, v_shelves1_items, v_shelves2_items, l_158, v_shelves4_items, v_shelves5_items)))))))))
    else (some ((-12 : Int32), v_shelves0_items, v_shelves1_items, v_shelves2_items, v_shelves3_items, v_shelves4_items, v_shelves5_items)))
    else (some ((-12 : Int32), v_shelves0_items, v_shelves1_items, v_shelves2_items, v_shelves3_items, v_shelves4_items, v_shelves5_items)))
    else (some ((-12 : Int32), v_shelves0_items, v_shelves1_items, v_shelves2_items, v_shelves3_items, v_shelves4_items, v_shelves5_items)))))
    else (if x3 = (4 : Int32) then
    (if v_shelves1_holds = 0 then
    (some ((-11 : Int32), v_shelves0_items, v_shelves1_items, v_shelves2_items, v_shelves3_items, v_shelves4_items, v_shelves5_items))
    else (if v_shelves4_holds = 0 then
    (some ((-11 : Int32), v_shelves0_items, v_shelves1_items, v_shelves2_items, v_shelves3_items, v_shelves4_items, v_shelves5_items))
    else (if v_shelves1_holds = (2 : Int32) then
    (if v_shelves4_holds = (2 : Int32) then
    (if v_shelves1_sort = v_shelves4_sort then
    (if x5 < 0 then
    (some ((-13 : Int32), v_shelves0_items, v_shelves1_items, v_shelves2_items, v_shelves3_items, v_shelves4_items, v_shelves5_items))
    else (mm_bd1 (fX6_hasPart N x2 x5 v_shelves1_size) (fun (r_166 : Bool) =>
    if r_166 = false then
    (some ((-13 : Int32), v_shelves0_items, v_shelves1_items, v_shelves2_items, v_shelves3_items, v_shelves4_items, v_shelves5_items))
    else (mm_bd1 (fX6_hasPart N x4 x5 v_shelves4_size) (fun (r_169 : Bool) =>
    if r_169 = false then
    (some ((-13 : Int32), v_shelves0_items, v_shelves1_items, v_shelves2_items, v_shelves3_items, v_shelves4_items, v_shelves5_items))
    else (mm_ck (mm_cok x2 x4 x5 v_shelves1_items.length v_shelves4_items.length) (mm_nm (mm_cp v_shelves1_items v_shelves4_items x2 x4 x5) (fun (l_173 : List Int64) =>
    some (x5, v_shelves0_items, v_shelves1_items, v_shelves2_items, v_shelves3_items, l_173, v_shelves5_items)))))))))
    else (some ((-12 : Int32), v_shelves0_items, v_shelves1_items, v_shelves2_items, v_shelves3_items, v_shelves4_items, v_shelves5_items)))
    else (some ((-12 : Int32), v_shelves0_items, v_shelves1_items, v_shelves2_items, v_shelves3_items, v_shelves4_items, v_shelves5_items)))
    else (some ((-12 : Int32), v_shelves0_items, v_shelves1_items, v_shelves2_items, v_shelves3_items, v_shelves4_items, v_shelves5_items)))))
    else (if x3 = (5 : Int32) then
    (if v_shelves1_holds = 0 then
    (some ((-11 : Int32), v_shelves0_items, v_shelves1_items, v_shelves2_items, v_shelves3_items, v_shelves4_items, v_shelves5_items))
    else (if v_shelves5_holds = 0 then
    (some ((-11 : Int32), v_shelves0_items, v_shelves1_items, v_shelves2_items, v_shelves3_items, v_shelves4_items, v_shelves5_items))
    else (if v_shelves1_holds = (2 : Int32) then
    (if v_shelves5_holds = (2 : Int32) then
    (if v_shelves1_sort = v_shelves5_sort then
    (if x5 < 0 then
    (some ((-13 : Int32), v_shelves0_items, v_shelves1_items, v_shelves2_items, v_shelves3_items, v_shelves4_items, v_shelves5_items))
    else (mm_bd1 (fX6_hasPart N x2 x5 v_shelves1_size) (fun (r_181 : Bool) =>
    if r_181 = false then
    (some ((-13 : Int32), v_shelves0_items, v_shelves1_items, v_shelves2_items, v_shelves3_items, v_shelves4_items, v_shelves5_items))
    else (mm_bd1 (fX6_hasPart N x4 x5 v_shelves5_size) (fun (r_184 : Bool) =>
    if r_184 = false then
    (some ((-13 : Int32), v_shelves0_items, v_shelves1_items, v_shelves2_items, v_shelves3_items, v_shelves4_items, v_shelves5_items))
    else (mm_ck (mm_cok x2 x4 x5 v_shelves1_items.length v_shelves5_items.length) (mm_nm (mm_cp v_shelves1_items v_shelves5_items x2 x4 x5) (fun (l_188 : List Int64) =>
    some (x5, v_shelves0_items, v_shelves1_items, v_shelves2_items, v_shelves3_items, v_shelves4_items, l_188)))))))))
    else (some ((-12 : Int32), v_shelves0_items, v_shelves1_items, v_shelves2_items, v_shelves3_items, v_shelves4_items, v_shelves5_items)))
    else (some ((-12 : Int32), v_shelves0_items, v_shelves1_items, v_shelves2_items, v_shelves3_items, v_shelves4_items, v_shelves5_items)))
    else (some ((-12 : Int32), v_shelves0_items, v_shelves1_items, v_shelves2_items, v_shelves3_items, v_shelves4_items, v_shelves5_items)))))
    else (none)))))))
    else (if x1 = (2 : Int32) then
    (if x3 = (0 : Int32) then
    (if v_shelves2_holds = 0 then
    (some ((-11 : Int32), v_shelves0_items, v_shelves1_items, v_shelves2_items, v_shelves3_items, v_shelves4_items, v_shelves5_items))
    else (if v_shelves0_holds = 0 then
    (some ((-11 : Int32), v_shelves0_items, v_shelves1_items, v_shelves2_items, v_shelves3_items, v_shelves4_items, v_shelves5_items))
    else (if v_shelves2_holds = (2 : Int32) then
    (if v_shelves0_holds = (2 : Int32) then
    (if v_shelves2_sort = v_shelves0_sort then
    (if x5 < 0 then
    (some ((-13 : Int32), v_shelves0_items, v_shelves1_items, v_shelves2_items, v_shelves3_items, v_shelves4_items, v_shelves5_items))
    else (mm_bd1 (fX6_hasPart N x2 x5 v_shelves2_size) (fun (r_197 : Bool) =>
    if r_197 = false then
    (some ((-13 : Int32), v_shelves0_items, v_shelves1_items, v_shelves2_items, v_shelves3_items, v_shelves4_items, v_shelves5_items))
    else (mm_bd1 (fX6_hasPart N x4 x5 v_shelves0_size) (fun (r_200 : Bool) =>
    if r_200 = false then
    (some ((-13 : Int32), v_shelves0_items, v_shelves1_items, v_shelves2_items, v_shelves3_items, v_shelves4_items, v_shelves5_items))
    else (mm_ck (mm_cok x2 x4 x5 v_shelves2_items.length v_shelves0_items.length) (mm_nm (mm_cp v_shelves2_items v_shelves0_items x2 x4 x5) (fun (l_204 : List Int64) =>
    some (x5, l_204, v_shelves1_items, v_shelves2_items, v_shelves3_items, v_shelves4_items, v_shelves5_items)))))))))
    else (some ((-12 : Int32), v_shelves0_items, v_shelves1_items, v_shelves2_items, v_shelves3_items, v_shelves4_items, v_shelves5_items)))
    else (some ((-12 : Int32), v_shelves0_items, v_shelves1_items, v_shelves2_items, v_shelves3_items, v_shelves4_items, v_shelves5_items)))
    else (some ((-12 : Int32), v_shelves0_items, v_shelves1_items, v_shelves2_items, v_shelves3_items, v_shelves4_items, v_shelves5_items)))))
    else (if x3 = (1 : Int32) then
    (if v_shelves2_holds = 0 then
    (some ((-11 : Int32), v_shelves0_items, v_shelves1_items, v_shelves2_items, v_shelves3_items, v_shelves4_items, v_shelves5_items))
    else (if v_shelves1_holds = 0 then
    (some ((-11 : Int32), v_shelves0_items, v_shelves1_items, v_shelves2_items, v_shelves3_items, v_shelves4_items, v_shelves5_items))
    else (if v_shelves2_holds = (2 : Int32) then
    (if v_shelves1_holds = (2 : Int32) then
    (if v_shelves2_sort = v_shelves1_sort then
    (if x5 < 0 then
    (some ((-13 : Int32), v_shelves0_items, v_shelves1_items, v_shelves2_items, v_shelves3_items, v_shelves4_items, v_shelves5_items))
    else (mm_bd1 (fX6_hasPart N x2 x5 v_shelves2_size) (fun (r_212 : Bool) =>
    if r_212 = false then
    (some ((-13 : Int32), v_shelves0_items, v_shelves1_items, v_shelves2_items, v_shelves3_items, v_shelves4_items, v_shelves5_items))
    else (mm_bd1 (fX6_hasPart N x4 x5 v_shelves1_size) (fun (r_215 : Bool) =>
    if r_215 = false then
    (some ((-13 : Int32), v_shelves0_items, v_shelves1_items, v_shelves2_items, v_shelves3_items, v_shelves4_items, v_shelves5_items))
    else (mm_ck (mm_cok x2 x4 x5 v_shelves2_items.length v_shelves1_items.length) (mm_nm (mm_cp v_shelves2_items v_shelves1_items x2 x4 x5) (fun (l_219 : List Int64) =>
    some (x5, v_shelves0_items, l_219, v_shelves2_items, v_shelves3_items, v_shelves4_items, v_shelves5_items)))))))))
    else (some ((-12 : Int32), v_shelves0_items, v_shelves1_items, v_shelves2_items, v_shelves3_items, v_shelves4_items, v_shelves5_items)))
    else (some ((-12 : Int32), v_shelves0_items, v_shelves1_items, v_shelves2_items, v_shelves3_items, v_shelves4_items, v_shelves5_items)))
    else (some ((-12 : Int32), v_shelves0_items, v_shelves1_items, v_shelves2_items, v_shelves3_items, v_shelves4_items, v_shelves5_items)))))
    else (if x3 = (2 : Int32) then
    (if v_shelves2_holds = 0 then
    (some ((-11 : Int32), v_shelves0_items, v_shelves1_items, v_shelves2_items, v_shelves3_items, v_shelves4_items, v_shelves5_items))
    else (if v_shelves2_holds = 0 then
    (some ((-11 : Int32), v_shelves0_items, v_shelves1_items, v_shelves2_items, v_shelves3_items, v_shelves4_items, v_shelves5_items))
    else (if v_shelves2_holds = (2 : Int32) then
    (if v_shelves2_holds = (2 : Int32) then
    (if v_shelves2_sort = v_shelves2_sort then
    (if x5 < 0 then
    (some ((-13 : Int32), v_shelves0_items, v_shelves1_items, v_shelves2_items, v_shelves3_items, v_shelves4_items, v_shelves5_items))
    else (mm_bd1 (fX6_hasPart N x2 x5 v_shelves2_size) (fun (r_227 : Bool) =>
    if r_227 = false then
    (some ((-13 : Int32), v_shelves0_items, v_shelves1_items, v_shelves2_items, v_shelves3_items, v_shelves4_items, v_shelves5_items))
    else (mm_bd1 (fX6_hasPart N x4 x5 v_shelves2_size) (fun (r_230 : Bool) =>
    if r_230 = false then
    (some ((-13 : Int32), v_shelves0_items, v_shelves1_items, v_shelves2_items, v_shelves3_items, v_shelves4_items, v_shelves5_items))
    else (mm_ck (mm_cok x2 x4 x5 v_shelves2_items.length v_shelves2_items.length) (mm_nm (mm_cp v_shelves2_items v_shelves2_items x2 x4 x5) (fun (l_234 : List Int64) =>
    some (x5, v_shelves0_items, v_shelves1_items, l_234, v_shelves3_items, v_shelves4_items, v_shelves5_items)))))))))
    else (some ((-12 : Int32), v_shelves0_items, v_shelves1_items, v_shelves2_items, v_shelves3_items, v_shelves4_items, v_shelves5_items)))
    else (some ((-12 : Int32), v_shelves0_items, v_shelves1_items, v_shelves2_items, v_shelves3_items, v_shelves4_items, v_shelves5_items)))
    else (some ((-12 : Int32), v_shelves0_items, v_shelves1_items, v_shelves2_items, v_shelves3_items, v_shelves4_items, v_shelves5_items)))))
    else (if x3 = (3 : Int32) then
    (if v_shelves2_holds = 0 then
    (some ((-11 : Int32), v_shelves0_items, v_shelves1_items, v_shelves2_items, v_shelves3_items, v_shelves4_items, v_shelves5_items))
    else (if v_shelves3_holds = 0 then
    (some ((-11 : Int32), v_shelves0_items, v_shelves1_items, v_shelves2_items, v_shelves3_items, v_shelves4_items, v_shelves5_items))
    else (if v_shelves2_holds = (2 : Int32) then
    (if v_shelves3_holds = (2 : Int32) then
    (if v_shelves2_sort = v_shelves3_sort then
    (if x5 < 0 then
    (some ((-13 : Int32), v_shelves0_items, v_shelves1_items, v_shelves2_items, v_shelves3_items, v_shelves4_items, v_shelves5_items))
    else (mm_bd1 (fX6_hasPart N x2 x5 v_shelves2_size) (fun (r_242 : Bool) =>
    if r_242 = false then
    (some ((-13 : Int32), v_shelves0_items, v_shelves1_items, v_shelves2_items, v_shelves3_items, v_shelves4_items, v_shelves5_items))
    else (mm_bd1 (fX6_hasPart N x4 x5 v_shelves3_size) (fun (r_245 : Bool) =>
    if r_245 = false then
    (some ((-13 : Int32), v_shelves0_items, v_shelves1_items, v_shelves2_items, v_shelves3_items, v_shelves4_items, v_shelves5_items))
    else (mm_ck (mm_cok x2 x4 x5 v_shelves2_items.length v_shelves3_items.length) (mm_nm (mm_cp v_shelves2_items v_shelves3_items x2 x4 x5) (fun (l_249 : List Int64) =>
    some (x5, v_shelves0_items, v_shelves1_items, v_shelves2_items, l_249, v_shelves4_items, v_shelves5_items)))))))))
    else (some ((-12 : Int32), v_shelves0_items, v_shelves1_items, v_shelves2_items, v_shelves3_items, v_shelves4_items, v_shelves5_items)))
    else (some ((-12 : Int32), v_shelves0_items, v_shelves1_items, v_shelves2_items, v_shelves3_items, v_shelves4_items, v_shelves5_items)))
    else (some ((-12 : Int32), v_shelves0_items, v_shelves1_items, v_shelves2_items, v_shelves3_items, v_shelves4_items, v_shelves5_items)))))
    else (if x3 = (4 : Int32) then
    (if v_shelves2_holds = 0 then
    (some ((-11 : Int32), v_shelves0_items, v_shelves1_items, v_shelves2_items, v_shelves3_items, v_shelves4_items, v_shelves5_items))
    else (if v_shelves4_holds = 0 then
    (some ((-11 : Int32), v_shelves0_items, v_shelves1_items, v_shelves2_items, v_shelves3_items, v_shelves4_items, v_shelves5_items))
    else (if v_shelves2_holds = (2 : Int32) then
    (if v_shelves4_holds = (2 : Int32) then
    (if v_shelves2_sort = v_shelves4_sort then
    (if x5 < 0 then
    (some ((-13 : Int32), v_shelves0_items, v_shelves1_items, v_shelves2_items, v_shelves3_items, v_shelves4_items, v_shelves5_items))
    else (mm_bd1 (fX6_hasPart N x2 x5 v_shelves2_size) (fun (r_257 : Bool) =>
    if r_257 = false then
    (some ((-13 : Int32), v_shelves0_items, v_shelves1_items, v_shelves2_items, v_shelves3_items, v_shelves4_items, v_shelves5_items))
    else (mm_bd1 (fX6_hasPart N x4 x5 v_shelves4_size) (fun (r_260 : Bool) =>
    if r_260 = false then
    (some ((-13 : Int32), v_shelves0_items, v_shelves1_items, v_shelves2_items, v_shelves3_items, v_shelves4_items, v_shelves5_items))
    else (mm_ck (mm_cok x2 x4 x5 v_shelves2_items.length v_shelves4_items.length) (mm_nm (mm_cp v_shelves2_items v_shelves4_items x2 x4 x5) (fun (l_264 : List Int64) =>
    some (x5, v_shelves0_items, v_shelves1_items, v_shelves2_items, v_shelves3_items, l_264, v_shelves5_items)))))))))
    else (some ((-12 : Int32), v_shelves0_items, v_shelves1_items, v_shelves2_items, v_shelves3_items, v_shelves4_items, v_shelves5_items)))
    else (some ((-12 : Int32), v_shelves0_items, v_shelves1_items, v_shelves2_items, v_shelves3_items, v_shelves4_items, v_shelves5_items)))
    else (some ((-12 : Int32), v_shelves0_items, v_shelves1_items, v_shelves2_items, v_shelves3_items, v_shelves4_items, v_shelves5_items)))))
    else (if x3 = (5 : Int32) then
    (if v_shelves2_holds = 0 then
    (some ((-11 : Int32), v_shelves0_items, v_shelves1_items, v_shelves2_items, v_shelves3_items, v_shelves4_items, v_shelves5_items))
    else (if v_shelves5_holds = 0 then
    (some ((-11 : Int32), v_shelves0_items, v_shelves1_items, v_shelves2_items, v_shelves3_items, v_shelves4_items, v_shelves5_items))
    else (if v_shelves2_holds = (2 : Int32) then
    (if v_shelves5_holds = (2 : Int32) then
    (if v_shelves2_sort = v_shelves5_sort then
    (if x5 < 0 then
    (some ((-13 : Int32), v_shelves0_items, v_shelves1_items, v_shelves2_items, v_shelves3_items, v_shelves4_items, v_shelves5_items))
    else (mm_bd1 (fX6_hasPart N x2 x5 v_shelves2_size) (fun (r_272 : Bool) =>
    if r_272 = false then
    (some ((-13 : Int32), v_shelves0_items, v_shelves1_items, v_shelves2_items, v_shelves3_items, v_shelves4_items, v_shelves5_items))
    else (mm_bd1 (fX6_hasPart N x4 x5 v_shelves5_size) (fun (r_275 : Bool) =>
    if r_275 = false then
    (some ((-13 : Int32), v_shelves0_items, v_shelves1_items, v_shelves2_items, v_shelves3_items, v_shelves4_items, v_shelves5_items))
    else (mm_ck (mm_cok x2 x4 x5 v_shelves2_items.length v_shelves5_items.length) (mm_nm (mm_cp v_shelves2_items v_shelves5_items x2 x4 x5) (fun (l_279 : List Int64) =>
    some (x5, v_shelves0_items, v_shelves1_items, v_shelves2_items, v_shelves3_items, v_shelves4_items, l_279)))))))))
    else (some ((-12 : Int32), v_shelves0_items, v_shelves1_items, v_shelves2_items, v_shelves3_items, v_shelves4_items, v_shelves5_items)))
    else (some ((-12 : Int32), v_shelves0_items, v_shelves1_items, v_shelves2_items, v_shelves3_items, v_shelves4_items, v_shelves5_items)))
    else (some ((-12 : Int32), v_shelves0_items, v_shelves1_items, v_shelves2_items, v_shelves3_items, v_shelves4_items, v_shelves5_items)))))
    else (none)))))))
    else (if x1 = (3 : Int32) then
    (if x3 = (0 : Int32) then
    (if v_shelves3_holds = 0 then
    (some ((-11 : Int32), v_shelves0_items, v_shelves1_items, v_shelves2_items, v_shelves3_items, v_shelves4_items, v_shelves5_items))
    else (if v_shelves0_holds = 0 then
    (some ((-11 : Int32), v_shelves0_items, v_shelves1_items, v_shelves2_items, v_shelves3_items, v_shelves4_items, v_shelves5_items))
    else (if v_shelves3_holds = (2 : Int32) then
    (if v_shelves0_holds = (2 : Int32) then
    (if v_shelves3_sort = v_shelves0_sort then
    (if x5 < 0 then
    (some ((-13 : Int32), v_shelves0_items, v_shelves1_items, v_shelves2_items, v_shelves3_items, v_shelves4_items, v_shelves5_items))
    else (mm_bd1 (fX6_hasPart N x2 x5 v_shelves3_size) (fun (r_288 : Bool) =>
    if r_288 = false then
    (some ((-13 : Int32), v_shelves0_items, v_shelves1_items, v_shelves2_items, v_shelves3_items, v_shelves4_items, v_shelves5_items))
    else (mm_bd1 (fX6_hasPart N x4 x5 v_shelves0_size) (fun (r_291 : Bool) =>
    if r_291 = false then
    (some ((-13 : Int32), v_shelves0_items, v_shelves1_items, v_shelves2_items, v_shelves3_items, v_shelves4_items, v_shelves5_items))
    else (mm_ck (mm_cok x2 x4 x5 v_shelves3_items.length v_shelves0_items.length) (mm_nm (mm_cp v_shelves3_items v_shelves0_items x2 x4 x5) (fun (l_295 : List Int64) =>
    some (x5, l_295, v_shelves1_items, v_shelves2_items, v_shelves3_items, v_shelves4_items, v_shelves5_items)))))))))
    else (some ((-12 : Int32), v_shelves0_items, v_shelves1_items, v_shelves2_items, v_shelves3_items, v_shelves4_items, v_shelves5_items)))
    else (some ((-12 : Int32), v_shelves0_items, v_shelves1_items, v_shelves2_items, v_shelves3_items, v_shelves4_items, v_shelves5_items)))
    else (some ((-12 : Int32), v_shelves0_items, v_shelves1_items, v_shelves2_items, v_shelves3_items, v_shelves4_items, v_shelves5_items)))))
    else (if x3 = (1 : Int32) then
    (if v_shelves3_holds = 0 then
    (some ((-11 : Int32), v_shelves0_items, v_shelves1_items, v_shelves2_items, v_shelves3_items, v_shelves4_items, v_shelves5_items))
    else (if v_shelves1_holds = 0 then
    (some ((-11 : Int32), v_shelves0_items, v_shelves1_items, v_shelves2_items, v_shelves3_items, v_shelves4_items, v_shelves5_items))
    else (if v_shelves3_holds = (2 : Int32) then
    (if v_shelves1_holds = (2 : Int32) then
    (if v_shelves3_sort = v_shelves1_sort then
    (if x5 < 0 then
    (some ((-13 : Int32), v_shelves0_items, v_shelves1_items, v_shelves2_items, v_shelves3_items, v_shelves4_items, v_shelves5_items))
    else (mm_bd1 (fX6_hasPart N x2 x5 v_shelves3_size) (fun (r_303 : Bool) =>
    if r_303 = false then
    (some ((-13 : Int32), v_shelves0_items, v_shelves1_items, v_shelves2_items, v_shelves3_items, v_shelves4_items, v_shelves5_items))
    else (mm_bd1 (fX6_hasPart N x4 x5 v_shelves1_size) (fun (r_306 : Bool) =>
    if r_306 = false then
    (some ((-13 : Int32), v_shelves0_items, v_shelves1_items, v_shelves2_items, v_shelves3_items, v_shelves4_items, v_shelves5_items))
    else (mm_ck (mm_cok x2 x4 x5 v_shelves3_items.length v_shelves1_items.length) (mm_nm (mm_cp v_shelves3_items v_shelves1_items x2 x4 x5) (fun (l_310 : List Int64) =>
    some (x5, v_shelves0_items, l_310, v_shelves2_items, v_shelves3_items, v_shelves4_items, v_shelves5_items)))))))))
    else (some ((-12 : Int32), v_shelves0_items, v_shelves1_items, v_shelves2_items, v_shelves3_items, v_shelves4_items, v_shelves5_items)))
    else (some ((-12 : Int32), v_shelves0_items, v_shelves1_items, v_shelves2_items, v_shelves3_items, v_shelves4_items, v_shelves5_items)))
    else (some ((-12 : Int32), v_shelves0_items, v_shelves1_items, v_shelves2_items, v_shelves3_items, v_shelves4_items, v_shelves5_items)))))
    else (if x3 = (2 : Int32) then
    (if v_shelves3_holds = 0 then
    (some ((-11 : Int32), v_shelves0_items, v_shelves1_items, v_shelves2_items, v_shelves3_items, v_shelves4_items, v_shelves5_items))
    else (if v_shelves2_holds = 0 then
    (some ((-11 : Int32), v_shelves0_items, v_shelves1_items, v_shelves2_items, v_shelves3_items, v_shelves4_items, v_shelves5_items))
    else (if v_shelves3_holds = (2 : Int32) then
    (if v_shelves2_holds = (2 : Int32) then
    (if v_shelves3_sort = v_shelves2_sort then
    (if x5 < 0 then
    (some ((-13 : Int32), v_shelves0_items, v_shelves1_items, v_shelves2_items, v_shelves3_items, v_shelves4_items, v_shelves5_items))
    else (mm_bd1 (fX6_hasPart N x2 x5 v_shelves3_size) (fun (r_318 : Bool) =>
    if r_318 = false then
    (some ((-13 : Int32), v_shelves0_items, v_shelves1_items, v_shelves2_items, v_shelves3_items, v_shelves4_items, v_shelves5_items))
    else (mm_bd1 (fX6_hasPart N x4 x5 v_shelves2_size) (fun (r_321 : Bool) =>
    if r_321 = false then
    (some ((-13 : Int32), v_shelves0_items, v_shelves1_items, v_shelves2_items, v_shelves3_items, v_shelves4_items, v_shelves5_items))
    else (mm_ck (mm_cok x2 x4 x5 v_shelves3_items.length v_shelves2_items.length) (mm_nm (mm_cp v_shelves3_items v_shelves2_items x2 x4 x5) (fun (l_325 : List Int64) =>
    some (x5, v_shelves0_items, v_shelves1_items, l_325, v_shelves3_items, v_shelves4_items, v_shelves5_items)))))))))
    else (some ((-12 : Int32), v_shelves0_items, v_shelves1_items, v_shelves2_items, v_shelves3_items, v_shelves4_items, v_shelves5_items)))
    else (some ((-12 : Int32), v_shelves0_items, v_shelves1_items, v_shelves2_items, v_shelves3_items, v_shelves4_items, v_shelves5_items)))
    else (some ((-12 : Int32), v_shelves0_items, v_shelves1_items, v_shelves2_items, v_shelves3_items, v_shelves4_items, v_shelves5_items)))))
    else (if x3 = (3 : Int32) then
    (if v_shelves3_holds = 0 then
    (some ((-11 : Int32), v_shelves0_items, v_shelves1_items, v_shelves2_items, v_shelves3_items, v_shelves4_items, v_shelves5_items))
    else (if v_shelves3_holds = 0 then
    (some ((-11 : Int32), v_shelves0_items, v_shelves1_items, v_shelves2_items, v_shelves3_items, v_shelves4_items, v_shelves5_items))
    else (if v_shelves3_holds = (2 : Int32) then
    (if v_shelves3_holds = (2 : Int32) then
    (if v_shelves3_sort = v_shelves3_sort then
    (if x5 < 0 then
    (some ((-13 : Int32), v_shelves0_items, v_shelves1_items, v_shelves2_items, v_shelves3_items, v_shelves4_items, v_shelves5_items))
    else (mm_bd1 (fX6_hasPart N x2 x5 v_shelves3_size) (fun (r_333 : Bool) =>
    if r_333 = false then
    (some ((-13 : Int32), v_shelves0_items, v_shelves1_items, v_shelves2_items, v_shelves3_items, v_shelves4_items, v_shelves5_items))
    else (mm_bd1 (fX6_hasPart N x4 x5 v_shelves3_size) (fun (r_336 : Bool) =>
    if r_336 = false then
    (some ((-13 : Int32), v_shelves0_items, v_shelves1_items, v_shelves2_items, v_shelves3_items, v_shelves4_items, v_shelves5_items))
    else (mm_ck (mm_cok x2 x4 x5 v_shelves3_items.length v_shelves3_items.length) (mm_nm (mm_cp v_shelves3_items v_shelves3_items x2 x4 x5) (fun (l_340 : List Int64) =>
    some (x5, v_shelves0_items, v_shelves1_items, v_shelves2_items, l_340, v_shelves4_items, v_shelves5_items)))))))))
    else (some ((-12 : Int32), v_shelves0_items, v_shelves1_items, v_shelves2_items, v_shelves3_items, v_shelves4_items, v_shelves5_items)))
    else (some ((-12 : Int32), v_shelves0_items, v_shelves1_items, v_shelves2_items, v_shelves3_items, v_shelves4_items, v_shelves5_items)))
    else (some ((-12 : Int32), v_shelves0_items, v_shelves1_items, v_shelves2_items, v_shelves3_items, v_shelves4_items, v_shelves5_items)))))
    else (if x3 = (4 : Int32) then
    (if v_shelves3_holds = 0 then
    (some ((-11 : Int32), v_shelves0_items, v_shelves1_items, v_shelves2_items, v_shelves3_items, v_shelves4_items, v_shelves5_items))
    else (if v_shelves4_holds = 0 then
    (some ((-11 : Int32), v_shelves0_items, v_shelves1_items, v_shelves2_items, v_shelves3_items, v_shelves4_items, v_shelves5_items))
    else (if v_shelves3_holds = (2 : Int32) then
    (if v_shelves4_holds = (2 : Int32) then
    (if v_shelves3_sort = v_shelves4_sort then
    (if x5 < 0 then
    (some ((-13 : Int32), v_shelves0_items, v_shelves1_items, v_shelves2_items, v_shelves3_items, v_shelves4_items, v_shelves5_items))
    else (mm_bd1 (fX6_hasPart N x2 x5 v_shelves3_size) (fun (r_348 : Bool) =>
    if r_348 = false then
    (some ((-13 : Int32), v_shelves0_items, v_shelves1_items, v_shelves2_items, v_shelves3_items, v_shelves4_items, v_shelves5_items))
    else (mm_bd1 (fX6_hasPart N x4 x5 v_shelves4_size) (fun (r_351 : Bool) =>
    if r_351 = false then
    (some ((-13 : Int32), v_shelves0_items, v_shelves1_items, v_shelves2_items, v_shelves3_items, v_shelves4_items, v_shelves5_items))
    else (mm_ck (mm_cok x2 x4 x5 v_shelves3_items.length v_shelves4_items.length) (mm_nm (mm_cp v_shelves3_items v_shelves4_items x2 x4 x5) (fun (l_355 : List Int64) =>
    some (x5, v_shelves0_items, v_shelves1_items, v_shelves2_items, v_shelves3_items, l_355, v_shelves5_items)))))))))
    else (some ((-12 : Int32), v_shelves0_items, v_shelves1_items, v_shelves2_items, v_shelves3_items, v_shelves4_items, v_shelves5_items)))
    else (some ((-12 : Int32), v_shelves0_items, v_shelves1_items, v_shelves2_items, v_shelves3_items, v_shelves4_items, v_shelves5_items)))
    else (some ((-12 : Int32), v_shelves0_items, v_shelves1_items, v_shelves2_items, v_shelves3_items, v_shelves4_items, v_shelves5_items)))))
    else (if x3 = (5 : Int32) then
    (if v_shelves3_holds = 0 then
    (some ((-11 : Int32), v_shelves0_items, v_shelves1_items, v_shelves2_items, v_shelves3_items, v_shelves4_items, v_shelves5_items))
    else (if v_shelves5_holds = 0 then
    (some ((-11 : Int32), v_shelves0_items, v_shelves1_items, v_shelves2_items, v_shelves3_items, v_shelves4_items, v_shelves5_items))
    else (if v_shelves3_holds = (2 : Int32) then
    (if v_shelves5_holds = (2 : Int32) then
    (if v_shelves3_sort = v_shelves5_sort then
    (if x5 < 0 then
    (some ((-13 : Int32), v_shelves0_items, v_shelves1_items, v_shelves2_items, v_shelves3_items, v_shelves4_items, v_shelves5_items))
    else (mm_bd1 (fX6_hasPart N x2 x5 v_shelves3_size) (fun (r_363 : Bool) =>
    if r_363 = false then
    (some ((-13 : Int32), v_shelves0_items, v_shelves1_items, v_shelves2_items, v_shelves3_items, v_shelves4_items, v_shelves5_items))
    else (mm_bd1 (fX6_hasPart N x4 x5 v_shelves5_size) (fun (r_366 : Bool) =>
    if r_366 = false then
    (some ((-13 : Int32), v_shelves0_items, v_shelves1_items, v_shelves2_items, v_shelves3_items, v_shelves4_items, v_shelves5_items))
    else (mm_ck (mm_cok x2 x4 x5 v_shelves3_items.length v_shelves5_items.length) (mm_nm (mm_cp v_shelves3_items v_shelves5_items x2 x4 x5) (fun (l_370 : List Int64) =>
    some (x5, v_shelves0_items, v_shelves1_items, v_shelves2_items, v_shelves3_items, v_shelves4_items, l_370)))))))))
    else (some ((-12 : Int32), v_shelves0_items, v_shelves1_items, v_shelves2_items, v_shelves3_items, v_shelves4_items, v_shelves5_items)))
    else (some ((-12 : Int32), v_shelves0_items, v_shelves1_items, v_shelves2_items, v_shelves3_items, v_shelves4_items, v_shelves5_items)))
    else (some ((-12 : Int32), v_shelves0_items, v_shelves1_items, v_shelves2_items, v_shelves3_items, v_shelves4_items, v_shelves5_items)))))
    else (none)))))))
    else (if x1 = (4 : Int32) then
    (if x3 = (0 : Int32) then
    (if v_shelves4_holds = 0 then
    (some ((-11 : Int32), v_shelves0_items, v_shelves1_items, v_shelves2_items, v_shelves3_items, v_shelves4_items, v_shelves5_items))
    else (if v_shelves0_holds = 0 then
    (some ((-11 : Int32), v_shelves0_items, v_shelves1_items, v_shelves2_items, v_shelves3_items, v_shelves4_items, v_shelves5_items))
    else (if v_shelves4_holds = (2 : Int32) then
    (if v_shelves0_holds = (2 : Int32) then
    (if v_shelves4_sort = v_shelves0_sort then
    (if x5 < 0 then
    (some ((-13 : Int32), v_shelves0_items, v_shelves1_items, v_shelves2_items, v_shelves3_items, v_shelves4_items, v_shelves5_items))
    else (mm_bd1 (fX6_hasPart N x2 x5 v_shelves4_size) (fun (r_379 : Bool) =>
    if r_379 = false then
    (some ((-13 : Int32), v_shelves0_items, v_shelves1_items, v_shelves2_items, v_shelves3_items, v_shelves4_items, v_shelves5_items))
    else (mm_bd1 (fX6_hasPart N x4 x5 v_shelves0_size) (fun (r_382 : Bool) =>
    if r_382 = false then
    (some ((-13 : Int32), v_shelves0_items, v_shelves1_items, v_shelves2_items, v_shelves3_items, v_shelves4_items, v_shelves5_items))
    else (mm_ck (mm_cok x2 x4 x5 v_shelves4_items.length v_shelves0_items.length) (mm_nm (mm_cp v_shelves4_items v_shelves0_items x2 x4 x5) (fun (l_386 : List Int64) =>
    some (x5, l_386, v_shelves1_items, v_shelves2_items, v_shelves3_items, v_shelves4_items, v_shelves5_items)))))))))
    else (some ((-12 : Int32), v_shelves0_items, v_shelves1_items, v_shelves2_items, v_shelves3_items, v_shelves4_items, v_shelves5_items)))
    else (some ((-12 : Int32), v_shelves0_items, v_shelves1_items, v_shelves2_items, v_shelves3_items, v_shelves4_items, v_shelves5_items)))
    else (some ((-12 : Int32), v_shelves0_items, v_shelves1_items, v_shelves2_items, v_shelves3_items, v_shelves4_items, v_shelves5_items)))))
    else (if x3 = (1 : Int32) then
    (if v_shelves4_holds = 0 then
    (some ((-11 : Int32), v_shelves0_items, v_shelves1_items, v_shelves2_items, v_shelves3_items, v_shelves4_items, v_shelves5_items))
    else (if v_shelves1_holds = 0 then
    (some ((-11 : Int32), v_shelves0_items, v_shelves1_items, v_shelves2_items, v_shelves3_items, v_shelves4_items, v_shelves5_items))
    else (if v_shelves4_holds = (2 : Int32) then
    (if v_shelves1_holds = (2 : Int32) then
    (if v_shelves4_sort = v_shelves1_sort then
    (if x5 < 0 then
    (some ((-13 : Int32), v_shelves0_items, v_shelves1_items, v_shelves2_items, v_shelves3_items, v_shelves4_items, v_shelves5_items))
    else (mm_bd1 (fX6_hasPart N x2 x5 v_shelves4_size) (fun (r_394 : Bool) =>
    if r_394 = false then
    (some ((-13 : Int32), v_shelves0_items, v_shelves1_items, v_shelves2_items, v_shelves3_items, v_shelves4_items, v_shelves5_items))
    else (mm_bd1 (fX6_hasPart N x4 x5 v_shelves1_size) (fun (r_397 : Bool) =>
    if r_397 = false then
    (some ((-13 : Int32), v_shelves0_items, v_shelves1_items, v_shelves2_items, v_shelves3_items, v_shelves4_items, v_shelves5_items))
    else (mm_ck (mm_cok x2 x4 x5 v_shelves4_items.length v_shelves1_items.length) (mm_nm (mm_cp v_shelves4_items v_shelves1_items x2 x4 x5) (fun (l_401 : List Int64) =>
    some (x5, v_shelves0_items, l_401, v_shelves2_items, v_shelves3_items, v_shelves4_items, v_shelves5_items)))))))))
    else (some ((-12 : Int32), v_shelves0_items, v_shelves1_items, v_shelves2_items, v_shelves3_items, v_shelves4_items, v_shelves5_items)))
    else (some ((-12 : Int32), v_shelves0_items, v_shelves1_items, v_shelves2_items, v_shelves3_items, v_shelves4_items, v_shelves5_items)))
    else (some ((-12 : Int32), v_shelves0_items, v_shelves1_items, v_shelves2_items, v_shelves3_items, v_shelves4_items, v_shelves5_items)))))
    else (if x3 = (2 : Int32) then
    (if v_shelves4_holds = 0 then
    (some ((-11 : Int32), v_shelves0_items, v_shelves1_items, v_shelves2_items, v_shelves3_items, v_shelves4_items, v_shelves5_items))
    else (if v_shelves2_holds = 0 then
    (some ((-11 : Int32), v_shelves0_items, v_shelves1_items, v_shelves2_items, v_shelves3_items, v_shelves4_items, v_shelves5_items))
    else (if v_shelves4_holds = (2 : Int32) then
    (if v_shelves2_holds = (2 : Int32) then
    (if v_shelves4_sort = v_shelves2_sort then
    (if x5 < 0 then
    (some ((-13 : Int32), v_shelves0_items, v_shelves1_items, v_shelves2_items, v_shelves3_items, v_shelves4_items, v_shelves5_items))
    else (mm_bd1 (fX6_hasPart N x2 x5 v_shelves4_size) (fun (r_409 : Bool) =>
    if r_409 = false then
    (some ((-13 : Int32), v_shelves0_items, v_shelves1_items, v_shelves2_items, v_shelves3_items, v_shelves4_items, v_shelves5_items))
    else (mm_bd1 (fX6_hasPart N x4 x5 v_shelves2_size) (fun (r_412 : Bool) =>
    if r_412 = false then
    (some ((-13 : Int32), v_shelves0_items, v_shelves1_items, v_shelves2_items, v_shelves3_items, v_shelves4_items, v_shelves5_items))
    else (mm_ck (mm_cok x2 x4 x5 v_shelves4_items.length v_shelves2_items.length) (mm_nm (mm_cp v_shelves4_items v_shelves2_items x2 x4 x5) (fun (l_416 : List Int64) =>
    some (x5, v_shelves0_items, v_shelves1_items, l_416, v_shelves3_items, v_shelves4_items, v_shelves5_items)))))))))
    else (some ((-12 : Int32), v_shelves0_items, v_shelves1_items, v_shelves2_items, v_shelves3_items, v_shelves4_items, v_shelves5_items)))
    else (some ((-12 : Int32), v_shelves0_items, v_shelves1_items, v_shelves2_items, v_shelves3_items, v_shelves4_items, v_shelves5_items)))
    else (some ((-12 : Int32), v_shelves0_items, v_shelves1_items, v_shelves2_items, v_shelves3_items, v_shelves4_items, v_shelves5_items)))))
    else (if x3 = (3 : Int32) then
    (if v_shelves4_holds = 0 then
    (some ((-11 : Int32), v_shelves0_items, v_shelves1_items, v_shelves2_items, v_shelves3_items, v_shelves4_items, v_shelves5_items))
    else (if v_shelves3_holds = 0 then
    (some ((-11 : Int32), v_shelves0_items, v_shelves1_items, v_shelves2_items, v_shelves3_items, v_shelves4_items, v_shelves5_items))
    else (if v_shelves4_holds = (2 : Int32) then
    (if v_shelves3_holds = (2 : Int32) then
    (if v_shelves4_sort = v_shelves3_sort then
    (if x5 < 0 then
    (some ((-13 : Int32), v_shelves0_items, v_shelves1_items, v_shelves2_items, v_shelves3_items, v_shelves4_items, v_shelves5_items))
    else (mm_bd1 (fX6_hasPart N x2 x5 v_shelves4_size) (fun (r_424 : Bool) =>
    if r_424 = false then
    (some ((-13 : Int32), v_shelves0_items, v_shelves1_items, v_shelves2_items, v_shelves3_items, v_shelves4_items, v_shelves5_items))
    else (mm_bd1 (fX6_hasPart N x4 x5 v_shelves3_size) (fun (r_427 : Bool) =>
    if r_427 = false then
    (some ((-13 : Int32), v_shelves0_items, v_shelves1_items, v_shelves2_items, v_shelves3_items, v_shelves4_items, v_shelves5_items))
    else (mm_ck (mm_cok x2 x4 x5 v_shelves4_items.length v_shelves3_items.length) (mm_nm (mm_cp v_shelves4_items v_shelves3_items x2 x4 x5) (fun (l_431 : List Int64) =>
    some (x5, v_shelves0_items, v_shelves1_items, v_shelves2_items, l_431, v_shelves4_items, v_shelves5_items)))))))))
    else (some ((-12 : Int32), v_shelves0_items, v_shelves1_items, v_shelves2_items, v_shelves3_items, v_shelves4_items, v_shelves5_items)))
    else (some ((-12 : Int32), v_shelves0_items, v_shelves1_items, v_shelves2_items, v_shelves3_items, v_shelves4_items, v_shelves5_items)))
    else (some ((-12 : Int32), v_shelves0_items, v_shelves1_items, v_shelves2_items, v_shelves3_items, v_shelves4_items, v_shelves5_items)))))
    else (if x3 = (4 : Int32) then
    (if v_shelves4_holds = 0 then
    (some ((-11 : Int32), v_shelves0_items, v_shelves1_items, v_shelves2_items, v_shelves3_items, v_shelves4_items, v_shelves5_items))
    else (if v_shelves4_holds = 0 then
    (some ((-11 : Int32), v_shelves0_items, v_shelves1_items, v_shelves2_items, v_shelves3_items, v_shelves4_items, v_shelves5_items))
    else (if v_shelves4_holds = (2 : Int32) then
    (if v_shelves4_holds = (2 : Int32) then
    (if v_shelves4_sort = v_shelves4_sort then
    (if x5 < 0 then
    (some ((-13 : Int32), v_shelves0_items, v_shelves1_items, v_shelves2_items, v_shelves3_items, v_shelves4_items, v_shelves5_items))
    else (mm_bd1 (fX6_hasPart N x2 x5 v_shelves4_size) (fun (r_439 : Bool) =>
    if r_439 = false then
    (some ((-13 : Int32), v_shelves0_items, v_shelves1_items, v_shelves2_items, v_shelves3_items, v_shelves4_items, v_shelves5_items))
    else (mm_bd1 (fX6_hasPart N x4 x5 v_shelves4_size) (fun (r_442 : Bool) =>
    if r_442 = false then
    (some ((-13 : Int32), v_shelves0_items, v_shelves1_items, v_shelves2_items, v_shelves3_items, v_shelves4_items, v_shelves5_items))
    else (mm_ck (mm_cok x2 x4 x5 v_shelves4_items.length v_shelves4_items.length) (mm_nm (mm_cp v_shelves4_items v_shelves4_items x2 x4 x5) (fun (l_446 : List Int64) =>
    some (x5, v_shelves0_items, v_shelves1_items, v_shelves2_items, v_shelves3_items, l_446, v_shelves5_items)))))))))
    else (some ((-12 : Int32), v_shelves0_items, v_shelves1_items, v_shelves2_items, v_shelves3_items, v_shelves4_items, v_shelves5_items)))
    else (some ((-12 : Int32), v_shelves0_items, v_shelves1_items, v_shelves2_items, v_shelves3_items, v_shelves4_items, v_shelves5_items)))
    else (some ((-12 : Int32), v_shelves0_items, v_shelves1_items, v_shelves2_items, v_shelves3_items, v_shelves4_items, v_shelves5_items)))))
    else (if x3 = (5 : Int32) then
    (if v_shelves4_holds = 0 then
    (some ((-11 : Int32), v_shelves0_items, v_shelves1_items, v_shelves2_items, v_shelves3_items, v_shelves4_items, v_shelves5_items))
    else (if v_shelves5_holds = 0 then
    (some ((-11 : Int32), v_shelves0_items, v_shelves1_items, v_shelves2_items, v_shelves3_items, v_shelves4_items, v_shelves5_items))
    else (if v_shelves4_holds = (2 : Int32) then
    (if v_shelves5_holds = (2 : Int32) then
    (if v_shelves4_sort = v_shelves5_sort then
    (if x5 < 0 then
    (some ((-13 : Int32), v_shelves0_items, v_shelves1_items, v_shelves2_items, v_shelves3_items, v_shelves4_items, v_shelves5_items))
    else (mm_bd1 (fX6_hasPart N x2 x5 v_shelves4_size) (fun (r_454 : Bool) =>
    if r_454 = false then
    (some ((-13 : Int32), v_shelves0_items, v_shelves1_items, v_shelves2_items, v_shelves3_items, v_shelves4_items, v_shelves5_items))
    else (mm_bd1 (fX6_hasPart N x4 x5 v_shelves5_size) (fun (r_457 : Bool) =>
    if r_457 = false then
    (some ((-13 : Int32), v_shelves0_items, v_shelves1_items, v_shelves2_items, v_shelves3_items, v_shelves4_items, v_shelves5_items))
    else (mm_ck (mm_cok x2 x4 x5 v_shelves4_items.length v_shelves5_items.length) (mm_nm (mm_cp v_shelves4_items v_shelves5_items x2 x4 x5) (fun (l_461 : List Int64) =>
    some (x5, v_shelves0_items, v_shelves1_items, v_shelves2_items, v_shelves3_items, v_shelves4_items, l_461)))))))))
    else (some ((-12 : Int32), v_shelves0_items, v_shelves1_items, v_shelves2_items, v_shelves3_items, v_shelves4_items, v_shelves5_items)))
    else (some ((-12 : Int32), v_shelves0_items, v_shelves1_items, v_shelves2_items, v_shelves3_items, v_shelves4_items, v_shelves5_items)))
    else (some ((-12 : Int32), v_shelves0_items, v_shelves1_items, v_shelves2_items, v_shelves3_items, v_shelves4_items, v_shelves5_items)))))
    else (none)))))))
    else (if x1 = (5 : Int32) then
    (if x3 = (0 : Int32) then
    (if v_shelves5_holds = 0 then
    (some ((-11 : Int32), v_shelves0_items, v_shelves1_items, v_shelves2_items, v_shelves3_items, v_shelves4_items, v_shelves5_items))
    else (if v_shelves0_holds = 0 then
    (some ((-11 : Int32), v_shelves0_items, v_shelves1_items, v_shelves2_items, v_shelves3_items, v_shelves4_items, v_shelves5_items))
    else (if v_shelves5_holds = (2 : Int32) then
    (if v_shelves0_holds = (2 : Int32) then
    (if v_shelves5_sort = v_shelves0_sort then
    (if x5 < 0 then
    (some ((-13 : Int32), v_shelves0_items, v_shelves1_items, v_shelves2_items, v_shelves3_items, v_shelves4_items, v_shelves5_items))
    else (mm_bd1 (fX6_hasPart N x2 x5 v_shelves5_size) (fun (r_470 : Bool) =>
    if r_470 = false then
    (some ((-13 : Int32), v_shelves0_items, v_shelves1_items, v_shelves2_items, v_shelves3_items, v_shelves4_items, v_shelves5_items))
    else (mm_bd1 (fX6_hasPart N x4 x5 v_shelves0_size) (fun (r_473 : Bool) =>
    if r_473 = false then
    (some ((-13 : Int32), v_shelves0_items, v_shelves1_items, v_shelves2_items, v_shelves3_items, v_shelves4_items, v_shelves5_items))
    else (mm_ck (mm_cok x2 x4 x5 v_shelves5_items.length v_shelves0_items.length) (mm_nm (mm_cp v_shelves5_items v_shelves0_items x2 x4 x5) (fun (l_477 : List Int64) =>
    some (x5, l_477, v_shelves1_items, v_shelves2_items, v_shelves3_items, v_shelves4_items, v_shelves5_items)))))))))
    else (some ((-12 : Int32), v_shelves0_items, v_shelves1_items, v_shelves2_items, v_shelves3_items, v_shelves4_items, v_shelves5_items)))
    else (some ((-12 : Int32), v_shelves0_items, v_shelves1_items, v_shelves2_items, v_shelves3_items, v_shelves4_items, v_shelves5_items)))
    else (some ((-12 : Int32), v_shelves0_items, v_shelves1_items, v_shelves2_items, v_shelves3_items, v_shelves4_items, v_shelves5_items)))))
    else (if x3 = (1 : Int32) then
    (if v_shelves5_holds = 0 then
    (some ((-11 : Int32), v_shelves0_items, v_shelves1_items, v_shelves2_items, v_shelves3_items, v_shelves4_items, v_shelves5_items))
    else (if v_shelves1_holds = 0 then
    (some ((-11 : Int32), v_shelves0_items, v_shelves1_items, v_shelves2_items, v_shelves3_items, v_shelves4_items, v_shelves5_items))
    else (if v_shelves5_holds = (2 : Int32) then
    (if v_shelves1_holds = (2 : Int32) then
    (if v_shelves5_sort = v_shelves1_sort then
    (if x5 < 0 then
    (some ((-13 : Int32), v_shelves0_items, v_shelves1_items, v_shelves2_items, v_shelves3_items, v_shelves4_items, v_shelves5_items))
    else (mm_bd1 (fX6_hasPart N x2 x5 v_shelves5_size) (fun (r_485 : Bool) =>
    if r_485 = false then
    (some ((-13 : Int32), v_shelves0_items, v_shelves1_items, v_shelves2_items, v_shelves3_items, v_shelves4_items, v_shelves5_items))
    else (mm_bd1 (fX6_hasPart N x4 x5 v_shelves1_size) (fun (r_488 : Bool) =>
    if r_488 = false then
    (some ((-13 : Int32), v_shelves0_items, v_shelves1_items, v_shelves2_items, v_shelves3_items, v_shelves4_items, v_shelves5_items))
    else (mm_ck (mm_cok x2 x4 x5 v_shelves5_items.length v_shelves1_items.length) (mm_nm (mm_cp v_shelves5_items v_shelves1_items x2 x4 x5) (fun (l_492 : List Int64) =>
    some (x5, v_shelves0_items, l_492, v_shelves2_items, v_shelves3_items, v_shelves4_items, v_shelves5_items)))))))))
    else (some ((-12 : Int32), v_shelves0_items, v_shelves1_items, v_shelves2_items, v_shelves3_items, v_shelves4_items, v_shelves5_items)))
    else (some ((-12 : Int32), v_shelves0_items, v_shelves1_items, v_shelves2_items, v_shelves3_items, v_shelves4_items, v_shelves5_items)))
    else (some ((-12 : Int32), v_shelves0_items, v_shelves1_items, v_shelves2_items, v_shelves3_items, v_shelves4_items, v_shelves5_items)))))
    else (if x3 = (2 : Int32) then
    (if v_shelves5_holds = 0 then
    (some ((-11 : Int32), v_shelves0_items, v_shelves1_items, v_shelves2_items, v_shelves3_items, v_shelves4_items, v_shelves5_items))
    else (if v_shelves2_holds = 0 then
    (some ((-11 : Int32), v_shelves0_items, v_shelves1_items, v_shelves2_items, v_shelves3_items, v_shelves4_items, v_shelves5_items))
    else (if v_shelves5_holds = (2 : Int32) then
    (if v_shelves2_holds = (2 : Int32) then
    (if v_shelves5_sort = v_shelves2_sort then
    (if x5 < 0 then
    (some ((-13 : Int32), v_shelves0_items, v_shelves1_items, v_shelves2_items, v_shelves3_items, v_shelves4_items, v_shelves5_items))
    else (mm_bd1 (fX6_hasPart N x2 x5 v_shelves5_size) (fun (r_500 : Bool) =>
    if r_500 = false then
    (some ((-13 : Int32), v_shelves0_items, v_shelves1_items, v_shelves2_items, v_shelves3_items, v_shelves4_items, v_shelves5_items))
    else (mm_bd1 (fX6_hasPart N x4 x5 v_shelves2_size) (fun (r_503 : Bool) =>
    if r_503 = false then
    (some ((-13 : Int32), v_shelves0_items, v_shelves1_items, v_shelves2_items, v_shelves3_items, v_shelves4_items, v_shelves5_items))
    else (mm_ck (mm_cok x2 x4 x5 v_shelves5_items.length v_shelves2_items.length) (mm_nm (mm_cp v_shelves5_items v_shelves2_items x2 x4 x5) (fun (l_507 : List Int64) =>
    some (x5, v_shelves0_items, v_shelves1_items, l_507, v_shelves3_items, v_shelves4_items, v_shelves5_items)))))))))
    else (some ((-12 : Int32), v_shelves0_items, v_shelves1_items, v_shelves2_items, v_shelves3_items, v_shelves4_items, v_shelves5_items)))
    else (some ((-12 : Int32), v_shelves0_items, v_shelves1_items, v_shelves2_items, v_shelves3_items, v_shelves4_items, v_shelves5_items)))
    else (some ((-12 : Int32), v_shelves0_items, v_shelves1_items, v_shelves2_items, v_shelves3_items, v_shelves4_items, v_shelves5_items)))))
    else (if x3 = (3 : Int32) then
    (if v_shelves5_holds = 0 then
    (some ((-11 : Int32), v_shelves0_items, v_shelves1_items, v_shelves2_items, v_shelves3_items, v_shelves4_items, v_shelves5_items))
    else (if v_shelves3_holds = 0 then
    (some ((-11 : Int32), v_shelves0_items, v_shelves1_items, v_shelves2_items, v_shelves3_items, v_shelves4_items, v_shelves5_items))
    else (if v_shelves5_holds = (2 : Int32) then
    (if v_shelves3_holds = (2 : Int32) then
    (if v_shelves5_sort = v_shelves3_sort then
    (if x5 < 0 then
    (some ((-13 : Int32), v_shelves0_items, v_shelves1_items, v_shelves2_items, v_shelves3_items, v_shelves4_items, v_shelves5_items))
    else (mm_bd1 (fX6_hasPart N x2 x5 v_shelves5_size) (fun (r_515 : Bool) =>
    if r_515 = false then
    (some ((-13 : Int32), v_shelves0_items, v_shelves1_items, v_shelves2_items, v_shelves3_items, v_shelves4_items, v_shelves5_items))
    else (mm_bd1 (fX6_hasPart N x4 x5 v_shelves3_size) (fun (r_518 : Bool) =>
    if r_518 = false then
    (some ((-13 : Int32), v_shelves0_items, v_shelves1_items, v_shelves2_items, v_shelves3_items, v_shelves4_items, v_shelves5_items))
    else (mm_ck (mm_cok x2 x4 x5 v_shelves5_items.length v_shelves3_items.length) (mm_nm (mm_cp v_shelves5_items v_shelves3_items x2 x4 x5) (fun (l_522 : List Int64) =>
    some (x5, v_shelves0_items, v_shelves1_items, v_shelves2_items, l_522, v_shelves4_items, v_shelves5_items)))))))))
    else (some ((-12 : Int32), v_shelves0_items, v_shelves1_items, v_shelves2_items, v_shelves3_items, v_shelves4_items, v_shelves5_items)))
    else (some ((-12 : Int32), v_shelves0_items, v_shelves1_items, v_shelves2_items, v_shelves3_items, v_shelves4_items, v_shelves5_items)))
    else (some ((-12 : Int32), v_shelves0_items, v_shelves1_items, v_shelves2_items, v_shelves3_items, v_shelves4_items, v_shelves5_items)))))
    else (if x3 = (4 : Int32) then
    (if v_shelves5_holds = 0 then
    (some ((-11 : Int32), v_shelves0_items, v_shelves1_items, v_shelves2_items, v_shelves3_items, v_shelves4_items, v_shelves5_items))
    else (if v_shelves4_holds = 0 then
    (some ((-11 : Int32), v_shelves0_items, v_shelves1_items, v_shelves2_items, v_shelves3_items, v_shelves4_items, v_shelves5_items))
    else (if v_shelves5_holds = (2 : Int32) then
    (if v_shelves4_holds = (2 : Int32) then
    (if v_shelves5_sort = v_shelves4_sort then
    (if x5 < 0 then
    (some ((-13 : Int32), v_shelves0_items, v_shelves1_items, v_shelves2_items, v_shelves3_items, v_shelves4_items, v_shelves5_items))
    else (mm_bd1 (fX6_hasPart N x2 x5 v_shelves5_size) (fun (r_530 : Bool) =>
    if r_530 = false then
    (some ((-13 : Int32), v_shelves0_items, v_shelves1_items, v_shelves2_items, v_shelves3_items, v_shelves4_items, v_shelves5_items))
    else (mm_bd1 (fX6_hasPart N x4 x5 v_shelves4_size) (fun (r_533 : Bool) =>
    if r_533 = false then
    (some ((-13 : Int32), v_shelves0_items, v_shelves1_items, v_shelves2_items, v_shelves3_items, v_shelves4_items, v_shelves5_items))
    else (mm_ck (mm_cok x2 x4 x5 v_shelves5_items.length v_shelves4_items.length) (mm_nm (mm_cp v_shelves5_items v_shelves4_items x2 x4 x5) (fun (l_537 : List Int64) =>
    some (x5, v_shelves0_items, v_shelves1_items, v_shelves2_items, v_shelves3_items, l_537, v_shelves5_items)))))))))
    else (some ((-12 : Int32), v_shelves0_items, v_shelves1_items, v_shelves2_items, v_shelves3_items, v_shelves4_items, v_shelves5_items)))
    else (some ((-12 : Int32), v_shelves0_items, v_shelves1_items, v_shelves2_items, v_shelves3_items, v_shelves4_items, v_shelves5_items)))
    else (some ((-12 : Int32), v_shelves0_items, v_shelves1_items, v_shelves2_items, v_shelves3_items, v_shelves4_items, v_shelves5_items)))))
    else (if x3 = (5 : Int32) then
    (if v_shelves5_holds = 0 then
    (some ((-11 : Int32), v_shelves0_items, v_shelves1_items, v_shelves2_items, v_shelves3_items, v_shelves4_items, v_shelves5_items))
    else (if v_shelves5_holds = 0 then
    (some ((-11 : Int32), v_shelves0_items, v_shelves1_items, v_shelves2_items, v_shelves3_items, v_shelves4_items, v_shelves5_items))
    else (if v_shelves5_holds = (2 : Int32) then
    (if v_shelves5_holds = (2 : Int32) then
    (if v_shelves5_sort = v_shelves5_sort then
    (if x5 < 0 then
    (some ((-13 : Int32), v_shelves0_items, v_shelves1_items, v_shelves2_items, v_shelves3_items, v_shelves4_items, v_shelves5_items))
    else (mm_bd1 (fX6_hasPart N x2 x5 v_shelves5_size) (fun (r_545 : Bool) =>
    if r_545 = false then
    (some ((-13 : Int32), v_shelves0_items, v_shelves1_items, v_shelves2_items, v_shelves3_items, v_shelves4_items, v_shelves5_items))
    else (mm_bd1 (fX6_hasPart N x4 x5 v_shelves5_size) (fun (r_548 : Bool) =>
    if r_548 = false then
    (some ((-13 : Int32), v_shelves0_items, v_shelves1_items, v_shelves2_items, v_shelves3_items, v_shelves4_items, v_shelves5_items))
    else (mm_ck (mm_cok x2 x4 x5 v_shelves5_items.length v_shelves5_items.length) (mm_nm (mm_cp v_shelves5_items v_shelves5_items x2 x4 x5) (fun (l_552 : List Int64) =>
    some (x5, v_shelves0_items, v_shelves1_items, v_shelves2_items, v_shelves3_items, v_shelves4_items, l_552)))))))))
    else (some ((-12 : Int32), v_shelves0_items, v_shelves1_items, v_shelves2_items, v_shelves3_items, v_shelves4_items, v_shelves5_items)))
    else (some ((-12 : Int32), v_shelves0_items, v_shelves1_items, v_shelves2_items, v_shelves3_items, v_shelves4_items, v_shelves5_items)))
    else (some ((-12 : Int32), v_shelves0_items, v_shelves1_items, v_shelves2_items, v_shelves3_items, v_shelves4_items, v_shelves5_items)))))
    else (none)))))))
    else (none))))))))))

def fX8_taken (N : Nat) (x1 : Int32) (x2 : Int32) (v_foldings_size : Int32) (v_foldings_kinds : List Int32) (v_shelves0_holds : Int32) (v_shelves0_body : Int32) (v_shelves1_holds : Int32) (v_shelves1_body : Int32) (v_shelves2_holds : Int32) (v_shelves2_body : Int32) (v_shelves3_holds : Int32) (v_shelves3_body : Int32) (v_shelves4_holds : Int32) (v_shelves4_body : Int32) (v_shelves5_holds : Int32) (v_shelves5_body : Int32) : Option (Int32) :=
    mm_bd1 (fX8_isShelf N x1) (fun (r_1 : Bool) =>
    if r_1 = false then
    (some ((-1 : Int32)))
    else (if x2 < 0 then
    (some ((-1 : Int32)))
    else (if x2 < (8 : Int32) then
    (if x1 = (0 : Int32) then
    (if v_shelves0_holds = 0 then
    (some ((-11 : Int32)))
    else (if v_shelves0_holds = (1 : Int32) then
    (mm_bd1 (fX1_isUnder N v_shelves0_body x2 v_foldings_size v_foldings_kinds) (fun (r_9 : Bool) =>
    if r_9 = false then
    (some ((-12 : Int32)))
    else (mm_ck (mm_inb v_shelves0_body v_foldings_kinds.length) (some ((mm_ig v_foldings_kinds v_shelves0_body))))))
    else (some ((-12 : Int32)))))
    else (if x1 = (1 : Int32) then
    (if v_shelves1_holds = 0 then
    (some ((-11 : Int32)))
    else (if v_shelves1_holds = (1 : Int32) then
    (mm_bd1 (fX1_isUnder N v_shelves1_body x2 v_foldings_size v_foldings_kinds) (fun (r_16 : Bool) =>
    if r_16 = false then
    (some ((-12 : Int32)))
    else (mm_ck (mm_inb v_shelves1_body v_foldings_kinds.length) (some ((mm_ig v_foldings_kinds v_shelves1_body))))))
    else (some ((-12 : Int32)))))
    else (if x1 = (2 : Int32) then
    (if v_shelves2_holds = 0 then
    (some ((-11 : Int32)))
    else (if v_shelves2_holds = (1 : Int32) then
    (mm_bd1 (fX1_isUnder N v_shelves2_body x2 v_foldings_size v_foldings_kinds) (fun (r_23 : Bool) =>
    if r_23 = false then
    (some ((-12 : Int32)))
    else (mm_ck (mm_inb v_shelves2_body v_foldings_kinds.length) (some ((mm_ig v_foldings_kinds v_shelves2_body))))))
    else (some ((-12 : Int32)))))
    else (if x1 = (3 : Int32) then
    (if v_shelves3_holds = 0 then
    (some ((-11 : Int32)))
    else (if v_shelves3_holds = (1 : Int32) then
    (mm_bd1 (fX1_isUnder N v_shelves3_body x2 v_foldings_size v_foldings_kinds) (fun (r_30 : Bool) =>
    if r_30 = false then
    (some ((-12 : Int32)))
    else (mm_ck (mm_inb v_shelves3_body v_foldings_kinds.length) (some ((mm_ig v_foldings_kinds v_shelves3_body))))))
    else (some ((-12 : Int32)))))
    else (if x1 = (4 : Int32) then
    (if v_shelves4_holds = 0 then
    (some ((-11 : Int32)))
    else (if v_shelves4_holds = (1 : Int32) then
    (mm_bd1 (fX1_isUnder N v_shelves4_body x2 v_foldings_size v_foldings_kinds) (fun (r_37 : Bool) =>
    if r_37 = false then
    (some ((-12 : Int32)))
    else (mm_ck (mm_inb v_shelves4_body v_foldings_kinds.length) (some ((mm_ig v_foldings_kinds v_shelves4_body))))))
    else (some ((-12 : Int32)))))
    else (if x1 = (5 : Int32) then
    (if v_shelves5_holds = 0 then
    (some ((-11 : Int32)))
    else (if v_shelves5_holds = (1 : Int32) then
    (mm_bd1 (fX1_isUnder N v_shelves5_body x2 v_foldings_size v_foldings_kinds) (fun (r_44 : Bool) =>
    if r_44 = false then
    (some ((-12 : Int32)))
    else (mm_ck (mm_inb v_shelves5_body v_foldings_kinds.length) (some ((mm_ig v_foldings_kinds v_shelves5_body))))))
    else (some ((-12 : Int32)))))
    else (none)))))))
    else (some ((-1 : Int32))))))

def fX8_count (N : Nat) (x1 : Int32) (v_now_rows : Int32) (v_now_cols : Int32) (v_wearing_size : Int32) (v_planned_size : Int32) (v_changes_done : Int32) (v_foldings_size : Int32) (v_foldings_ran : Int32) : Option (Int32) :=
    if x1 = (0 : Int32) then
    (mm_bd1 (fX5_fields N v_now_rows v_now_cols) (fun (r_2 : Int32) =>
    some (r_2)))
    else (if x1 = (1 : Int32) then
    (some (v_planned_size))
    else (if x1 = (2 : Int32) then
    (some (v_wearing_size))
    else (if x1 = (3 : Int32) then
    (some (v_changes_done))
    else (if x1 = (4 : Int32) then
    (some (v_foldings_size))
    else (if x1 = (5 : Int32) then
    (some (v_foldings_ran))
    else (some ((-1 : Int32))))))))

def mm_zs (n : Nat) : List Int32 := List.replicate n 0

def mm_zl (n : Nat) : List Int64 := List.replicate n 0

def z5_rowOf : List Int32 := [0, 0, 0, 0, 1, 1, 1, 1] ++ mm_zs 24

def z5_colOf : List Int32 := [0, 1, 2, 3, 0, 1, 2, 3] ++ mm_zs 24

def z9_row : List Int32 := [0, 0, 0, 0, 1, 1, 1, 1] ++ mm_zs 184

def z9_column : List Int32 := [0, 1, 2, 3, 0, 1, 2, 3] ++ mm_zs 184

def z9_shapeRows : List Int32 := [2, 0, 0, 0, 0, 0]

def z9_shapeColumns : List Int32 := [4, 0, 0, 0, 0, 0]

def z9_limit : List Int32 := [20]

def z9_shelf : List Int32 := [-1, -1, -1, -1, -1, -1]
