section
/-! system: X8_taken, X8_count -/
theorem nb_dX8_taken_0 : bls_w cX8_taken [(0, [27]), (1, [184, 0, 165]), (4, [153, 0, 13]), (7, [28]), (8, [155, 0, 9]), (11, [28]), (12, [16, 8]), (14, [161, 0, 5]), (17, [2]), (18, [172]), (19, [42]), (20, [180, 0, 63])] := bls_of (by decide +kernel)
theorem dX8_taken_0 : decode cX8_taken 0 = .ok (.iload_n 1, 1) := op_27 nb_dX8_taken_0.1
set_option maxRecDepth 100000 in
theorem dX8_taken_1 : decode cX8_taken 1 = .ok (.invokestatic 165, 3) := (op_184 nb_dX8_taken_0.2.1).trans rfl
set_option maxRecDepth 100000 in
theorem dX8_taken_4 : decode cX8_taken 4 = .ok (.ifCond .eq 13, 3) := (op_153 nb_dX8_taken_0.2.2.1).trans rfl
theorem dX8_taken_7 : decode cX8_taken 7 = .ok (.iload_n 2, 1) := op_28 nb_dX8_taken_0.2.2.2.1
set_option maxRecDepth 100000 in
theorem dX8_taken_8 : decode cX8_taken 8 = .ok (.ifCond .lt 9, 3) := (op_155 nb_dX8_taken_0.2.2.2.2.1).trans rfl
theorem dX8_taken_11 : decode cX8_taken 11 = .ok (.iload_n 2, 1) := op_28 nb_dX8_taken_0.2.2.2.2.2.1
set_option maxRecDepth 100000 in
theorem dX8_taken_12 : decode cX8_taken 12 = .ok (.bipush 8, 2) := (op_16 nb_dX8_taken_0.2.2.2.2.2.2.1).trans rfl
set_option maxRecDepth 100000 in
theorem dX8_taken_14 : decode cX8_taken 14 = .ok (.if_icmp .lt 5, 3) := (op_161 nb_dX8_taken_0.2.2.2.2.2.2.2.1).trans rfl
theorem dX8_taken_17 : decode cX8_taken 17 = .ok (.iconst (-1), 1) := op_2 nb_dX8_taken_0.2.2.2.2.2.2.2.2.1
theorem dX8_taken_18 : decode cX8_taken 18 = .ok (.ireturn, 1) := op_172 nb_dX8_taken_0.2.2.2.2.2.2.2.2.2.1
theorem dX8_taken_19 : decode cX8_taken 19 = .ok (.aload_n 0, 1) := op_42 nb_dX8_taken_0.2.2.2.2.2.2.2.2.2.2.1
set_option maxRecDepth 100000 in
theorem dX8_taken_20 : decode cX8_taken 20 = .ok (.getfield 63, 3) := (op_180 nb_dX8_taken_0.2.2.2.2.2.2.2.2.2.2.2.1).trans rfl
theorem nb_dX8_taken_23 : bls_w cX8_taken [(23, [27]), (24, [50]), (25, [78]), (26, [45]), (27, [180, 0, 168]), (30, [154, 0, 6]), (33, [16, 245]), (35, [172]), (36, [45]), (37, [180, 0, 168]), (40, [4]), (41, [160, 0, 18])] := bls_of (by decide +kernel)
theorem dX8_taken_23 : decode cX8_taken 23 = .ok (.iload_n 1, 1) := op_27 nb_dX8_taken_23.1
theorem dX8_taken_24 : decode cX8_taken 24 = .ok (.aaload, 1) := op_50 nb_dX8_taken_23.2.1
theorem dX8_taken_25 : decode cX8_taken 25 = .ok (.astore_n 3, 1) := op_78 nb_dX8_taken_23.2.2.1
theorem dX8_taken_26 : decode cX8_taken 26 = .ok (.aload_n 3, 1) := op_45 nb_dX8_taken_23.2.2.2.1
set_option maxRecDepth 100000 in
theorem dX8_taken_27 : decode cX8_taken 27 = .ok (.getfield 168, 3) := (op_180 nb_dX8_taken_23.2.2.2.2.1).trans rfl
set_option maxRecDepth 100000 in
theorem dX8_taken_30 : decode cX8_taken 30 = .ok (.ifCond .ne 6, 3) := (op_154 nb_dX8_taken_23.2.2.2.2.2.1).trans rfl
set_option maxRecDepth 100000 in
theorem dX8_taken_33 : decode cX8_taken 33 = .ok (.bipush (-11), 2) := (op_16 nb_dX8_taken_23.2.2.2.2.2.2.1).trans rfl
theorem dX8_taken_35 : decode cX8_taken 35 = .ok (.ireturn, 1) := op_172 nb_dX8_taken_23.2.2.2.2.2.2.2.1
theorem dX8_taken_36 : decode cX8_taken 36 = .ok (.aload_n 3, 1) := op_45 nb_dX8_taken_23.2.2.2.2.2.2.2.2.1
set_option maxRecDepth 100000 in
theorem dX8_taken_37 : decode cX8_taken 37 = .ok (.getfield 168, 3) := (op_180 nb_dX8_taken_23.2.2.2.2.2.2.2.2.2.1).trans rfl
theorem dX8_taken_40 : decode cX8_taken 40 = .ok (.iconst 1, 1) := op_4 nb_dX8_taken_23.2.2.2.2.2.2.2.2.2.2.1
set_option maxRecDepth 100000 in
theorem dX8_taken_41 : decode cX8_taken 41 = .ok (.if_icmp .ne 18, 3) := (op_160 nb_dX8_taken_23.2.2.2.2.2.2.2.2.2.2.2.1).trans rfl
theorem nb_dX8_taken_44 : bls_w cX8_taken [(44, [42]), (45, [180, 0, 57]), (48, [45]), (49, [180, 1, 56]), (52, [28]), (53, [182, 1, 59]), (56, [154, 0, 6]), (59, [16, 244]), (61, [172]), (62, [42]), (63, [180, 0, 57]), (66, [180, 1, 62])] := bls_of (by decide +kernel)
theorem dX8_taken_44 : decode cX8_taken 44 = .ok (.aload_n 0, 1) := op_42 nb_dX8_taken_44.1
set_option maxRecDepth 100000 in
theorem dX8_taken_45 : decode cX8_taken 45 = .ok (.getfield 57, 3) := (op_180 nb_dX8_taken_44.2.1).trans rfl
theorem dX8_taken_48 : decode cX8_taken 48 = .ok (.aload_n 3, 1) := op_45 nb_dX8_taken_44.2.2.1
set_option maxRecDepth 100000 in
theorem dX8_taken_49 : decode cX8_taken 49 = .ok (.getfield 312, 3) := (op_180 nb_dX8_taken_44.2.2.2.1).trans rfl
theorem dX8_taken_52 : decode cX8_taken 52 = .ok (.iload_n 2, 1) := op_28 nb_dX8_taken_44.2.2.2.2.1
set_option maxRecDepth 100000 in
theorem dX8_taken_53 : decode cX8_taken 53 = .ok (.invokevirtual 315, 3) := (op_182 nb_dX8_taken_44.2.2.2.2.2.1).trans rfl
set_option maxRecDepth 100000 in
theorem dX8_taken_56 : decode cX8_taken 56 = .ok (.ifCond .ne 6, 3) := (op_154 nb_dX8_taken_44.2.2.2.2.2.2.1).trans rfl
set_option maxRecDepth 100000 in
theorem dX8_taken_59 : decode cX8_taken 59 = .ok (.bipush (-12), 2) := (op_16 nb_dX8_taken_44.2.2.2.2.2.2.2.1).trans rfl
theorem dX8_taken_61 : decode cX8_taken 61 = .ok (.ireturn, 1) := op_172 nb_dX8_taken_44.2.2.2.2.2.2.2.2.1
theorem dX8_taken_62 : decode cX8_taken 62 = .ok (.aload_n 0, 1) := op_42 nb_dX8_taken_44.2.2.2.2.2.2.2.2.2.1
set_option maxRecDepth 100000 in
theorem dX8_taken_63 : decode cX8_taken 63 = .ok (.getfield 57, 3) := (op_180 nb_dX8_taken_44.2.2.2.2.2.2.2.2.2.2.1).trans rfl
set_option maxRecDepth 100000 in
theorem dX8_taken_66 : decode cX8_taken 66 = .ok (.getfield 318, 3) := (op_180 nb_dX8_taken_44.2.2.2.2.2.2.2.2.2.2.2.1).trans rfl
theorem nb_dX8_taken_69 : bls_w cX8_taken [(69, [45]), (70, [180, 1, 56]), (73, [46]), (74, [172])] := bls_of (by decide +kernel)
theorem dX8_taken_69 : decode cX8_taken 69 = .ok (.aload_n 3, 1) := op_45 nb_dX8_taken_69.1
set_option maxRecDepth 100000 in
theorem dX8_taken_70 : decode cX8_taken 70 = .ok (.getfield 312, 3) := (op_180 nb_dX8_taken_69.2.1).trans rfl
theorem dX8_taken_73 : decode cX8_taken 73 = .ok (.iaload, 1) := op_46 nb_dX8_taken_69.2.2.1
theorem dX8_taken_74 : decode cX8_taken 74 = .ok (.ireturn, 1) := op_172 nb_dX8_taken_69.2.2.2.1
def fX8_taken (N : Nat) (x1 : Int32) (x2 : Int32) (v_foldings_size : Int32) (v_foldings_kinds : List Int32) (v_shelves0_holds : Int32) (v_shelves0_body : Int32) (v_shelves1_holds : Int32) (v_shelves1_body : Int32) (v_shelves2_holds : Int32) (v_shelves2_body : Int32) (v_shelves3_holds : Int32) (v_shelves3_body : Int32) (v_shelves4_holds : Int32) (v_shelves4_body : Int32) (v_shelves5_holds : Int32) (v_shelves5_body : Int32) : Option (Int32) :=
    mm_bd1 (fX8_isShelf N x1) (fun (r_1 : Bool) =>
    if r_1 = false then
    (some ((-1 : Int32)))
    else (if x2 < 0 then
    (some ((-1 : Int32)))
    else (if x2 < (8 : Int32) then
    (if x1 = (0 : Int32) then
    (if v_shelves0_holds = 0 then
    (some ((-11 : Int32)))
    else (if v_shelves0_holds = (1 : Int32) then
    (mm_bd1 (fX1_isUnder N v_shelves0_body x2 v_foldings_size v_foldings_kinds) (fun (r_9 : Bool) =>
    if r_9 = false then
    (some ((-12 : Int32)))
    else (mm_ck (mm_inb v_shelves0_body v_foldings_kinds.length) (some ((mm_ig v_foldings_kinds v_shelves0_body))))))
    else (some ((-12 : Int32)))))
    else (if x1 = (1 : Int32) then
    (if v_shelves1_holds = 0 then
    (some ((-11 : Int32)))
    else (if v_shelves1_holds = (1 : Int32) then
    (mm_bd1 (fX1_isUnder N v_shelves1_body x2 v_foldings_size v_foldings_kinds) (fun (r_16 : Bool) =>
    if r_16 = false then
    (some ((-12 : Int32)))
    else (mm_ck (mm_inb v_shelves1_body v_foldings_kinds.length) (some ((mm_ig v_foldings_kinds v_shelves1_body))))))
    else (some ((-12 : Int32)))))
    else (if x1 = (2 : Int32) then
    (if v_shelves2_holds = 0 then
    (some ((-11 : Int32)))
    else (if v_shelves2_holds = (1 : Int32) then
    (mm_bd1 (fX1_isUnder N v_shelves2_body x2 v_foldings_size v_foldings_kinds) (fun (r_23 : Bool) =>
    if r_23 = false then
    (some ((-12 : Int32)))
    else (mm_ck (mm_inb v_shelves2_body v_foldings_kinds.length) (some ((mm_ig v_foldings_kinds v_shelves2_body))))))
    else (some ((-12 : Int32)))))
    else (if x1 = (3 : Int32) then
    (if v_shelves3_holds = 0 then
    (some ((-11 : Int32)))
    else (if v_shelves3_holds = (1 : Int32) then
    (mm_bd1 (fX1_isUnder N v_shelves3_body x2 v_foldings_size v_foldings_kinds) (fun (r_30 : Bool) =>
    if r_30 = false then
    (some ((-12 : Int32)))
    else (mm_ck (mm_inb v_shelves3_body v_foldings_kinds.length) (some ((mm_ig v_foldings_kinds v_shelves3_body))))))
    else (some ((-12 : Int32)))))
    else (if x1 = (4 : Int32) then
    (if v_shelves4_holds = 0 then
    (some ((-11 : Int32)))
    else (if v_shelves4_holds = (1 : Int32) then
    (mm_bd1 (fX1_isUnder N v_shelves4_body x2 v_foldings_size v_foldings_kinds) (fun (r_37 : Bool) =>
    if r_37 = false then
    (some ((-12 : Int32)))
    else (mm_ck (mm_inb v_shelves4_body v_foldings_kinds.length) (some ((mm_ig v_foldings_kinds v_shelves4_body))))))
    else (some ((-12 : Int32)))))
    else (if x1 = (5 : Int32) then
    (if v_shelves5_holds = 0 then
    (some ((-11 : Int32)))
    else (if v_shelves5_holds = (1 : Int32) then
    (mm_bd1 (fX1_isUnder N v_shelves5_body x2 v_foldings_size v_foldings_kinds) (fun (r_44 : Bool) =>
    if r_44 = false then
    (some ((-12 : Int32)))
    else (mm_ck (mm_inb v_shelves5_body v_foldings_kinds.length) (some ((mm_ig v_foldings_kinds v_shelves5_body))))))
    else (some ((-12 : Int32)))))
    else (none)))))))
    else (some ((-1 : Int32))))))

set_option maxHeartbeats 4000000 in
set_option maxRecDepth 100000 in
theorem ctX8_taken {l : Launch} {D : va_G} {cI cL cS cH : ClassId} {a : Nat → Nat} {x1 : Int32} {x2 : Int32} {v_hasImage : Bool} {v_now_rows : Int32} {v_now_cols : Int32} {v_now_high : Int32} {v_now_wide : Int32} {v_now_folds : Int32} {v_now_wrong : Int32} {v_now_more : Int32} {v_now_rowOf : List Int32} {v_now_colOf : List Int32} {v_now_below : List Int32} {v_now_face : List Int32} {v_now_worn : List Int32} {v_now_last : List Int32} {v_now_bend : List Int32} {v_now_tall : List Int32} {v_kept_rows : Int32} {v_kept_cols : Int32} {v_kept_high : Int32} {v_kept_wide : Int32} {v_kept_folds : Int32} {v_kept_wrong : Int32} {v_kept_more : Int32} {v_kept_rowOf : List Int32} {v_kept_colOf : List Int32} {v_kept_below : List Int32} {v_kept_face : List Int32} {v_kept_worn : List Int32} {v_kept_last : List Int32} {v_kept_bend : List Int32} {v_kept_tall : List Int32} {v_wearing_size : Int32} {v_wearing_stepCount : Int32} {v_wearing_draftCount : Int32} {v_wearing_place : Int32} {v_wearing_fault : Int32} {v_wearing_stacked : Int32} {v_wearing_tape : List Int32} {v_wearing_steps : List Int32} {v_wearing_draft : List Int32} {v_wearing_stack : List Int32} {v_planned_size : Int32} {v_planned_trial_rows : Int32} {v_planned_trial_cols : Int32} {v_planned_trial_high : Int32} {v_planned_trial_wide : Int32} {v_planned_trial_folds : Int32} {v_planned_trial_wrong : Int32} {v_planned_trial_more : Int32} {v_planned_trial_rowOf : List Int32} {v_planned_trial_colOf : List Int32} {v_planned_trial_below : List Int32} {v_planned_trial_face : List Int32} {v_planned_trial_worn : List Int32} {v_planned_trial_last : List Int32} {v_planned_trial_bend : List Int32} {v_planned_trial_tall : List Int32} {v_planned_lines : List Int32} {v_planned_ways : List Int32} {v_search_found : Bool} {v_search_wrong : Int32} {v_search_more : Int32} {v_search_folds : Int32} {v_search_wanted : Int32} {v_search_levels0_rows : Int32} {v_search_levels0_cols : Int32} {v_search_levels0_high : Int32} {v_search_levels0_wide : Int32} {v_search_levels0_folds : Int32} {v_search_levels0_wrong : Int32} {v_search_levels0_more : Int32} {v_search_levels0_rowOf : List Int32} {v_search_levels0_colOf : List Int32} {v_search_levels0_below : List Int32} {v_search_levels0_face : List Int32} {v_search_levels0_worn : List Int32} {v_search_levels0_last : List Int32} {v_search_levels0_bend : List Int32} {v_search_levels0_tall : List Int32} {v_search_levels1_rows : Int32} {v_search_levels1_cols : Int32} {v_search_levels1_high : Int32} {v_search_levels1_wide : Int32} {v_search_levels1_folds : Int32} {v_search_levels1_wrong : Int32} {v_search_levels1_more : Int32} {v_search_levels1_rowOf : List Int32} {v_search_levels1_colOf : List Int32} {v_search_levels1_below : List Int32} {v_search_levels1_face : List Int32} {v_search_levels1_worn : List Int32} {v_search_levels1_last : List Int32} {v_search_levels1_bend : List Int32} {v_search_levels1_tall : List Int32} {v_search_levels2_rows : Int32} {v_search_levels2_cols : Int32} {v_search_levels2_high : Int32} {v_search_levels2_wide : Int32} {v_search_levels2_folds : Int32} {v_search_levels2_wrong : Int32} {v_search_levels2_more : Int32} {v_search_levels2_rowOf : List Int32} {v_search_levels2_colOf : List Int32} {v_search_levels2_below : List Int32} {v_search_levels2_face : List Int32} {v_search_levels2_worn : List Int32} {v_search_levels2_last : List Int32} {v_search_levels2_bend : List Int32} {v_search_levels2_tall : List Int32} {v_search_levels3_rows : Int32} {v_search_levels3_cols : Int32} {v_search_levels3_high : Int32} {v_search_levels3_wide : Int32} {v_search_levels3_folds : Int32} {v_search_levels3_wrong : Int32} {v_search_levels3_more : Int32} {v_search_levels3_rowOf : List Int32} {v_search_levels3_colOf : List Int32} {v_search_levels3_below : List Int32} {v_search_levels3_face : List Int32} {v_search_levels3_worn : List Int32} {v_search_levels3_last : List Int32} {v_search_levels3_bend : List Int32} {v_search_levels3_tall : List Int32} {v_search_path : List Int32} {v_search_best : List Int32} {v_strip_list : List Int32} {v_strip_found : List Int32} {v_strip_at : List Int32} {v_changes_value : Int32} {v_changes_done : Int32} {v_changes_size : Int32} {v_changes_before : List Int32} {v_changes_after : List Int32} {v_foldings_size : Int32} {v_foldings_ran : Int32} {v_foldings_number : Int32} {v_foldings_kinds : List Int32} {v_foldings_trace : List Int32} {v_shelves0_holds : Int32} {v_shelves0_body : Int32} {v_shelves0_sort : Int32} {v_shelves0_size : Int32} {v_shelves0_items : List Int64} {v_shelves1_holds : Int32} {v_shelves1_body : Int32} {v_shelves1_sort : Int32} {v_shelves1_size : Int32} {v_shelves1_items : List Int64} {v_shelves2_holds : Int32} {v_shelves2_body : Int32} {v_shelves2_sort : Int32} {v_shelves2_size : Int32} {v_shelves2_items : List Int64} {v_shelves3_holds : Int32} {v_shelves3_body : Int32} {v_shelves3_sort : Int32} {v_shelves3_size : Int32} {v_shelves3_items : List Int64} {v_shelves4_holds : Int32} {v_shelves4_body : Int32} {v_shelves4_sort : Int32} {v_shelves4_size : Int32} {v_shelves4_items : List Int64} {v_shelves5_holds : Int32} {v_shelves5_body : Int32} {v_shelves5_sort : Int32} {v_shelves5_size : Int32} {v_shelves5_items : List Int64} {r : Int32} {N d : Nat} (hd : 3 ≤ d) (hf : fX8_taken N x1 x2 v_foldings_size v_foldings_kinds v_shelves0_holds v_shelves0_body v_shelves1_holds v_shelves1_body v_shelves2_holds v_shelves2_body v_shelves3_holds v_shelves3_body v_shelves4_holds v_shelves4_body v_shelves5_holds v_shelves5_body = some r) : mm_Ct l yX8_taken cX8_taken 4 (some .int) d D (mm_T cI cL cS cH) [.ref (a 0), .int x1, .int x2] (wd_X8 cI cL cS cH a v_hasImage v_now_rows v_now_cols v_now_high v_now_wide v_now_folds v_now_wrong v_now_more v_now_rowOf v_now_colOf v_now_below v_now_face v_now_worn v_now_last v_now_bend v_now_tall v_kept_rows v_kept_cols v_kept_high v_kept_wide v_kept_folds v_kept_wrong v_kept_more v_kept_rowOf v_kept_colOf v_kept_below v_kept_face v_kept_worn v_kept_last v_kept_bend v_kept_tall v_wearing_size v_wearing_stepCount v_wearing_draftCount v_wearing_place v_wearing_fault v_wearing_stacked v_wearing_tape v_wearing_steps v_wearing_draft v_wearing_stack v_planned_size v_planned_trial_rows v_planned_trial_cols v_planned_trial_high v_planned_trial_wide v_planned_trial_folds v_planned_trial_wrong v_planned_trial_more v_planned_trial_rowOf v_planned_trial_colOf v_planned_trial_below v_planned_trial_face v_planned_trial_worn v_planned_trial_last v_planned_trial_bend v_planned_trial_tall v_planned_lines v_planned_ways v_search_found v_search_wrong v_search_more v_search_folds v_search_wanted v_search_levels0_rows v_search_levels0_cols v_search_levels0_high v_search_levels0_wide v_search_levels0_folds v_search_levels0_wrong v_search_levels0_more v_search_levels0_rowOf v_search_levels0_colOf v_search_levels0_below v_search_levels0_face v_search_levels0_worn v_search_levels0_last v_search_levels0_bend v_search_levels0_tall v_search_levels1_rows v_search_levels1_cols v_search_levels1_high v_search_levels1_wide v_search_levels1_folds v_search_levels1_wrong v_search_levels1_more v_search_levels1_rowOf v_search_levels1_colOf v_search_levels1_below v_search_levels1_face v_search_levels1_worn v_search_levels1_last v_search_levels1_bend v_search_levels1_tall v_search_levels2_rows v_search_levels2_cols v_search_levels2_high v_search_levels2_wide v_search_levels2_folds v_search_levels2_wrong v_search_levels2_more v_search_levels2_rowOf v_search_levels2_colOf v_search_levels2_below v_search_levels2_face v_search_levels2_worn v_search_levels2_last v_search_levels2_bend v_search_levels2_tall v_search_levels3_rows v_search_levels3_cols v_search_levels3_high v_search_levels3_wide v_search_levels3_folds v_search_levels3_wrong v_search_levels3_more v_search_levels3_rowOf v_search_levels3_colOf v_search_levels3_below v_search_levels3_face v_search_levels3_worn v_search_levels3_last v_search_levels3_bend v_search_levels3_tall v_search_path v_search_best v_strip_list v_strip_found v_strip_at v_changes_value v_changes_done v_changes_size v_changes_before v_changes_after v_foldings_size v_foldings_ran v_foldings_number v_foldings_kinds v_foldings_trace v_shelves0_holds v_shelves0_body v_shelves0_sort v_shelves0_size v_shelves0_items v_shelves1_holds v_shelves1_body v_shelves1_sort v_shelves1_size v_shelves1_items v_shelves2_holds v_shelves2_body v_shelves2_sort v_shelves2_size v_shelves2_items v_shelves3_holds v_shelves3_body v_shelves3_sort v_shelves3_size v_shelves3_items v_shelves4_holds v_shelves4_body v_shelves4_sort v_shelves4_size v_shelves4_items v_shelves5_holds v_shelves5_body v_shelves5_sort v_shelves5_size v_shelves5_items) (wd_X8 cI cL cS cH a v_hasImage v_now_rows v_now_cols v_now_high v_now_wide v_now_folds v_now_wrong v_now_more v_now_rowOf v_now_colOf v_now_below v_now_face v_now_worn v_now_last v_now_bend v_now_tall v_kept_rows v_kept_cols v_kept_high v_kept_wide v_kept_folds v_kept_wrong v_kept_more v_kept_rowOf v_kept_colOf v_kept_below v_kept_face v_kept_worn v_kept_last v_kept_bend v_kept_tall v_wearing_size v_wearing_stepCount v_wearing_draftCount v_wearing_place v_wearing_fault v_wearing_stacked v_wearing_tape v_wearing_steps v_wearing_draft v_wearing_stack v_planned_size v_planned_trial_rows v_planned_trial_cols v_planned_trial_high v_planned_trial_wide v_planned_trial_folds v_planned_trial_wrong v_planned_trial_more v_planned_trial_rowOf v_planned_trial_colOf v_planned_trial_below v_planned_trial_face v_planned_trial_worn v_planned_trial_last v_planned_trial_bend v_planned_trial_tall v_planned_lines v_planned_ways v_search_found v_search_wrong v_search_more v_search_folds v_search_wanted v_search_levels0_rows v_search_levels0_cols v_search_levels0_high v_search_levels0_wide v_search_levels0_folds v_search_levels0_wrong v_search_levels0_more v_search_levels0_rowOf v_search_levels0_colOf v_search_levels0_below v_search_levels0_face v_search_levels0_worn v_search_levels0_last v_search_levels0_bend v_search_levels0_tall v_search_levels1_rows v_search_levels1_cols v_search_levels1_high v_search_levels1_wide v_search_levels1_folds v_search_levels1_wrong v_search_levels1_more v_search_levels1_rowOf v_search_levels1_colOf v_search_levels1_below v_search_levels1_face v_search_levels1_worn v_search_levels1_last v_search_levels1_bend v_search_levels1_tall v_search_levels2_rows v_search_levels2_cols v_search_levels2_high v_search_levels2_wide v_search_levels2_folds v_search_levels2_wrong v_search_levels2_more v_search_levels2_rowOf v_search_levels2_colOf v_search_levels2_below v_search_levels2_face v_search_levels2_worn v_search_levels2_last v_search_levels2_bend v_search_levels2_tall v_search_levels3_rows v_search_levels3_cols v_search_levels3_high v_search_levels3_wide v_search_levels3_folds v_search_levels3_wrong v_search_levels3_more v_search_levels3_rowOf v_search_levels3_colOf v_search_levels3_below v_search_levels3_face v_search_levels3_worn v_search_levels3_last v_search_levels3_bend v_search_levels3_tall v_search_path v_search_best v_strip_list v_strip_found v_strip_at v_changes_value v_changes_done v_changes_size v_changes_before v_changes_after v_foldings_size v_foldings_ran v_foldings_number v_foldings_kinds v_foldings_trace v_shelves0_holds v_shelves0_body v_shelves0_sort v_shelves0_size v_shelves0_items v_shelves1_holds v_shelves1_body v_shelves1_sort v_shelves1_size v_shelves1_items v_shelves2_holds v_shelves2_body v_shelves2_sort v_shelves2_size v_shelves2_items v_shelves3_holds v_shelves3_body v_shelves3_sort v_shelves3_size v_shelves3_items v_shelves4_holds v_shelves4_body v_shelves4_sort v_shelves4_size v_shelves4_items v_shelves5_holds v_shelves5_body v_shelves5_sort v_shelves5_size v_shelves5_items) (some (.int r)) := by
  refine mm_of (by decide) (Nat.le_of_ble_eq_true rfl) ?_
  intro p e s m args below meth c A H locs ls C0 hP hD hA hS hl
  have C0 : mm_Cx p s m args meth c RX8 cX8_taken 4 (some .int) D (mm_T cI cL cS cH) A := C0
  obtain ⟨hx, hb, hml, hown, hts, hr, hlocks, hK, hSt⟩ := id C0
  have hl : lv_has ls 4 [(0, .ref (a 0)), (1, .int x1), (2, .int x2)] := hl
  unfold fX8_taken at hf
  refine lv_iload_n hx hb dX8_taken_0 rfl (lv_at hl 1 rfl) ?_
  obtain ⟨r_1, hc_2, hf⟩ := mm_bd1s hf
  refine mm_callS0 (rest := []) C0 lk_X8_165 (ctX8_isShelf (d := d - 1) (by omega) hc_2) (by omega) rfl hl.1 rfl (mm_cat rfl) dX8_taken_1 hP hD hA hS (fun H locs hP hS => ?_)
  refine W.eq (g2 := F0 m 4 ls [.int (mm_b r_1)]) rfl ?_
  refine lv_if_eq (tgt := 17) hx hb dX8_taken_4 (by decide) (fun c_3 => ?_) (fun c_3 => ?_)
  · have hf := mm_ip hf (mm_b0 c_3)
    refine lv_iconst (v := -1) hx hb dX8_taken_17 (by decide) ?_
    obtain rfl := mm_inj1 hf
    exact mm_iret C0 hP hD hS dX8_taken_18
  · have hf := mm_in hf (mm_b1 c_3)
    refine lv_iload_n hx hb dX8_taken_7 rfl (lv_at hl 2 rfl) ?_
    refine lv_if_lt (tgt := 17) hx hb dX8_taken_8 (by decide) (fun c_4 => ?_) (fun c_4 => ?_)
    · have hf := mm_ip hf c_4
      refine lv_iconst (v := -1) hx hb dX8_taken_17 (by decide) ?_
      obtain rfl := mm_inj1 hf
      exact mm_iret C0 hP hD hS dX8_taken_18
    · have hf := mm_in hf c_4
      refine lv_iload_n hx hb dX8_taken_11 rfl (lv_at hl 2 rfl) ?_
      refine lv_bipush (v := 8) hx hb dX8_taken_12 (by decide) ?_
      refine lv_icmp_lt (tgt := 19) hx hb dX8_taken_14 (by decide) (fun c_5 => ?_) (fun c_5 => ?_)
      · have hf := mm_ip hf c_5
        refine lv_aload_n hx hb dX8_taken_19 rfl (lv_at hl 0 rfl) ?_
        refine mm_get C0 hP iw_X8 0 rfl rfl 8 (by decide) fl_X8_63 rfl dX8_taken_20 ?_
        refine lv_iload_n hx hb dX8_taken_23 rfl (lv_at hl 1 rfl) ?_
        by_cases c_6 : x1 = (0 : Int32)
        · have hf := mm_ip hf c_6
          refine mm_aald 3 rfl C0 hP 86 rfl (b := a 87) (by rw [c_6]; rfl) (by rw [c_6]; rfl) dX8_taken_24 ?_
          refine lv_astore_n (lv' := [(3, .ref (a 87)), (0, .ref (a 0)), (1, .int x1), (2, .int x2)]) hx hb dX8_taken_25 rfl hl (by decide) rfl (fun ls hl => ?_)
          refine lv_aload_n hx hb dX8_taken_26 rfl (lv_at hl 0 rfl) ?_
          refine mm_get C0 hP iw_X6 87 rfl rfl 0 (by decide) fl_X8_168 rfl dX8_taken_27 ?_
          refine lv_if_ne (tgt := 36) hx hb dX8_taken_30 (by decide) (fun c_7 => ?_) (fun c_7 => ?_)
          · have hf := mm_in hf c_7
            refine lv_aload_n hx hb dX8_taken_36 rfl (lv_at hl 0 rfl) ?_
            refine mm_get C0 hP iw_X6 87 rfl rfl 0 (by decide) fl_X8_168 rfl dX8_taken_37 ?_
            refine lv_iconst (v := 1) hx hb dX8_taken_40 (by decide) ?_
            refine lv_icmp_ne (tgt := 59) hx hb dX8_taken_41 (by decide) (fun c_8 => ?_) (fun c_8 => ?_)
            · have hf := mm_in hf c_8
              refine lv_bipush (v := -12) hx hb dX8_taken_59 (by decide) ?_
              obtain rfl := mm_inj1 hf
              exact mm_iret C0 hP hD hS dX8_taken_61
            · have hf := mm_ip hf c_8
              refine lv_aload_n hx hb dX8_taken_44 rfl (lv_at hl 1 rfl) ?_
              refine mm_get C0 hP iw_X8 0 rfl rfl 7 (by decide) fl_X8_57 rfl dX8_taken_45 ?_
              refine lv_aload_n hx hb dX8_taken_48 rfl (lv_at hl 0 rfl) ?_
              refine mm_get C0 hP iw_X6 87 rfl rfl 1 (by decide) fl_X8_312 rfl dX8_taken_49 ?_
              refine lv_iload_n hx hb dX8_taken_52 rfl (lv_at hl 3 rfl) ?_
              obtain ⟨r_9, hc_10, hf⟩ := mm_bd1s hf
              refine mm_callW (q0 := 83) (ci := 1) (w2 := (wd_X8 cI cL cS cH a v_hasImage v_now_rows v_now_cols v_now_high v_now_wide v_now_folds v_now_wrong v_now_more v_now_rowOf v_now_colOf v_now_below v_now_face v_now_worn v_now_last v_now_bend v_now_tall v_kept_rows v_kept_cols v_kept_high v_kept_wide v_kept_folds v_kept_wrong v_kept_more v_kept_rowOf v_kept_colOf v_kept_below v_kept_face v_kept_worn v_kept_last v_kept_bend v_kept_tall v_wearing_size v_wearing_stepCount v_wearing_draftCount v_wearing_place v_wearing_fault v_wearing_stacked v_wearing_tape v_wearing_steps v_wearing_draft v_wearing_stack v_planned_size v_planned_trial_rows v_planned_trial_cols v_planned_trial_high v_planned_trial_wide v_planned_trial_folds v_planned_trial_wrong v_planned_trial_more v_planned_trial_rowOf v_planned_trial_colOf v_planned_trial_below v_planned_trial_face v_planned_trial_worn v_planned_trial_last v_planned_trial_bend v_planned_trial_tall v_planned_lines v_planned_ways v_search_found v_search_wrong v_search_more v_search_folds v_search_wanted v_search_levels0_rows v_search_levels0_cols v_search_levels0_high v_search_levels0_wide v_search_levels0_folds v_search_levels0_wrong v_search_levels0_more v_search_levels0_rowOf v_search_levels0_colOf v_search_levels0_below v_search_levels0_face v_search_levels0_worn v_search_levels0_last v_search_levels0_bend v_search_levels0_tall v_search_levels1_rows v_search_levels1_cols v_search_levels1_high v_search_levels1_wide v_search_levels1_folds v_search_levels1_wrong v_search_levels1_more v_search_levels1_rowOf v_search_levels1_colOf v_search_levels1_below v_search_levels1_face v_search_levels1_worn v_search_levels1_last v_search_levels1_bend v_search_levels1_tall v_search_levels2_rows v_search_levels2_cols v_search_levels2_high v_search_levels2_wide v_search_levels2_folds v_search_levels2_wrong v_search_levels2_more v_search_levels2_rowOf v_search_levels2_colOf v_search_levels2_below v_search_levels2_face v_search_levels2_worn v_search_levels2_last v_search_levels2_bend v_search_levels2_tall v_search_levels3_rows v_search_levels3_cols v_search_levels3_high v_search_levels3_wide v_search_levels3_folds v_search_levels3_wrong v_search_levels3_more v_search_levels3_rowOf v_search_levels3_colOf v_search_levels3_below v_search_levels3_face v_search_levels3_worn v_search_levels3_last v_search_levels3_bend v_search_levels3_tall v_search_path v_search_best v_strip_list v_strip_found v_strip_at v_changes_value v_changes_done v_changes_size v_changes_before v_changes_after v_foldings_size v_foldings_ran v_foldings_number v_foldings_kinds v_foldings_trace v_shelves0_holds v_shelves0_body v_shelves0_sort v_shelves0_size v_shelves0_items v_shelves1_holds v_shelves1_body v_shelves1_sort v_shelves1_size v_shelves1_items v_shelves2_holds v_shelves2_body v_shelves2_sort v_shelves2_size v_shelves2_items v_shelves3_holds v_shelves3_body v_shelves3_sort v_shelves3_size v_shelves3_items v_shelves4_holds v_shelves4_body v_shelves4_sort v_shelves4_size v_shelves4_items v_shelves5_holds v_shelves5_body v_shelves5_sort v_shelves5_size v_shelves5_items)) (rest := []) C0 lk_X8_315 (ctX1_isUnder (a := (fun k => a (k + 83))) (d := d - 1) (by omega) hc_10) (by omega) rfl hl.1 rfl (mm_cat rfl) dX8_taken_53 hP hD hA hS rfl rfl [false, false, false, false, false, false, false, false, false, false, false, false, false, false, false, false, false, false, false, false, false, false, false, false, false, false, false, false, false, false, false, false, false, false, false, false, false, false, false, false, false, false, false, false, false, false, false, false, false, false, false, false, false, false, false, false, false, false, false, false, false, false, false, false, false, false, false, false, false, false, false, false, false, false, false, false, false, false, false, false, false, false, false, true, true, true, false, false, false, false, false, false, false, false, false, false, false, false, false] rfl rfl rfl rfl (fun H locs hP hD hS => ?_)
              refine W.eq (g2 := F0 m 56 ls [.int (mm_b r_9)]) rfl ?_
              refine lv_if_ne (tgt := 62) hx hb dX8_taken_56 (by decide) (fun c_11 => ?_) (fun c_11 => ?_)
              · have hf := mm_in hf (mm_b1 c_11)
                refine lv_aload_n hx hb dX8_taken_62 rfl (lv_at hl 1 rfl) ?_
                refine mm_get C0 hP iw_X8 0 rfl rfl 7 (by decide) fl_X8_57 rfl dX8_taken_63 ?_
                refine mm_get C0 hP iw_X1 83 rfl rfl 2 (by decide) fl_X8_318 rfl dX8_taken_66 ?_
                refine lv_aload_n hx hb dX8_taken_69 rfl (lv_at hl 0 rfl) ?_
                refine mm_get C0 hP iw_X6 87 rfl rfl 1 (by decide) fl_X8_312 rfl dX8_taken_70 ?_
                obtain ⟨h_12, hf⟩ := mm_cks hf
                refine mm_iald C0 hP 84 rfl h_12 dX8_taken_73 ?_
                obtain rfl := mm_inj1 hf
                exact mm_iret C0 hP hD hS dX8_taken_74
              · have hf := mm_ip hf (mm_b0 c_11)
                refine lv_bipush (v := -12) hx hb dX8_taken_59 (by decide) ?_
                obtain rfl := mm_inj1 hf
                exact mm_iret C0 hP hD hS dX8_taken_61
          · have hf := mm_ip hf c_7
            refine lv_bipush (v := -11) hx hb dX8_taken_33 (by decide) ?_
            obtain rfl := mm_inj1 hf
            exact mm_iret C0 hP hD hS dX8_taken_35
        · have hf := mm_in hf c_6
          by_cases c_13 : x1 = (1 : Int32)
          · have hf := mm_ip hf c_13
            refine mm_aald 3 rfl C0 hP 86 rfl (b := a 89) (by rw [c_13]; rfl) (by rw [c_13]; rfl) dX8_taken_24 ?_
            refine lv_astore_n (lv' := [(3, .ref (a 89)), (0, .ref (a 0)), (1, .int x1), (2, .int x2)]) hx hb dX8_taken_25 rfl hl (by decide) rfl (fun ls hl => ?_)
            refine lv_aload_n hx hb dX8_taken_26 rfl (lv_at hl 0 rfl) ?_
            refine mm_get C0 hP iw_X6 89 rfl rfl 0 (by decide) fl_X8_168 rfl dX8_taken_27 ?_
            refine lv_if_ne (tgt := 36) hx hb dX8_taken_30 (by decide) (fun c_14 => ?_) (fun c_14 => ?_)
            · have hf := mm_in hf c_14
              refine lv_aload_n hx hb dX8_taken_36 rfl (lv_at hl 0 rfl) ?_
              refine mm_get C0 hP iw_X6 89 rfl rfl 0 (by decide) fl_X8_168 rfl dX8_taken_37 ?_
              refine lv_iconst (v := 1) hx hb dX8_taken_40 (by decide) ?_
              refine lv_icmp_ne (tgt := 59) hx hb dX8_taken_41 (by decide) (fun c_15 => ?_) (fun c_15 => ?_)
              · have hf := mm_in hf c_15
                refine lv_bipush (v := -12) hx hb dX8_taken_59 (by decide) ?_
                obtain rfl := mm_inj1 hf
                exact mm_iret C0 hP hD hS dX8_taken_61
              · have hf := mm_ip hf c_15
                refine lv_aload_n hx hb dX8_taken_44 rfl (lv_at hl 1 rfl) ?_
                refine mm_get C0 hP iw_X8 0 rfl rfl 7 (by decide) fl_X8_57 rfl dX8_taken_45 ?_
                refine lv_aload_n hx hb dX8_taken_48 rfl (lv_at hl 0 rfl) ?_
                refine mm_get C0 hP iw_X6 89 rfl rfl 1 (by decide) fl_X8_312 rfl dX8_taken_49 ?_
                refine lv_iload_n hx hb dX8_taken_52 rfl (lv_at hl 3 rfl) ?_
                obtain ⟨r_16, hc_17, hf⟩ := mm_bd1s hf
                refine mm_callW (q0 := 83) (ci := 1) (w2 := (wd_X8 cI cL cS cH a v_hasImage v_now_rows v_now_cols v_now_high v_now_wide v_now_folds v_now_wrong v_now_more v_now_rowOf v_now_colOf v_now_below v_now_face v_now_worn v_now_last v_now_bend v_now_tall v_kept_rows v_kept_cols v_kept_high v_kept_wide v_kept_folds v_kept_wrong v_kept_more v_kept_rowOf v_kept_colOf v_kept_below v_kept_face v_kept_worn v_kept_last v_kept_bend v_kept_tall v_wearing_size v_wearing_stepCount v_wearing_draftCount v_wearing_place v_wearing_fault v_wearing_stacked v_wearing_tape v_wearing_steps v_wearing_draft v_wearing_stack v_planned_size v_planned_trial_rows v_planned_trial_cols v_planned_trial_high v_planned_trial_wide v_planned_trial_folds v_planned_trial_wrong v_planned_trial_more v_planned_trial_rowOf v_planned_trial_colOf v_planned_trial_below v_planned_trial_face v_planned_trial_worn v_planned_trial_last v_planned_trial_bend v_planned_trial_tall v_planned_lines v_planned_ways v_search_found v_search_wrong v_search_more v_search_folds v_search_wanted v_search_levels0_rows v_search_levels0_cols v_search_levels0_high v_search_levels0_wide v_search_levels0_folds v_search_levels0_wrong v_search_levels0_more v_search_levels0_rowOf v_search_levels0_colOf v_search_levels0_below v_search_levels0_face v_search_levels0_worn v_search_levels0_last v_search_levels0_bend v_search_levels0_tall v_search_levels1_rows v_search_levels1_cols v_search_levels1_high v_search_levels1_wide v_search_levels1_folds v_search_levels1_wrong v_search_levels1_more v_search_levels1_rowOf v_search_levels1_colOf v_search_levels1_below v_search_levels1_face v_search_levels1_worn v_search_levels1_last v_search_levels1_bend v_search_levels1_tall v_search_levels2_rows v_search_levels2_cols v_search_levels2_high v_search_levels2_wide v_search_levels2_folds v_search_levels2_wrong v_search_levels2_more v_search_levels2_rowOf v_search_levels2_colOf v_search_levels2_below v_search_levels2_face v_search_levels2_worn v_search_levels2_last v_search_levels2_bend v_search_levels2_tall v_search_levels3_rows v_search_levels3_cols v_search_levels3_high v_search_levels3_wide v_search_levels3_folds v_search_levels3_wrong v_search_levels3_more v_search_levels3_rowOf v_search_levels3_colOf v_search_levels3_below v_search_levels3_face v_search_levels3_worn v_search_levels3_last v_search_levels3_bend v_search_levels3_tall v_search_path v_search_best v_strip_list v_strip_found v_strip_at v_changes_value v_changes_done v_changes_size v_changes_before v_changes_after v_foldings_size v_foldings_ran v_foldings_number v_foldings_kinds v_foldings_trace v_shelves0_holds v_shelves0_body v_shelves0_sort v_shelves0_size v_shelves0_items v_shelves1_holds v_shelves1_body v_shelves1_sort v_shelves1_size v_shelves1_items v_shelves2_holds v_shelves2_body v_shelves2_sort v_shelves2_size v_shelves2_items v_shelves3_holds v_shelves3_body v_shelves3_sort v_shelves3_size v_shelves3_items v_shelves4_holds v_shelves4_body v_shelves4_sort v_shelves4_size v_shelves4_items v_shelves5_holds v_shelves5_body v_shelves5_sort v_shelves5_size v_shelves5_items)) (rest := []) C0 lk_X8_315 (ctX1_isUnder (a := (fun k => a (k + 83))) (d := d - 1) (by omega) hc_17) (by omega) rfl hl.1 rfl (mm_cat rfl) dX8_taken_53 hP hD hA hS rfl rfl [false, false, false, false, false, false, false, false, false, false, false, false, false, false, false, false, false, false, false, false, false, false, false, false, false, false, false, false, false, false, false, false, false, false, false, false, false, false, false, false, false, false, false, false, false, false, false, false, false, false, false, false, false, false, false, false, false, false, false, false, false, false, false, false, false, false, false, false, false, false, false, false, false, false, false, false, false, false, false, false, false, false, false, true, true, true, false, false, false, false, false, false, false, false, false, false, false, false, false] rfl rfl rfl rfl (fun H locs hP hD hS => ?_)
                refine W.eq (g2 := F0 m 56 ls [.int (mm_b r_16)]) rfl ?_
                refine lv_if_ne (tgt := 62) hx hb dX8_taken_56 (by decide) (fun c_18 => ?_) (fun c_18 => ?_)
                · have hf := mm_in hf (mm_b1 c_18)
                  refine lv_aload_n hx hb dX8_taken_62 rfl (lv_at hl 1 rfl) ?_
                  refine mm_get C0 hP iw_X8 0 rfl rfl 7 (by decide) fl_X8_57 rfl dX8_taken_63 ?_
                  refine mm_get C0 hP iw_X1 83 rfl rfl 2 (by decide) fl_X8_318 rfl dX8_taken_66 ?_
                  refine lv_aload_n hx hb dX8_taken_69 rfl (lv_at hl 0 rfl) ?_
                  refine mm_get C0 hP iw_X6 89 rfl rfl 1 (by decide) fl_X8_312 rfl dX8_taken_70 ?_
                  obtain ⟨h_19, hf⟩ := mm_cks hf
                  refine mm_iald C0 hP 84 rfl h_19 dX8_taken_73 ?_
                  obtain rfl := mm_inj1 hf
                  exact mm_iret C0 hP hD hS dX8_taken_74
                · have hf := mm_ip hf (mm_b0 c_18)
                  refine lv_bipush (v := -12) hx hb dX8_taken_59 (by decide) ?_
                  obtain rfl := mm_inj1 hf
                  exact mm_iret C0 hP hD hS dX8_taken_61
            · have hf := mm_ip hf c_14
              refine lv_bipush (v := -11) hx hb dX8_taken_33 (by decide) ?_
              obtain rfl := mm_inj1 hf
              exact mm_iret C0 hP hD hS dX8_taken_35
          · have hf := mm_in hf c_13
            by_cases c_20 : x1 = (2 : Int32)
            · have hf := mm_ip hf c_20
              refine mm_aald 3 rfl C0 hP 86 rfl (b := a 91) (by rw [c_20]; rfl) (by rw [c_20]; rfl) dX8_taken_24 ?_
              refine lv_astore_n (lv' := [(3, .ref (a 91)), (0, .ref (a 0)), (1, .int x1), (2, .int x2)]) hx hb dX8_taken_25 rfl hl (by decide) rfl (fun ls hl => ?_)
              refine lv_aload_n hx hb dX8_taken_26 rfl (lv_at hl 0 rfl) ?_
              refine mm_get C0 hP iw_X6 91 rfl rfl 0 (by decide) fl_X8_168 rfl dX8_taken_27 ?_
              refine lv_if_ne (tgt := 36) hx hb dX8_taken_30 (by decide) (fun c_21 => ?_) (fun c_21 => ?_)
              · have hf := mm_in hf c_21
                refine lv_aload_n hx hb dX8_taken_36 rfl (lv_at hl 0 rfl) ?_
                refine mm_get C0 hP iw_X6 91 rfl rfl 0 (by decide) fl_X8_168 rfl dX8_taken_37 ?_
                refine lv_iconst (v := 1) hx hb dX8_taken_40 (by decide) ?_
                refine lv_icmp_ne (tgt := 59) hx hb dX8_taken_41 (by decide) (fun c_22 => ?_) (fun c_22 => ?_)
                · have hf := mm_in hf c_22
                  refine lv_bipush (v := -12) hx hb dX8_taken_59 (by decide) ?_
                  obtain rfl := mm_inj1 hf
                  exact mm_iret C0 hP hD hS dX8_taken_61
                · have hf := mm_ip hf c_22
                  refine lv_aload_n hx hb dX8_taken_44 rfl (lv_at hl 1 rfl) ?_
                  refine mm_get C0 hP iw_X8 0 rfl rfl 7 (by decide) fl_X8_57 rfl dX8_taken_45 ?_
                  refine lv_aload_n hx hb dX8_taken_48 rfl (lv_at hl 0 rfl) ?_
                  refine mm_get C0 hP iw_X6 91 rfl rfl 1 (by decide) fl_X8_312 rfl dX8_taken_49 ?_
                  refine lv_iload_n hx hb dX8_taken_52 rfl (lv_at hl 3 rfl) ?_
                  obtain ⟨r_23, hc_24, hf⟩ := mm_bd1s hf
                  refine mm_callW (q0 := 83) (ci := 1) (w2 := (wd_X8 cI cL cS cH a v_hasImage v_now_rows v_now_cols v_now_high v_now_wide v_now_folds v_now_wrong v_now_more v_now_rowOf v_now_colOf v_now_below v_now_face v_now_worn v_now_last v_now_bend v_now_tall v_kept_rows v_kept_cols v_kept_high v_kept_wide v_kept_folds v_kept_wrong v_kept_more v_kept_rowOf v_kept_colOf v_kept_below v_kept_face v_kept_worn v_kept_last v_kept_bend v_kept_tall v_wearing_size v_wearing_stepCount v_wearing_draftCount v_wearing_place v_wearing_fault v_wearing_stacked v_wearing_tape v_wearing_steps v_wearing_draft v_wearing_stack v_planned_size v_planned_trial_rows v_planned_trial_cols v_planned_trial_high v_planned_trial_wide v_planned_trial_folds v_planned_trial_wrong v_planned_trial_more v_planned_trial_rowOf v_planned_trial_colOf v_planned_trial_below v_planned_trial_face v_planned_trial_worn v_planned_trial_last v_planned_trial_bend v_planned_trial_tall v_planned_lines v_planned_ways v_search_found v_search_wrong v_search_more v_search_folds v_search_wanted v_search_levels0_rows v_search_levels0_cols v_search_levels0_high v_search_levels0_wide v_search_levels0_folds v_search_levels0_wrong v_search_levels0_more v_search_levels0_rowOf v_search_levels0_colOf v_search_levels0_below v_search_levels0_face v_search_levels0_worn v_search_levels0_last v_search_levels0_bend v_search_levels0_tall v_search_levels1_rows v_search_levels1_cols v_search_levels1_high v_search_levels1_wide v_search_levels1_folds v_search_levels1_wrong v_search_levels1_more v_search_levels1_rowOf v_search_levels1_colOf v_search_levels1_below v_search_levels1_face v_search_levels1_worn v_search_levels1_last v_search_levels1_bend v_search_levels1_tall v_search_levels2_rows v_search_levels2_cols v_search_levels2_high v_search_levels2_wide v_search_levels2_folds v_search_levels2_wrong v_search_levels2_more v_search_levels2_rowOf v_search_levels2_colOf v_search_levels2_below v_search_levels2_face v_search_levels2_worn v_search_levels2_last v_search_levels2_bend v_search_levels2_tall v_search_levels3_rows v_search_levels3_cols v_search_levels3_high v_search_levels3_wide v_search_levels3_folds v_search_levels3_wrong v_search_levels3_more v_search_levels3_rowOf v_search_levels3_colOf v_search_levels3_below v_search_levels3_face v_search_levels3_worn v_search_levels3_last v_search_levels3_bend v_search_levels3_tall v_search_path v_search_best v_strip_list v_strip_found v_strip_at v_changes_value v_changes_done v_changes_size v_changes_before v_changes_after v_foldings_size v_foldings_ran v_foldings_number v_foldings_kinds v_foldings_trace v_shelves0_holds v_shelves0_body v_shelves0_sort v_shelves0_size v_shelves0_items v_shelves1_holds v_shelves1_body v_shelves1_sort v_shelves1_size v_shelves1_items v_shelves2_holds v_shelves2_body v_shelves2_sort v_shelves2_size v_shelves2_items v_shelves3_holds v_shelves3_body v_shelves3_sort v_shelves3_size v_shelves3_items v_shelves4_holds v_shelves4_body v_shelves4_sort v_shelves4_size v_shelves4_items v_shelves5_holds v_shelves5_body v_shelves5_sort v_shelves5_size v_shelves5_items)) (rest := []) C0 lk_X8_315 (ctX1_isUnder (a := (fun k => a (k + 83))) (d := d - 1) (by omega) hc_24) (by omega) rfl hl.1 rfl (mm_cat rfl) dX8_taken_53 hP hD hA hS rfl rfl [false, false, false, false, false, false, false, false, false, false, false, false, false, false, false, false, false, false, false, false, false, false, false, false, false, false, false, false, false, false, false, false, false, false, false, false, false, false, false, false, false, false, false, false, false, false, false, false, false, false, false, false, false, false, false, false, false, false, false, false, false, false, false, false, false, false, false, false, false, false, false, false, false, false, false, false, false, false, false, false, false, false, false, true, true, true, false, false, false, false, false, false, false, false, false, false, false, false, false] rfl rfl rfl rfl (fun H locs hP hD hS => ?_)
                  refine W.eq (g2 := F0 m 56 ls [.int (mm_b r_23)]) rfl ?_
                  refine lv_if_ne (tgt := 62) hx hb dX8_taken_56 (by decide) (fun c_25 => ?_) (fun c_25 => ?_)
                  · have hf := mm_in hf (mm_b1 c_25)
                    refine lv_aload_n hx hb dX8_taken_62 rfl (lv_at hl 1 rfl) ?_
                    refine mm_get C0 hP iw_X8 0 rfl rfl 7 (by decide) fl_X8_57 rfl dX8_taken_63 ?_
                    refine mm_get C0 hP iw_X1 83 rfl rfl 2 (by decide) fl_X8_318 rfl dX8_taken_66 ?_
                    refine lv_aload_n hx hb dX8_taken_69 rfl (lv_at hl 0 rfl) ?_
                    refine mm_get C0 hP iw_X6 91 rfl rfl 1 (by decide) fl_X8_312 rfl dX8_taken_70 ?_
                    obtain ⟨h_26, hf⟩ := mm_cks hf
                    refine mm_iald C0 hP 84 rfl h_26 dX8_taken_73 ?_
                    obtain rfl := mm_inj1 hf
                    exact mm_iret C0 hP hD hS dX8_taken_74
                  · have hf := mm_ip hf (mm_b0 c_25)
                    refine lv_bipush (v := -12) hx hb dX8_taken_59 (by decide) ?_
                    obtain rfl := mm_inj1 hf
                    exact mm_iret C0 hP hD hS dX8_taken_61
              · have hf := mm_ip hf c_21
                refine lv_bipush (v := -11) hx hb dX8_taken_33 (by decide) ?_
                obtain rfl := mm_inj1 hf
                exact mm_iret C0 hP hD hS dX8_taken_35
            · have hf := mm_in hf c_20
              by_cases c_27 : x1 = (3 : Int32)
              · have hf := mm_ip hf c_27
                refine mm_aald 3 rfl C0 hP 86 rfl (b := a 93) (by rw [c_27]; rfl) (by rw [c_27]; rfl) dX8_taken_24 ?_
                refine lv_astore_n (lv' := [(3, .ref (a 93)), (0, .ref (a 0)), (1, .int x1), (2, .int x2)]) hx hb dX8_taken_25 rfl hl (by decide) rfl (fun ls hl => ?_)
                refine lv_aload_n hx hb dX8_taken_26 rfl (lv_at hl 0 rfl) ?_
                refine mm_get C0 hP iw_X6 93 rfl rfl 0 (by decide) fl_X8_168 rfl dX8_taken_27 ?_
                refine lv_if_ne (tgt := 36) hx hb dX8_taken_30 (by decide) (fun c_28 => ?_) (fun c_28 => ?_)
                · have hf := mm_in hf c_28
                  refine lv_aload_n hx hb dX8_taken_36 rfl (lv_at hl 0 rfl) ?_
                  refine mm_get C0 hP iw_X6 93 rfl rfl 0 (by decide) fl_X8_168 rfl dX8_taken_37 ?_
                  refine lv_iconst (v := 1) hx hb dX8_taken_40 (by decide) ?_
                  refine lv_icmp_ne (tgt := 59) hx hb dX8_taken_41 (by decide) (fun c_29 => ?_) (fun c_29 => ?_)
                  · have hf := mm_in hf c_29
                    refine lv_bipush (v := -12) hx hb dX8_taken_59 (by decide) ?_
                    obtain rfl := mm_inj1 hf
                    exact mm_iret C0 hP hD hS dX8_taken_61
                  · have hf := mm_ip hf c_29
                    refine lv_aload_n hx hb dX8_taken_44 rfl (lv_at hl 1 rfl) ?_
                    refine mm_get C0 hP iw_X8 0 rfl rfl 7 (by decide) fl_X8_57 rfl dX8_taken_45 ?_
                    refine lv_aload_n hx hb dX8_taken_48 rfl (lv_at hl 0 rfl) ?_
                    refine mm_get C0 hP iw_X6 93 rfl rfl 1 (by decide) fl_X8_312 rfl dX8_taken_49 ?_
                    refine lv_iload_n hx hb dX8_taken_52 rfl (lv_at hl 3 rfl) ?_
                    obtain ⟨r_30, hc_31, hf⟩ := mm_bd1s hf
                    refine mm_callW (q0 := 83) (ci := 1) (w2 := (wd_X8 cI cL cS cH a v_hasImage v_now_rows v_now_cols v_now_high v_now_wide v_now_folds v_now_wrong v_now_more v_now_rowOf v_now_colOf v_now_below v_now_face v_now_worn v_now_last v_now_bend v_now_tall v_kept_rows v_kept_cols v_kept_high v_kept_wide v_kept_folds v_kept_wrong v_kept_more v_kept_rowOf v_kept_colOf v_kept_below v_kept_face v_kept_worn v_kept_last v_kept_bend v_kept_tall v_wearing_size v_wearing_stepCount v_wearing_draftCount v_wearing_place v_wearing_fault v_wearing_stacked v_wearing_tape v_wearing_steps v_wearing_draft v_wearing_stack v_planned_size v_planned_trial_rows v_planned_trial_cols v_planned_trial_high v_planned_trial_wide v_planned_trial_folds v_planned_trial_wrong v_planned_trial_more v_planned_trial_rowOf v_planned_trial_colOf v_planned_trial_below v_planned_trial_face v_planned_trial_worn v_planned_trial_last v_planned_trial_bend v_planned_trial_tall v_planned_lines v_planned_ways v_search_found v_search_wrong v_search_more v_search_folds v_search_wanted v_search_levels0_rows v_search_levels0_cols v_search_levels0_high v_search_levels0_wide v_search_levels0_folds v_search_levels0_wrong v_search_levels0_more v_search_levels0_rowOf v_search_levels0_colOf v_search_levels0_below v_search_levels0_face v_search_levels0_worn v_search_levels0_last v_search_levels0_bend v_search_levels0_tall v_search_levels1_rows v_search_levels1_cols v_search_levels1_high v_search_levels1_wide v_search_levels1_folds v_search_levels1_wrong v_search_levels1_more v_search_levels1_rowOf v_search_levels1_colOf v_search_levels1_below v_search_levels1_face v_search_levels1_worn v_search_levels1_last v_search_levels1_bend v_search_levels1_tall v_search_levels2_rows v_search_levels2_cols v_search_levels2_high v_search_levels2_wide v_search_levels2_folds v_search_levels2_wrong v_search_levels2_more v_search_levels2_rowOf v_search_levels2_colOf v_search_levels2_below v_search_levels2_face v_search_levels2_worn v_search_levels2_last v_search_levels2_bend v_search_levels2_tall v_search_levels3_rows v_search_levels3_cols v_search_levels3_high v_search_levels3_wide v_search_levels3_folds v_search_levels3_wrong v_search_levels3_more v_search_levels3_rowOf v_search_levels3_colOf v_search_levels3_below v_search_levels3_face v_search_levels3_worn v_search_levels3_last v_search_levels3_bend v_search_levels3_tall v_search_path v_search_best v_strip_list v_strip_found v_strip_at v_changes_value v_changes_done v_changes_size v_changes_before v_changes_after v_foldings_size v_foldings_ran v_foldings_number v_foldings_kinds v_foldings_trace v_shelves0_holds v_shelves0_body v_shelves0_sort v_shelves0_size v_shelves0_items v_shelves1_holds v_shelves1_body v_shelves1_sort v_shelves1_size v_shelves1_items v_shelves2_holds v_shelves2_body v_shelves2_sort v_shelves2_size v_shelves2_items v_shelves3_holds v_shelves3_body v_shelves3_sort v_shelves3_size v_shelves3_items v_shelves4_holds v_shelves4_body v_shelves4_sort v_shelves4_size v_shelves4_items v_shelves5_holds v_shelves5_body v_shelves5_sort v_shelves5_size v_shelves5_items)) (rest := []) C0 lk_X8_315 (ctX1_isUnder (a := (fun k => a (k + 83))) (d := d - 1) (by omega) hc_31) (by omega) rfl hl.1 rfl (mm_cat rfl) dX8_taken_53 hP hD hA hS rfl rfl [false, false, false, false, false, false, false, false, false, false, false, false, false, false, false, false, false, false, false, false, false, false, false, false, false, false, false, false, false, false, false, false, false, false, false, false, false, false, false, false, false, false, false, false, false, false, false, false, false, false, false, false, false, false, false, false, false, false, false, false, false, false, false, false, false, false, false, false, false, false, false, false, false, false, false, false, false, false, false, false, false, false, false, true, true, true, false, false, false, false, false, false, false, false, false, false, false, false, false] rfl rfl rfl rfl (fun H locs hP hD hS => ?_)
                    refine W.eq (g2 := F0 m 56 ls [.int (mm_b r_30)]) rfl ?_
                    refine lv_if_ne (tgt := 62) hx hb dX8_taken_56 (by decide) (fun c_32 => ?_) (fun c_32 => ?_)
                    · have hf := mm_in hf (mm_b1 c_32)
                      refine lv_aload_n hx hb dX8_taken_62 rfl (lv_at hl 1 rfl) ?_
                      refine mm_get C0 hP iw_X8 0 rfl rfl 7 (by decide) fl_X8_57 rfl dX8_taken_63 ?_
                      refine mm_get C0 hP iw_X1 83 rfl rfl 2 (by decide) fl_X8_318 rfl dX8_taken_66 ?_
                      refine lv_aload_n hx hb dX8_taken_69 rfl (lv_at hl 0 rfl) ?_
                      refine mm_get C0 hP iw_X6 93 rfl rfl 1 (by decide) fl_X8_312 rfl dX8_taken_70 ?_
                      obtain ⟨h_33, hf⟩ := mm_cks hf
                      refine mm_iald C0 hP 84 rfl h_33 dX8_taken_73 ?_
                      obtain rfl := mm_inj1 hf
                      exact mm_iret C0 hP hD hS dX8_taken_74
                    · have hf := mm_ip hf (mm_b0 c_32)
                      refine lv_bipush (v := -12) hx hb dX8_taken_59 (by decide) ?_
                      obtain rfl := mm_inj1 hf
                      exact mm_iret C0 hP hD hS dX8_taken_61
                · have hf := mm_ip hf c_28
                  refine lv_bipush (v := -11) hx hb dX8_taken_33 (by decide) ?_
                  obtain rfl := mm_inj1 hf
                  exact mm_iret C0 hP hD hS dX8_taken_35
              · have hf := mm_in hf c_27
                by_cases c_34 : x1 = (4 : Int32)
                · have hf := mm_ip hf c_34
                  refine mm_aald 3 rfl C0 hP 86 rfl (b := a 95) (by rw [c_34]; rfl) (by rw [c_34]; rfl) dX8_taken_24 ?_
                  refine lv_astore_n (lv' := [(3, .ref (a 95)), (0, .ref (a 0)), (1, .int x1), (2, .int x2)]) hx hb dX8_taken_25 rfl hl (by decide) rfl (fun ls hl => ?_)
                  refine lv_aload_n hx hb dX8_taken_26 rfl (lv_at hl 0 rfl) ?_
                  refine mm_get C0 hP iw_X6 95 rfl rfl 0 (by decide) fl_X8_168 rfl dX8_taken_27 ?_
                  refine lv_if_ne (tgt := 36) hx hb dX8_taken_30 (by decide) (fun c_35 => ?_) (fun c_35 => ?_)
                  · have hf := mm_in hf c_35
                    refine lv_aload_n hx hb dX8_taken_36 rfl (lv_at hl 0 rfl) ?_
                    refine mm_get C0 hP iw_X6 95 rfl rfl 0 (by decide) fl_X8_168 rfl dX8_taken_37 ?_
                    refine lv_iconst (v := 1) hx hb dX8_taken_40 (by decide) ?_
                    refine lv_icmp_ne (tgt := 59) hx hb dX8_taken_41 (by decide) (fun c_36 => ?_) (fun c_36 => ?_)
                    · have hf := mm_in hf c_36
                      refine lv_bipush (v := -12) hx hb dX8_taken_59 (by decide) ?_
                      obtain rfl := mm_inj1 hf
                      exact mm_iret C0 hP hD hS dX8_taken_61
                    · have hf := mm_ip hf c_36
                      refine lv_aload_n hx hb dX8_taken_44 rfl (lv_at hl 1 rfl) ?_
                      refine mm_get C0 hP iw_X8 0 rfl rfl 7 (by decide) fl_X8_57 rfl dX8_taken_45 ?_
                      refine lv_aload_n hx hb dX8_taken_48 rfl (lv_at hl 0 rfl) ?_
                      refine mm_get C0 hP iw_X6 95 rfl rfl 1 (by decide) fl_X8_312 rfl dX8_taken_49 ?_
                      refine lv_iload_n hx hb dX8_taken_52 rfl (lv_at hl 3 rfl) ?_
                      obtain ⟨r_37, hc_38, hf⟩ := mm_bd1s hf
                      refine mm_callW (q0 := 83) (ci := 1) (w2 := (wd_X8 cI cL cS cH a v_hasImage v_now_rows v_now_cols v_now_high v_now_wide v_now_folds v_now_wrong v_now_more v_now_rowOf v_now_colOf v_now_below v_now_face v_now_worn v_now_last v_now_bend v_now_tall v_kept_rows v_kept_cols v_kept_high v_kept_wide v_kept_folds v_kept_wrong v_kept_more v_kept_rowOf v_kept_colOf v_kept_below v_kept_face v_kept_worn v_kept_last v_kept_bend v_kept_tall v_wearing_size v_wearing_stepCount v_wearing_draftCount v_wearing_place v_wearing_fault v_wearing_stacked v_wearing_tape v_wearing_steps v_wearing_draft v_wearing_stack v_planned_size v_planned_trial_rows v_planned_trial_cols v_planned_trial_high v_planned_trial_wide v_planned_trial_folds v_planned_trial_wrong v_planned_trial_more v_planned_trial_rowOf v_planned_trial_colOf v_planned_trial_below v_planned_trial_face v_planned_trial_worn v_planned_trial_last v_planned_trial_bend v_planned_trial_tall v_planned_lines v_planned_ways v_search_found v_search_wrong v_search_more v_search_folds v_search_wanted v_search_levels0_rows v_search_levels0_cols v_search_levels0_high v_search_levels0_wide v_search_levels0_folds v_search_levels0_wrong v_search_levels0_more v_search_levels0_rowOf v_search_levels0_colOf v_search_levels0_below v_search_levels0_face v_search_levels0_worn v_search_levels0_last v_search_levels0_bend v_search_levels0_tall v_search_levels1_rows v_search_levels1_cols v_search_levels1_high v_search_levels1_wide v_search_levels1_folds v_search_levels1_wrong v_search_levels1_more v_search_levels1_rowOf v_search_levels1_colOf v_search_levels1_below v_search_levels1_face v_search_levels1_worn v_search_levels1_last v_search_levels1_bend v_search_levels1_tall v_search_levels2_rows v_search_levels2_cols v_search_levels2_high v_search_levels2_wide v_search_levels2_folds v_search_levels2_wrong v_search_levels2_more v_search_levels2_rowOf v_search_levels2_colOf v_search_levels2_below v_search_levels2_face v_search_levels2_worn v_search_levels2_last v_search_levels2_bend v_search_levels2_tall v_search_levels3_rows v_search_levels3_cols v_search_levels3_high v_search_levels3_wide v_search_levels3_folds v_search_levels3_wrong v_search_levels3_more v_search_levels3_rowOf v_search_levels3_colOf v_search_levels3_below v_search_levels3_face v_search_levels3_worn v_search_levels3_last v_search_levels3_bend v_search_levels3_tall v_search_path v_search_best v_strip_list v_strip_found v_strip_at v_changes_value v_changes_done v_changes_size v_changes_before v_changes_after v_foldings_size v_foldings_ran v_foldings_number v_foldings_kinds v_foldings_trace v_shelves0_holds v_shelves0_body v_shelves0_sort v_shelves0_size v_shelves0_items v_shelves1_holds v_shelves1_body v_shelves1_sort v_shelves1_size v_shelves1_items v_shelves2_holds v_shelves2_body v_shelves2_sort v_shelves2_size v_shelves2_items v_shelves3_holds v_shelves3_body v_shelves3_sort v_shelves3_size v_shelves3_items v_shelves4_holds v_shelves4_body v_shelves4_sort v_shelves4_size v_shelves4_items v_shelves5_holds v_shelves5_body v_shelves5_sort v_shelves5_size v_shelves5_items)) (rest := []) C0 lk_X8_315 (ctX1_isUnder (a := (fun k => a (k + 83))) (d := d - 1) (by omega) hc_38) (by omega) rfl hl.1 rfl (mm_cat rfl) dX8_taken_53 hP hD hA hS rfl rfl [false, false, false, false, false, false, false, false, false, false, false, false, false, false, false, false, false, false, false, false, false, false, false, false, false, false, false, false, false, false, false, false, false, false, false, false, false, false, false, false, false, false, false, false, false, false, false, false, false, false, false, false, false, false, false, false, false, false, false, false, false, false, false, false, false, false, false, false, false, false, false, false, false, false, false, false, false, false, false, false, false, false, false, true, true, true, false, false, false, false, false, false, false, false, false, false, false, false, false] rfl rfl rfl rfl (fun H locs hP hD hS => ?_)
                      refine W.eq (g2 := F0 m 56 ls [.int (mm_b r_37)]) rfl ?_
                      refine lv_if_ne (tgt := 62) hx hb dX8_taken_56 (by decide) (fun c_39 => ?_) (fun c_39 => ?_)
                      · have hf := mm_in hf (mm_b1 c_39)
                        refine lv_aload_n hx hb dX8_taken_62 rfl (lv_at hl 1 rfl) ?_
                        refine mm_get C0 hP iw_X8 0 rfl rfl 7 (by decide) fl_X8_57 rfl dX8_taken_63 ?_
                        refine mm_get C0 hP iw_X1 83 rfl rfl 2 (by decide) fl_X8_318 rfl dX8_taken_66 ?_
                        refine lv_aload_n hx hb dX8_taken_69 rfl (lv_at hl 0 rfl) ?_
                        refine mm_get C0 hP iw_X6 95 rfl rfl 1 (by decide) fl_X8_312 rfl dX8_taken_70 ?_
                        obtain ⟨h_40, hf⟩ := mm_cks hf
                        refine mm_iald C0 hP 84 rfl h_40 dX8_taken_73 ?_
                        obtain rfl := mm_inj1 hf
                        exact mm_iret C0 hP hD hS dX8_taken_74
                      · have hf := mm_ip hf (mm_b0 c_39)
                        refine lv_bipush (v := -12) hx hb dX8_taken_59 (by decide) ?_
                        obtain rfl := mm_inj1 hf
                        exact mm_iret C0 hP hD hS dX8_taken_61
                  · have hf := mm_ip hf c_35
                    refine lv_bipush (v := -11) hx hb dX8_taken_33 (by decide) ?_
                    obtain rfl := mm_inj1 hf
                    exact mm_iret C0 hP hD hS dX8_taken_35
                · have hf := mm_in hf c_34
                  by_cases c_41 : x1 = (5 : Int32)
                  · have hf := mm_ip hf c_41
                    refine mm_aald 3 rfl C0 hP 86 rfl (b := a 97) (by rw [c_41]; rfl) (by rw [c_41]; rfl) dX8_taken_24 ?_
                    refine lv_astore_n (lv' := [(3, .ref (a 97)), (0, .ref (a 0)), (1, .int x1), (2, .int x2)]) hx hb dX8_taken_25 rfl hl (by decide) rfl (fun ls hl => ?_)
                    refine lv_aload_n hx hb dX8_taken_26 rfl (lv_at hl 0 rfl) ?_
                    refine mm_get C0 hP iw_X6 97 rfl rfl 0 (by decide) fl_X8_168 rfl dX8_taken_27 ?_
                    refine lv_if_ne (tgt := 36) hx hb dX8_taken_30 (by decide) (fun c_42 => ?_) (fun c_42 => ?_)
                    · have hf := mm_in hf c_42
                      refine lv_aload_n hx hb dX8_taken_36 rfl (lv_at hl 0 rfl) ?_
                      refine mm_get C0 hP iw_X6 97 rfl rfl 0 (by decide) fl_X8_168 rfl dX8_taken_37 ?_
                      refine lv_iconst (v := 1) hx hb dX8_taken_40 (by decide) ?_
                      refine lv_icmp_ne (tgt := 59) hx hb dX8_taken_41 (by decide) (fun c_43 => ?_) (fun c_43 => ?_)
                      · have hf := mm_in hf c_43
                        refine lv_bipush (v := -12) hx hb dX8_taken_59 (by decide) ?_
                        obtain rfl := mm_inj1 hf
                        exact mm_iret C0 hP hD hS dX8_taken_61
                      · have hf := mm_ip hf c_43
                        refine lv_aload_n hx hb dX8_taken_44 rfl (lv_at hl 1 rfl) ?_
                        refine mm_get C0 hP iw_X8 0 rfl rfl 7 (by decide) fl_X8_57 rfl dX8_taken_45 ?_
                        refine lv_aload_n hx hb dX8_taken_48 rfl (lv_at hl 0 rfl) ?_
                        refine mm_get C0 hP iw_X6 97 rfl rfl 1 (by decide) fl_X8_312 rfl dX8_taken_49 ?_
                        refine lv_iload_n hx hb dX8_taken_52 rfl (lv_at hl 3 rfl) ?_
                        obtain ⟨r_44, hc_45, hf⟩ := mm_bd1s hf
                        refine mm_callW (q0 := 83) (ci := 1) (w2 := (wd_X8 cI cL cS cH a v_hasImage v_now_rows v_now_cols v_now_high v_now_wide v_now_folds v_now_wrong v_now_more v_now_rowOf v_now_colOf v_now_below v_now_face v_now_worn v_now_last v_now_bend v_now_tall v_kept_rows v_kept_cols v_kept_high v_kept_wide v_kept_folds v_kept_wrong v_kept_more v_kept_rowOf v_kept_colOf v_kept_below v_kept_face v_kept_worn v_kept_last v_kept_bend v_kept_tall v_wearing_size v_wearing_stepCount v_wearing_draftCount v_wearing_place v_wearing_fault v_wearing_stacked v_wearing_tape v_wearing_steps v_wearing_draft v_wearing_stack v_planned_size v_planned_trial_rows v_planned_trial_cols v_planned_trial_high v_planned_trial_wide v_planned_trial_folds v_planned_trial_wrong v_planned_trial_more v_planned_trial_rowOf v_planned_trial_colOf v_planned_trial_below v_planned_trial_face v_planned_trial_worn v_planned_trial_last v_planned_trial_bend v_planned_trial_tall v_planned_lines v_planned_ways v_search_found v_search_wrong v_search_more v_search_folds v_search_wanted v_search_levels0_rows v_search_levels0_cols v_search_levels0_high v_search_levels0_wide v_search_levels0_folds v_search_levels0_wrong v_search_levels0_more v_search_levels0_rowOf v_search_levels0_colOf v_search_levels0_below v_search_levels0_face v_search_levels0_worn v_search_levels0_last v_search_levels0_bend v_search_levels0_tall v_search_levels1_rows v_search_levels1_cols v_search_levels1_high v_search_levels1_wide v_search_levels1_folds v_search_levels1_wrong v_search_levels1_more v_search_levels1_rowOf v_search_levels1_colOf v_search_levels1_below v_search_levels1_face v_search_levels1_worn v_search_levels1_last v_search_levels1_bend v_search_levels1_tall v_search_levels2_rows v_search_levels2_cols v_search_levels2_high v_search_levels2_wide v_search_levels2_folds v_search_levels2_wrong v_search_levels2_more v_search_levels2_rowOf v_search_levels2_colOf v_search_levels2_below v_search_levels2_face v_search_levels2_worn v_search_levels2_last v_search_levels2_bend v_search_levels2_tall v_search_levels3_rows v_search_levels3_cols v_search_levels3_high v_search_levels3_wide v_search_levels3_folds v_search_levels3_wrong v_search_levels3_more v_search_levels3_rowOf v_search_levels3_colOf v_search_levels3_below v_search_levels3_face v_search_levels3_worn v_search_levels3_last v_search_levels3_bend v_search_levels3_tall v_search_path v_search_best v_strip_list v_strip_found v_strip_at v_changes_value v_changes_done v_changes_size v_changes_before v_changes_after v_foldings_size v_foldings_ran v_foldings_number v_foldings_kinds v_foldings_trace v_shelves0_holds v_shelves0_body v_shelves0_sort v_shelves0_size v_shelves0_items v_shelves1_holds v_shelves1_body v_shelves1_sort v_shelves1_size v_shelves1_items v_shelves2_holds v_shelves2_body v_shelves2_sort v_shelves2_size v_shelves2_items v_shelves3_holds v_shelves3_body v_shelves3_sort v_shelves3_size v_shelves3_items v_shelves4_holds v_shelves4_body v_shelves4_sort v_shelves4_size v_shelves4_items v_shelves5_holds v_shelves5_body v_shelves5_sort v_shelves5_size v_shelves5_items)) (rest := []) C0 lk_X8_315 (ctX1_isUnder (a := (fun k => a (k + 83))) (d := d - 1) (by omega) hc_45) (by omega) rfl hl.1 rfl (mm_cat rfl) dX8_taken_53 hP hD hA hS rfl rfl [false, false, false, false, false, false, false, false, false, false, false, false, false, false, false, false, false, false, false, false, false, false, false, false, false, false, false, false, false, false, false, false, false, false, false, false, false, false, false, false, false, false, false, false, false, false, false, false, false, false, false, false, false, false, false, false, false, false, false, false, false, false, false, false, false, false, false, false, false, false, false, false, false, false, false, false, false, false, false, false, false, false, false, true, true, true, false, false, false, false, false, false, false, false, false, false, false, false, false] rfl rfl rfl rfl (fun H locs hP hD hS => ?_)
                        refine W.eq (g2 := F0 m 56 ls [.int (mm_b r_44)]) rfl ?_
                        refine lv_if_ne (tgt := 62) hx hb dX8_taken_56 (by decide) (fun c_46 => ?_) (fun c_46 => ?_)
                        · have hf := mm_in hf (mm_b1 c_46)
                          refine lv_aload_n hx hb dX8_taken_62 rfl (lv_at hl 1 rfl) ?_
                          refine mm_get C0 hP iw_X8 0 rfl rfl 7 (by decide) fl_X8_57 rfl dX8_taken_63 ?_
                          refine mm_get C0 hP iw_X1 83 rfl rfl 2 (by decide) fl_X8_318 rfl dX8_taken_66 ?_
                          refine lv_aload_n hx hb dX8_taken_69 rfl (lv_at hl 0 rfl) ?_
                          refine mm_get C0 hP iw_X6 97 rfl rfl 1 (by decide) fl_X8_312 rfl dX8_taken_70 ?_
                          obtain ⟨h_47, hf⟩ := mm_cks hf
                          refine mm_iald C0 hP 84 rfl h_47 dX8_taken_73 ?_
                          obtain rfl := mm_inj1 hf
                          exact mm_iret C0 hP hD hS dX8_taken_74
                        · have hf := mm_ip hf (mm_b0 c_46)
                          refine lv_bipush (v := -12) hx hb dX8_taken_59 (by decide) ?_
                          obtain rfl := mm_inj1 hf
                          exact mm_iret C0 hP hD hS dX8_taken_61
                    · have hf := mm_ip hf c_42
                      refine lv_bipush (v := -11) hx hb dX8_taken_33 (by decide) ?_
                      obtain rfl := mm_inj1 hf
                      exact mm_iret C0 hP hD hS dX8_taken_35
                  · have hf := mm_in hf c_41
                    cases hf
      · have hf := mm_in hf c_5
        refine lv_iconst (v := -1) hx hb dX8_taken_17 (by decide) ?_
        obtain rfl := mm_inj1 hf
        exact mm_iret C0 hP hD hS dX8_taken_18

theorem dX8_count_1 : decode cX8_count 1 = .ok (.tableswitch 87 0 5 #[39, 47, 55, 63, 71, 79], 39) := by decide +kernel
theorem nb_dX8_count_0 : bls_w cX8_count [(0, [27]), (40, [42]), (41, [180, 0, 10]), (44, [182, 0, 200]), (47, [172]), (48, [42]), (49, [180, 0, 29]), (52, [180, 0, 157]), (55, [172]), (56, [42]), (57, [180, 0, 22]), (60, [180, 0, 90])] := bls_of (by decide +kernel)
theorem dX8_count_0 : decode cX8_count 0 = .ok (.iload_n 1, 1) := op_27 nb_dX8_count_0.1
theorem dX8_count_40 : decode cX8_count 40 = .ok (.aload_n 0, 1) := op_42 nb_dX8_count_0.2.1
set_option maxRecDepth 100000 in
theorem dX8_count_41 : decode cX8_count 41 = .ok (.getfield 10, 3) := (op_180 nb_dX8_count_0.2.2.1).trans rfl
set_option maxRecDepth 100000 in
theorem dX8_count_44 : decode cX8_count 44 = .ok (.invokevirtual 200, 3) := (op_182 nb_dX8_count_0.2.2.2.1).trans rfl
theorem dX8_count_47 : decode cX8_count 47 = .ok (.ireturn, 1) := op_172 nb_dX8_count_0.2.2.2.2.1
theorem dX8_count_48 : decode cX8_count 48 = .ok (.aload_n 0, 1) := op_42 nb_dX8_count_0.2.2.2.2.2.1
set_option maxRecDepth 100000 in
theorem dX8_count_49 : decode cX8_count 49 = .ok (.getfield 29, 3) := (op_180 nb_dX8_count_0.2.2.2.2.2.2.1).trans rfl
set_option maxRecDepth 100000 in
theorem dX8_count_52 : decode cX8_count 52 = .ok (.getfield 157, 3) := (op_180 nb_dX8_count_0.2.2.2.2.2.2.2.1).trans rfl
theorem dX8_count_55 : decode cX8_count 55 = .ok (.ireturn, 1) := op_172 nb_dX8_count_0.2.2.2.2.2.2.2.2.1
theorem dX8_count_56 : decode cX8_count 56 = .ok (.aload_n 0, 1) := op_42 nb_dX8_count_0.2.2.2.2.2.2.2.2.2.1
set_option maxRecDepth 100000 in
theorem dX8_count_57 : decode cX8_count 57 = .ok (.getfield 22, 3) := (op_180 nb_dX8_count_0.2.2.2.2.2.2.2.2.2.2.1).trans rfl
set_option maxRecDepth 100000 in
theorem dX8_count_60 : decode cX8_count 60 = .ok (.getfield 90, 3) := (op_180 nb_dX8_count_0.2.2.2.2.2.2.2.2.2.2.2.1).trans rfl
theorem nb_dX8_count_63 : bls_w cX8_count [(63, [172]), (64, [42]), (65, [180, 0, 50]), (68, [180, 1, 3]), (71, [172]), (72, [42]), (73, [180, 0, 57]), (76, [180, 1, 16]), (79, [172]), (80, [42]), (81, [180, 0, 57]), (84, [180, 1, 65])] := bls_of (by decide +kernel)
theorem dX8_count_63 : decode cX8_count 63 = .ok (.ireturn, 1) := op_172 nb_dX8_count_63.1
theorem dX8_count_64 : decode cX8_count 64 = .ok (.aload_n 0, 1) := op_42 nb_dX8_count_63.2.1
set_option maxRecDepth 100000 in
theorem dX8_count_65 : decode cX8_count 65 = .ok (.getfield 50, 3) := (op_180 nb_dX8_count_63.2.2.1).trans rfl
set_option maxRecDepth 100000 in
theorem dX8_count_68 : decode cX8_count 68 = .ok (.getfield 259, 3) := (op_180 nb_dX8_count_63.2.2.2.1).trans rfl
theorem dX8_count_71 : decode cX8_count 71 = .ok (.ireturn, 1) := op_172 nb_dX8_count_63.2.2.2.2.1
theorem dX8_count_72 : decode cX8_count 72 = .ok (.aload_n 0, 1) := op_42 nb_dX8_count_63.2.2.2.2.2.1
set_option maxRecDepth 100000 in
theorem dX8_count_73 : decode cX8_count 73 = .ok (.getfield 57, 3) := (op_180 nb_dX8_count_63.2.2.2.2.2.2.1).trans rfl
set_option maxRecDepth 100000 in
theorem dX8_count_76 : decode cX8_count 76 = .ok (.getfield 272, 3) := (op_180 nb_dX8_count_63.2.2.2.2.2.2.2.1).trans rfl
theorem dX8_count_79 : decode cX8_count 79 = .ok (.ireturn, 1) := op_172 nb_dX8_count_63.2.2.2.2.2.2.2.2.1
theorem dX8_count_80 : decode cX8_count 80 = .ok (.aload_n 0, 1) := op_42 nb_dX8_count_63.2.2.2.2.2.2.2.2.2.1
set_option maxRecDepth 100000 in
theorem dX8_count_81 : decode cX8_count 81 = .ok (.getfield 57, 3) := (op_180 nb_dX8_count_63.2.2.2.2.2.2.2.2.2.2.1).trans rfl
set_option maxRecDepth 100000 in
theorem dX8_count_84 : decode cX8_count 84 = .ok (.getfield 321, 3) := (op_180 nb_dX8_count_63.2.2.2.2.2.2.2.2.2.2.2.1).trans rfl
theorem nb_dX8_count_87 : bls_w cX8_count [(87, [172]), (88, [2]), (89, [172])] := bls_of (by decide +kernel)
theorem dX8_count_87 : decode cX8_count 87 = .ok (.ireturn, 1) := op_172 nb_dX8_count_87.1
theorem dX8_count_88 : decode cX8_count 88 = .ok (.iconst (-1), 1) := op_2 nb_dX8_count_87.2.1
theorem dX8_count_89 : decode cX8_count 89 = .ok (.ireturn, 1) := op_172 nb_dX8_count_87.2.2.1
def fX8_count (N : Nat) (x1 : Int32) (v_now_rows : Int32) (v_now_cols : Int32) (v_wearing_size : Int32) (v_planned_size : Int32) (v_changes_done : Int32) (v_foldings_size : Int32) (v_foldings_ran : Int32) : Option (Int32) :=
    if x1 = (0 : Int32) then
    (mm_bd1 (fX5_fields N v_now_rows v_now_cols) (fun (r_2 : Int32) =>
    some (r_2)))
    else (if x1 = (1 : Int32) then
    (some (v_planned_size))
    else (if x1 = (2 : Int32) then
    (some (v_wearing_size))
    else (if x1 = (3 : Int32) then
    (some (v_changes_done))
    else (if x1 = (4 : Int32) then
    (some (v_foldings_size))
    else (if x1 = (5 : Int32) then
    (some (v_foldings_ran))
    else (some ((-1 : Int32))))))))

set_option maxHeartbeats 4000000 in
set_option maxRecDepth 100000 in
theorem ctX8_count {l : Launch} {D : va_G} {cI cL cS cH : ClassId} {a : Nat → Nat} {x1 : Int32} {v_hasImage : Bool} {v_now_rows : Int32} {v_now_cols : Int32} {v_now_high : Int32} {v_now_wide : Int32} {v_now_folds : Int32} {v_now_wrong : Int32} {v_now_more : Int32} {v_now_rowOf : List Int32} {v_now_colOf : List Int32} {v_now_below : List Int32} {v_now_face : List Int32} {v_now_worn : List Int32} {v_now_last : List Int32} {v_now_bend : List Int32} {v_now_tall : List Int32} {v_kept_rows : Int32} {v_kept_cols : Int32} {v_kept_high : Int32} {v_kept_wide : Int32} {v_kept_folds : Int32} {v_kept_wrong : Int32} {v_kept_more : Int32} {v_kept_rowOf : List Int32} {v_kept_colOf : List Int32} {v_kept_below : List Int32} {v_kept_face : List Int32} {v_kept_worn : List Int32} {v_kept_last : List Int32} {v_kept_bend : List Int32} {v_kept_tall : List Int32} {v_wearing_size : Int32} {v_wearing_stepCount : Int32} {v_wearing_draftCount : Int32} {v_wearing_place : Int32} {v_wearing_fault : Int32} {v_wearing_stacked : Int32} {v_wearing_tape : List Int32} {v_wearing_steps : List Int32} {v_wearing_draft : List Int32} {v_wearing_stack : List Int32} {v_planned_size : Int32} {v_planned_trial_rows : Int32} {v_planned_trial_cols : Int32} {v_planned_trial_high : Int32} {v_planned_trial_wide : Int32} {v_planned_trial_folds : Int32} {v_planned_trial_wrong : Int32} {v_planned_trial_more : Int32} {v_planned_trial_rowOf : List Int32} {v_planned_trial_colOf : List Int32} {v_planned_trial_below : List Int32} {v_planned_trial_face : List Int32} {v_planned_trial_worn : List Int32} {v_planned_trial_last : List Int32} {v_planned_trial_bend : List Int32} {v_planned_trial_tall : List Int32} {v_planned_lines : List Int32} {v_planned_ways : List Int32} {v_search_found : Bool} {v_search_wrong : Int32} {v_search_more : Int32} {v_search_folds : Int32} {v_search_wanted : Int32} {v_search_levels0_rows : Int32} {v_search_levels0_cols : Int32} {v_search_levels0_high : Int32} {v_search_levels0_wide : Int32} {v_search_levels0_folds : Int32} {v_search_levels0_wrong : Int32} {v_search_levels0_more : Int32} {v_search_levels0_rowOf : List Int32} {v_search_levels0_colOf : List Int32} {v_search_levels0_below : List Int32} {v_search_levels0_face : List Int32} {v_search_levels0_worn : List Int32} {v_search_levels0_last : List Int32} {v_search_levels0_bend : List Int32} {v_search_levels0_tall : List Int32} {v_search_levels1_rows : Int32} {v_search_levels1_cols : Int32} {v_search_levels1_high : Int32} {v_search_levels1_wide : Int32} {v_search_levels1_folds : Int32} {v_search_levels1_wrong : Int32} {v_search_levels1_more : Int32} {v_search_levels1_rowOf : List Int32} {v_search_levels1_colOf : List Int32} {v_search_levels1_below : List Int32} {v_search_levels1_face : List Int32} {v_search_levels1_worn : List Int32} {v_search_levels1_last : List Int32} {v_search_levels1_bend : List Int32} {v_search_levels1_tall : List Int32} {v_search_levels2_rows : Int32} {v_search_levels2_cols : Int32} {v_search_levels2_high : Int32} {v_search_levels2_wide : Int32} {v_search_levels2_folds : Int32} {v_search_levels2_wrong : Int32} {v_search_levels2_more : Int32} {v_search_levels2_rowOf : List Int32} {v_search_levels2_colOf : List Int32} {v_search_levels2_below : List Int32} {v_search_levels2_face : List Int32} {v_search_levels2_worn : List Int32} {v_search_levels2_last : List Int32} {v_search_levels2_bend : List Int32} {v_search_levels2_tall : List Int32} {v_search_levels3_rows : Int32} {v_search_levels3_cols : Int32} {v_search_levels3_high : Int32} {v_search_levels3_wide : Int32} {v_search_levels3_folds : Int32} {v_search_levels3_wrong : Int32} {v_search_levels3_more : Int32} {v_search_levels3_rowOf : List Int32} {v_search_levels3_colOf : List Int32} {v_search_levels3_below : List Int32} {v_search_levels3_face : List Int32} {v_search_levels3_worn : List Int32} {v_search_levels3_last : List Int32} {v_search_levels3_bend : List Int32} {v_search_levels3_tall : List Int32} {v_search_path : List Int32} {v_search_best : List Int32} {v_strip_list : List Int32} {v_strip_found : List Int32} {v_strip_at : List Int32} {v_changes_value : Int32} {v_changes_done : Int32} {v_changes_size : Int32} {v_changes_before : List Int32} {v_changes_after : List Int32} {v_foldings_size : Int32} {v_foldings_ran : Int32} {v_foldings_number : Int32} {v_foldings_kinds : List Int32} {v_foldings_trace : List Int32} {v_shelves0_holds : Int32} {v_shelves0_body : Int32} {v_shelves0_sort : Int32} {v_shelves0_size : Int32} {v_shelves0_items : List Int64} {v_shelves1_holds : Int32} {v_shelves1_body : Int32} {v_shelves1_sort : Int32} {v_shelves1_size : Int32} {v_shelves1_items : List Int64} {v_shelves2_holds : Int32} {v_shelves2_body : Int32} {v_shelves2_sort : Int32} {v_shelves2_size : Int32} {v_shelves2_items : List Int64} {v_shelves3_holds : Int32} {v_shelves3_body : Int32} {v_shelves3_sort : Int32} {v_shelves3_size : Int32} {v_shelves3_items : List Int64} {v_shelves4_holds : Int32} {v_shelves4_body : Int32} {v_shelves4_sort : Int32} {v_shelves4_size : Int32} {v_shelves4_items : List Int64} {v_shelves5_holds : Int32} {v_shelves5_body : Int32} {v_shelves5_sort : Int32} {v_shelves5_size : Int32} {v_shelves5_items : List Int64} {r : Int32} {N d : Nat} (hd : 2 ≤ d) (hf : fX8_count N x1 v_now_rows v_now_cols v_wearing_size v_planned_size v_changes_done v_foldings_size v_foldings_ran = some r) : mm_Ct l yX8_count cX8_count 2 (some .int) d D (mm_T cI cL cS cH) [.ref (a 0), .int x1] (wd_X8 cI cL cS cH a v_hasImage v_now_rows v_now_cols v_now_high v_now_wide v_now_folds v_now_wrong v_now_more v_now_rowOf v_now_colOf v_now_below v_now_face v_now_worn v_now_last v_now_bend v_now_tall v_kept_rows v_kept_cols v_kept_high v_kept_wide v_kept_folds v_kept_wrong v_kept_more v_kept_rowOf v_kept_colOf v_kept_below v_kept_face v_kept_worn v_kept_last v_kept_bend v_kept_tall v_wearing_size v_wearing_stepCount v_wearing_draftCount v_wearing_place v_wearing_fault v_wearing_stacked v_wearing_tape v_wearing_steps v_wearing_draft v_wearing_stack v_planned_size v_planned_trial_rows v_planned_trial_cols v_planned_trial_high v_planned_trial_wide v_planned_trial_folds v_planned_trial_wrong v_planned_trial_more v_planned_trial_rowOf v_planned_trial_colOf v_planned_trial_below v_planned_trial_face v_planned_trial_worn v_planned_trial_last v_planned_trial_bend v_planned_trial_tall v_planned_lines v_planned_ways v_search_found v_search_wrong v_search_more v_search_folds v_search_wanted v_search_levels0_rows v_search_levels0_cols v_search_levels0_high v_search_levels0_wide v_search_levels0_folds v_search_levels0_wrong v_search_levels0_more v_search_levels0_rowOf v_search_levels0_colOf v_search_levels0_below v_search_levels0_face v_search_levels0_worn v_search_levels0_last v_search_levels0_bend v_search_levels0_tall v_search_levels1_rows v_search_levels1_cols v_search_levels1_high v_search_levels1_wide v_search_levels1_folds v_search_levels1_wrong v_search_levels1_more v_search_levels1_rowOf v_search_levels1_colOf v_search_levels1_below v_search_levels1_face v_search_levels1_worn v_search_levels1_last v_search_levels1_bend v_search_levels1_tall v_search_levels2_rows v_search_levels2_cols v_search_levels2_high v_search_levels2_wide v_search_levels2_folds v_search_levels2_wrong v_search_levels2_more v_search_levels2_rowOf v_search_levels2_colOf v_search_levels2_below v_search_levels2_face v_search_levels2_worn v_search_levels2_last v_search_levels2_bend v_search_levels2_tall v_search_levels3_rows v_search_levels3_cols v_search_levels3_high v_search_levels3_wide v_search_levels3_folds v_search_levels3_wrong v_search_levels3_more v_search_levels3_rowOf v_search_levels3_colOf v_search_levels3_below v_search_levels3_face v_search_levels3_worn v_search_levels3_last v_search_levels3_bend v_search_levels3_tall v_search_path v_search_best v_strip_list v_strip_found v_strip_at v_changes_value v_changes_done v_changes_size v_changes_before v_changes_after v_foldings_size v_foldings_ran v_foldings_number v_foldings_kinds v_foldings_trace v_shelves0_holds v_shelves0_body v_shelves0_sort v_shelves0_size v_shelves0_items v_shelves1_holds v_shelves1_body v_shelves1_sort v_shelves1_size v_shelves1_items v_shelves2_holds v_shelves2_body v_shelves2_sort v_shelves2_size v_shelves2_items v_shelves3_holds v_shelves3_body v_shelves3_sort v_shelves3_size v_shelves3_items v_shelves4_holds v_shelves4_body v_shelves4_sort v_shelves4_size v_shelves4_items v_shelves5_holds v_shelves5_body v_shelves5_sort v_shelves5_size v_shelves5_items) (wd_X8 cI cL cS cH a v_hasImage v_now_rows v_now_cols v_now_high v_now_wide v_now_folds v_now_wrong v_now_more v_now_rowOf v_now_colOf v_now_below v_now_face v_now_worn v_now_last v_now_bend v_now_tall v_kept_rows v_kept_cols v_kept_high v_kept_wide v_kept_folds v_kept_wrong v_kept_more v_kept_rowOf v_kept_colOf v_kept_below v_kept_face v_kept_worn v_kept_last v_kept_bend v_kept_tall v_wearing_size v_wearing_stepCount v_wearing_draftCount v_wearing_place v_wearing_fault v_wearing_stacked v_wearing_tape v_wearing_steps v_wearing_draft v_wearing_stack v_planned_size v_planned_trial_rows v_planned_trial_cols v_planned_trial_high v_planned_trial_wide v_planned_trial_folds v_planned_trial_wrong v_planned_trial_more v_planned_trial_rowOf v_planned_trial_colOf v_planned_trial_below v_planned_trial_face v_planned_trial_worn v_planned_trial_last v_planned_trial_bend v_planned_trial_tall v_planned_lines v_planned_ways v_search_found v_search_wrong v_search_more v_search_folds v_search_wanted v_search_levels0_rows v_search_levels0_cols v_search_levels0_high v_search_levels0_wide v_search_levels0_folds v_search_levels0_wrong v_search_levels0_more v_search_levels0_rowOf v_search_levels0_colOf v_search_levels0_below v_search_levels0_face v_search_levels0_worn v_search_levels0_last v_search_levels0_bend v_search_levels0_tall v_search_levels1_rows v_search_levels1_cols v_search_levels1_high v_search_levels1_wide v_search_levels1_folds v_search_levels1_wrong v_search_levels1_more v_search_levels1_rowOf v_search_levels1_colOf v_search_levels1_below v_search_levels1_face v_search_levels1_worn v_search_levels1_last v_search_levels1_bend v_search_levels1_tall v_search_levels2_rows v_search_levels2_cols v_search_levels2_high v_search_levels2_wide v_search_levels2_folds v_search_levels2_wrong v_search_levels2_more v_search_levels2_rowOf v_search_levels2_colOf v_search_levels2_below v_search_levels2_face v_search_levels2_worn v_search_levels2_last v_search_levels2_bend v_search_levels2_tall v_search_levels3_rows v_search_levels3_cols v_search_levels3_high v_search_levels3_wide v_search_levels3_folds v_search_levels3_wrong v_search_levels3_more v_search_levels3_rowOf v_search_levels3_colOf v_search_levels3_below v_search_levels3_face v_search_levels3_worn v_search_levels3_last v_search_levels3_bend v_search_levels3_tall v_search_path v_search_best v_strip_list v_strip_found v_strip_at v_changes_value v_changes_done v_changes_size v_changes_before v_changes_after v_foldings_size v_foldings_ran v_foldings_number v_foldings_kinds v_foldings_trace v_shelves0_holds v_shelves0_body v_shelves0_sort v_shelves0_size v_shelves0_items v_shelves1_holds v_shelves1_body v_shelves1_sort v_shelves1_size v_shelves1_items v_shelves2_holds v_shelves2_body v_shelves2_sort v_shelves2_size v_shelves2_items v_shelves3_holds v_shelves3_body v_shelves3_sort v_shelves3_size v_shelves3_items v_shelves4_holds v_shelves4_body v_shelves4_sort v_shelves4_size v_shelves4_items v_shelves5_holds v_shelves5_body v_shelves5_sort v_shelves5_size v_shelves5_items) (some (.int r)) := by
  refine mm_of (by decide) (Nat.le_of_ble_eq_true rfl) ?_
  intro p e s m args below meth c A H locs ls C0 hP hD hA hS hl
  have C0 : mm_Cx p s m args meth c RX8 cX8_count 2 (some .int) D (mm_T cI cL cS cH) A := C0
  obtain ⟨hx, hb, hml, hown, hts, hr, hlocks, hK, hSt⟩ := id C0
  have hl : lv_has ls 2 [(0, .ref (a 0)), (1, .int x1)] := hl
  unfold fX8_count at hf
  refine lv_iload_n hx hb dX8_count_0 rfl (lv_at hl 1 rfl) ?_
  by_cases c_1 : x1 = (0 : Int32)
  · have hf := mm_ip hf c_1
    refine lv_tableIn (off := 39) (tgt := 40) hx hb dX8_count_1 (by rw [c_1]; decide) (by rw [c_1]; decide) (by rw [c_1]; first | done | rfl) (by decide) ?_
    refine lv_aload_n hx hb dX8_count_40 rfl (lv_at hl 0 rfl) ?_
    refine mm_get C0 hP iw_X8 0 rfl rfl 0 (by decide) fl_X8_10 rfl dX8_count_41 ?_
    obtain ⟨r_2, hc_3, hf⟩ := mm_bd1s hf
    refine mm_callW (q0 := 1) (ci := 5) (w2 := (wd_X8 cI cL cS cH a v_hasImage v_now_rows v_now_cols v_now_high v_now_wide v_now_folds v_now_wrong v_now_more v_now_rowOf v_now_colOf v_now_below v_now_face v_now_worn v_now_last v_now_bend v_now_tall v_kept_rows v_kept_cols v_kept_high v_kept_wide v_kept_folds v_kept_wrong v_kept_more v_kept_rowOf v_kept_colOf v_kept_below v_kept_face v_kept_worn v_kept_last v_kept_bend v_kept_tall v_wearing_size v_wearing_stepCount v_wearing_draftCount v_wearing_place v_wearing_fault v_wearing_stacked v_wearing_tape v_wearing_steps v_wearing_draft v_wearing_stack v_planned_size v_planned_trial_rows v_planned_trial_cols v_planned_trial_high v_planned_trial_wide v_planned_trial_folds v_planned_trial_wrong v_planned_trial_more v_planned_trial_rowOf v_planned_trial_colOf v_planned_trial_below v_planned_trial_face v_planned_trial_worn v_planned_trial_last v_planned_trial_bend v_planned_trial_tall v_planned_lines v_planned_ways v_search_found v_search_wrong v_search_more v_search_folds v_search_wanted v_search_levels0_rows v_search_levels0_cols v_search_levels0_high v_search_levels0_wide v_search_levels0_folds v_search_levels0_wrong v_search_levels0_more v_search_levels0_rowOf v_search_levels0_colOf v_search_levels0_below v_search_levels0_face v_search_levels0_worn v_search_levels0_last v_search_levels0_bend v_search_levels0_tall v_search_levels1_rows v_search_levels1_cols v_search_levels1_high v_search_levels1_wide v_search_levels1_folds v_search_levels1_wrong v_search_levels1_more v_search_levels1_rowOf v_search_levels1_colOf v_search_levels1_below v_search_levels1_face v_search_levels1_worn v_search_levels1_last v_search_levels1_bend v_search_levels1_tall v_search_levels2_rows v_search_levels2_cols v_search_levels2_high v_search_levels2_wide v_search_levels2_folds v_search_levels2_wrong v_search_levels2_more v_search_levels2_rowOf v_search_levels2_colOf v_search_levels2_below v_search_levels2_face v_search_levels2_worn v_search_levels2_last v_search_levels2_bend v_search_levels2_tall v_search_levels3_rows v_search_levels3_cols v_search_levels3_high v_search_levels3_wide v_search_levels3_folds v_search_levels3_wrong v_search_levels3_more v_search_levels3_rowOf v_search_levels3_colOf v_search_levels3_below v_search_levels3_face v_search_levels3_worn v_search_levels3_last v_search_levels3_bend v_search_levels3_tall v_search_path v_search_best v_strip_list v_strip_found v_strip_at v_changes_value v_changes_done v_changes_size v_changes_before v_changes_after v_foldings_size v_foldings_ran v_foldings_number v_foldings_kinds v_foldings_trace v_shelves0_holds v_shelves0_body v_shelves0_sort v_shelves0_size v_shelves0_items v_shelves1_holds v_shelves1_body v_shelves1_sort v_shelves1_size v_shelves1_items v_shelves2_holds v_shelves2_body v_shelves2_sort v_shelves2_size v_shelves2_items v_shelves3_holds v_shelves3_body v_shelves3_sort v_shelves3_size v_shelves3_items v_shelves4_holds v_shelves4_body v_shelves4_sort v_shelves4_size v_shelves4_items v_shelves5_holds v_shelves5_body v_shelves5_sort v_shelves5_size v_shelves5_items)) (rest := []) C0 lk_X8_200 (ctX5_fields (a := (fun k => a (k + 1))) (d := d - 1) (by omega) hc_3) (by omega) rfl hl.1 rfl (mm_cat rfl) dX8_count_44 hP hD hA hS rfl rfl [false, true, true, true, true, true, true, true, true, true, false, false, false, false, false, false, false, false, false, false, false, false, false, false, false, false, false, false, false, false, false, false, false, false, false, false, false, false, false, false, false, false, false, false, false, false, false, false, false, false, false, false, false, false, false, false, false, false, false, false, false, false, false, false, false, false, false, false, false, false, false, false, false, false, false, false, false, false, false, false, false, false, false, false, false, false, false, false, false, false, false, false, false, false, false, false, false, false, false] rfl rfl rfl rfl (fun H locs hP hD hS => ?_)
    refine W.eq (g2 := F0 m 47 ls [.int r_2]) rfl ?_
    obtain rfl := mm_inj1 hf
    exact mm_iret C0 hP hD hS dX8_count_47
  · have hf := mm_in hf c_1
    by_cases c_4 : x1 = (1 : Int32)
    · have hf := mm_ip hf c_4
      refine lv_tableIn (off := 47) (tgt := 48) hx hb dX8_count_1 (by rw [c_4]; decide) (by rw [c_4]; decide) (by rw [c_4]; first | done | rfl) (by decide) ?_
      refine lv_aload_n hx hb dX8_count_48 rfl (lv_at hl 0 rfl) ?_
      refine mm_get C0 hP iw_X8 0 rfl rfl 3 (by decide) fl_X8_29 rfl dX8_count_49 ?_
      refine mm_get C0 hP iw_X3 24 rfl rfl 0 (by decide) fl_X8_157 rfl dX8_count_52 ?_
      obtain rfl := mm_inj1 hf
      exact mm_iret C0 hP hD hS dX8_count_55
    · have hf := mm_in hf c_4
      by_cases c_5 : x1 = (2 : Int32)
      · have hf := mm_ip hf c_5
        refine lv_tableIn (off := 55) (tgt := 56) hx hb dX8_count_1 (by rw [c_5]; decide) (by rw [c_5]; decide) (by rw [c_5]; first | done | rfl) (by decide) ?_
        refine lv_aload_n hx hb dX8_count_56 rfl (lv_at hl 0 rfl) ?_
        refine mm_get C0 hP iw_X8 0 rfl rfl 2 (by decide) fl_X8_22 rfl dX8_count_57 ?_
        refine mm_get C0 hP iw_X2 19 rfl rfl 0 (by decide) fl_X8_90 rfl dX8_count_60 ?_
        obtain rfl := mm_inj1 hf
        exact mm_iret C0 hP hD hS dX8_count_63
      · have hf := mm_in hf c_5
        by_cases c_6 : x1 = (3 : Int32)
        · have hf := mm_ip hf c_6
          refine lv_tableIn (off := 63) (tgt := 64) hx hb dX8_count_1 (by rw [c_6]; decide) (by rw [c_6]; decide) (by rw [c_6]; first | done | rfl) (by decide) ?_
          refine lv_aload_n hx hb dX8_count_64 rfl (lv_at hl 0 rfl) ?_
          refine mm_get C0 hP iw_X8 0 rfl rfl 6 (by decide) fl_X8_50 rfl dX8_count_65 ?_
          refine mm_get C0 hP iw_X0 80 rfl rfl 1 (by decide) fl_X8_259 rfl dX8_count_68 ?_
          obtain rfl := mm_inj1 hf
          exact mm_iret C0 hP hD hS dX8_count_71
        · have hf := mm_in hf c_6
          by_cases c_7 : x1 = (4 : Int32)
          · have hf := mm_ip hf c_7
            refine lv_tableIn (off := 71) (tgt := 72) hx hb dX8_count_1 (by rw [c_7]; decide) (by rw [c_7]; decide) (by rw [c_7]; first | done | rfl) (by decide) ?_
            refine lv_aload_n hx hb dX8_count_72 rfl (lv_at hl 0 rfl) ?_
            refine mm_get C0 hP iw_X8 0 rfl rfl 7 (by decide) fl_X8_57 rfl dX8_count_73 ?_
            refine mm_get C0 hP iw_X1 83 rfl rfl 0 (by decide) fl_X8_272 rfl dX8_count_76 ?_
            obtain rfl := mm_inj1 hf
            exact mm_iret C0 hP hD hS dX8_count_79
          · have hf := mm_in hf c_7
            by_cases c_8 : x1 = (5 : Int32)
            · have hf := mm_ip hf c_8
              refine lv_tableIn (off := 79) (tgt := 80) hx hb dX8_count_1 (by rw [c_8]; decide) (by rw [c_8]; decide) (by rw [c_8]; first | done | rfl) (by decide) ?_
              refine lv_aload_n hx hb dX8_count_80 rfl (lv_at hl 0 rfl) ?_
              refine mm_get C0 hP iw_X8 0 rfl rfl 7 (by decide) fl_X8_57 rfl dX8_count_81 ?_
              refine mm_get C0 hP iw_X1 83 rfl rfl 1 (by decide) fl_X8_321 rfl dX8_count_84 ?_
              obtain rfl := mm_inj1 hf
              exact mm_iret C0 hP hD hS dX8_count_87
            · have hf := mm_in hf c_8
              refine lv_tableOut (tgt := 88) hx hb dX8_count_1 (by have nc_1 := lv_neT c_1 (a := 0) (by decide); have nc_4 := lv_neT c_4 (a := 1) (by decide); have nc_5 := lv_neT c_5 (a := 2) (by decide); have nc_6 := lv_neT c_6 (a := 3) (by decide); have nc_7 := lv_neT c_7 (a := 4) (by decide); have nc_8 := lv_neT c_8 (a := 5) (by decide); omega) (by decide) ?_
              refine lv_iconst (v := -1) hx hb dX8_count_88 (by decide) ?_
              obtain rfl := mm_inj1 hf
              exact mm_iret C0 hP hD hS dX8_count_89
end
section
/-! Constructors: a contract that gives the whole layout at addresses of its own; the rows for it -/
def mm_rk (d mc ms : Nat) : Room := { frames := d, cells := mc, slots := ms, locals := 64 * d }
def mm_Qn (D : va_G) (wf : (Nat → Nat) → va_W) (o : Nat) (A : Nat → Prop) : Array Value → State → Outcome → State → Prop := fun _ st oc t => (oc = .returned none ∧ ∃ a : Nat → Nat, a 0 = o ∧ va_P D mm_cl (wf a) t.heap ∧ va_D A (wf a)) ∧ va_F A st t
abbrev mm_Pn (D : va_G) (tys : List (ClassId × FieldType)) (w : va_W) (sz : Nat) (U : State) : Prop := U.heap.size = sz ∧ va_P D mm_cl w U.heap ∧ va_K D mm_cl tys U ∧ va_D (fun _ => True) w ∧ mm_St (va_A w sz) U U.heap ∧ va_AO RX5 U ∧ va_AO RX6 U
def mm_Cn (l : Launch) (y : MethodName) (cc : ByteArray) (nL d mc ms : Nat) (D : va_G) (tys : List (ClassId × FieldType)) (o : Nat) (w : va_W) (wf : (Nat → Nat) → va_W) : Prop :=
  ∀ sz, Met l y (mm_ws y cc nL none) (mm_rk d mc ms) (va_Pc [.ref o] (mm_Pn D tys w sz)) (mm_Qn D wf o (va_A w sz)) mc ms (va_A w sz)
def mm_Zn (below : List Frame) (D : va_G) (A : Nat → Prop) (wf : (Nat → Nat) → va_W) (o mc ms : Nat) (args : Array Value) (s : State) : State → Prop := MQ below (mm_Qn D wf o A) args s mc ms A
theorem mm_ofn {l : Launch} {y : MethodName} {cc : ByteArray} {nL d mc ms o : Nat} {D : va_G} {tys : List (ClassId × FieldType)} {w : va_W} {wf : (Nat → Nat) → va_W} (hy : plainName y.cls = true) (hyn : y.name = "<init>") (hn : 1 ≤ nL)
    (body : ∀ (p : Program) (e : Env) (s : State) (m : MethodId) (args : Array Value) (below : List Frame) (meth : Method) (c : Code) (A : Nat → Prop) (H : Heap) (locs : List Loc) (ls : Array Slot), mm_Cx p s m args meth c y.cls cc nL none D tys A → meth.name = "<init>" → va_AO RX5 s → va_AO RX6 s → va_P D mm_cl w H → va_D A w → (∀ q, s.heap.size ≤ q → A q) → va_S A s.heap H locs → lv_has ls nL [(0, .ref o)] →
      W p l e (mm_rk d mc ms) s m args below meth c H locs 0 0 (mm_Zn below D A wf o mc ms args s) (F0 m 0 ls [])) : mm_Cn l y cc nL d mc ms D tys o w wf := by
  intro sz
  refine Met.ofW (cc := cc) (maxL := nL) (ret := none) hy rfl ?_
  intro p e s m args below meth c s₁ B hml hv
  obtain ⟨rfl, hsz, hP, hK, hD0, hSt, hO1, hO2⟩ := hv
  have hts := atoms_spec (ws := mm_ws y cc nL none) B.pre
  have hown : s.vm.findClass y.cls = some m.cls := findClass_of_methodNamed B.named
  have hin : meth.name = "<init>" := (name_of_methodNamed B.named B.method).1.trans hyn
  subst hsz
  have hl := lv_entry [.ref o] (n := nL) hn
  rw [lg_entry_eq]
  generalize (lg_sl [Value.ref o] ++ List.replicate (nL - (lg_sl [Value.ref o]).length) Slot.unset).toArray = ls at hl ⊢
  exact body p e s m _ below meth c (va_A w s.heap.size) s.heap [] ls ⟨B.exec, B.bytes, hml, hown, fun w hw => hts w (List.mem_cons_of_mem _ hw), B.returns, B.notSynchronized, hK, hSt⟩ hin hO1 hO2 hP (hD0.self) (fun q h => Or.inr h) va_S.rf hl
theorem mm_oi : Cond.instanceMethod objectInit ∈ mm_tbl := mm_tin (lw_c1 (List.mem_of_getElem? (i := 20) rfl)) rfl
theorem mm_oc : Cond.code objectInit ⟨#[0xb1]⟩ 1 none ∈ mm_tbl := mm_tin (lw_c1 (List.mem_of_getElem? (i := 21) rfl)) rfl
theorem mm_ai : Cond.arrayClass .int ∈ mm_tbl := mm_tin (lw_c1 (List.mem_of_getElem? (i := 102) rfl)) rfl
theorem mm_al : Cond.arrayClass .long ∈ mm_tbl := mm_tin (lw_c2 (List.mem_of_getElem? (i := 57) rfl)) rfl
def mm_zs (n : Nat) : List Int32 := List.replicate n 0
def mm_zl (n : Nat) : List Int64 := List.replicate n 0
theorem mm_zsd (n : Nat) : (fun j => (mm_zs n).getD j 0) = fun _ => 0 := by
  funext j
  unfold mm_zs
  rw [List.getD_eq_getElem?_getD, List.getElem?_replicate]
  by_cases h : j < n <;> simp [h]
theorem mm_zld (n : Nat) : (fun j => (mm_zl n).getD j 0) = fun _ => 0 := by
  funext j
  unfold mm_zl
  rw [List.getD_eq_getElem?_getD, List.getElem?_replicate]
  by_cases h : j < n <;> simp [h]
def mm_lo (cA : ClassId) (l : List (Option Nat)) : va_E := .inl (cA, l.length, .inr (.inr (.inr (.inr (fun j => l.getD j none)))))
theorem mm_lolr (cA : ClassId) (l : List Nat) : mm_lo cA (l.map some) = mm_lr cA l := by
  unfold mm_lo mm_lr
  rw [List.length_map]
  congr 7
  funext j
  rw [List.getD_eq_getElem?_getD, List.getElem?_map]
  cases l[j]? <;> rfl
section News
variable {p : Program} {l : Launch} {e : Env} {R : Room} {s : State} {m : MethodId} {args : Array Value} {below : List Frame} {meth : Method} {c : Code} {H : Heap} {locs : List Loc} {cells slots : Nat} {Q : State → Prop}
variable {own : String} {cc : ByteArray} {nL : Nat} {ret : Option FieldType} {D : va_G} {cI cL cS cH : ClassId} {ws : va_W} {A : Nat → Prop} {H0 : Heap}
variable {pc : Nat} {ls : Array Slot} {rest st0 : List Value} {a : Nat}
theorem mm_obj {d mc ms idx : Nat} (C0 : mm_Cx p s m args meth c own cc nL ret D (mm_T cI cL cS cH) A) (hlink : Cond.methodLink own idx objectInit ∈ mm_tbl) (hl : ls.size = nL) (hd : 1 ≤ d) (hdg : decode cc pc = .ok (.invokespecial idx, 3))
    (kk : W p l e (mm_rk d mc ms) s m args below meth c H locs cells slots Q (F0 m (pc + 3) ls [])) : W p l e (mm_rk d mc ms) s m args below meth c H locs cells slots Q (F0 m pc ls [.ref a]) := by
  obtain ⟨hx, hb, hml, hown, hts, hr, hlocks, hK, hSt⟩ := C0
  refine W.objInit hx hb hown (hts _ hlink) (hts _ mm_oi) (hts _ mm_oc) rfl (by rw [hml]; exact hl) rfl hdg hd ?_ kk
  show 2 * 0 + 0 + 12 ≤ 64 * d
  omega
theorem mm_newi (C0 : mm_Cx p s m args meth c own cc nL ret D (mm_T cI cL cS cH) A) (hP : va_P D mm_cl ws H) (hD : va_D A ws) (hA : ∀ q, s.heap.size ≤ q → A q) (hS : va_S A s.heap H locs) {n : Int32} {N : Nat} (hn : ¬ n < 0) (hN : n.toNatClampNeg = N) (hby : N * 4 ≤ 536870912) (hcells : cells + 1 ≤ R.cells) (hslots : slots + N ≤ R.slots) (hdg : decode cc pc = .ok (.newarray .int, 2))
    (kk : ∀ (q : Nat) (H1 : Heap), va_P D mm_cl (ws ++ [(q, mm_li cI (mm_zs N))]) H1 → va_D A (ws ++ [(q, mm_li cI (mm_zs N))]) → va_S A s.heap H1 locs → W p l e R s m args below meth c H1 locs (cells + 1) (slots + N) Q (F0 m (pc + 2) ls (.ref q :: rest))) : W p l e R s m args below meth c H locs cells slots Q (F0 m pc ls (.int n :: rest)) := by
  obtain ⟨hx, hb, hml, hown, hts, hr, hlocks, hK, hSt⟩ := C0
  refine va_newa (atype := .int) (ty := .int) (a0 := (N, .inl (fun _ => 0))) hx hb (hts _ mm_ai) rfl hK hP hD hS hA (fun _ => rfl) hn hN hby hcells hslots hdg ?_
  intro q cA H1 hK1 hP1 hD1 hS1
  have e1 : s.vm.findClass ("[" ++ FieldType.int.toString) = some cI := (hK.2 0 (cI, .int) rfl).2
  have e2 : s.vm.findClass ("[" ++ FieldType.int.toString) = some cA := (hK1.2 4 (cA, .int) rfl).2
  have e3 : cI = cA := Option.some.inj (e1.symm.trans e2)
  subst e3
  have e4 : mm_li cI (mm_zs N) = .inl (cI, N, .inl (fun _ => 0)) := by
    unfold mm_li
    rw [mm_zsd]
    unfold mm_zs
    rw [List.length_replicate]
  rw [e4] at kk
  exact kk q H1 hP1 hD1 hS1
theorem mm_newl (C0 : mm_Cx p s m args meth c own cc nL ret D (mm_T cI cL cS cH) A) (hP : va_P D mm_cl ws H) (hD : va_D A ws) (hA : ∀ q, s.heap.size ≤ q → A q) (hS : va_S A s.heap H locs) {n : Int32} {N : Nat} (hn : ¬ n < 0) (hN : n.toNatClampNeg = N) (hby : N * 8 ≤ 536870912) (hcells : cells + 1 ≤ R.cells) (hslots : slots + N ≤ R.slots) (hdg : decode cc pc = .ok (.newarray .long, 2))
    (kk : ∀ (q : Nat) (H1 : Heap), va_P D mm_cl (ws ++ [(q, mm_ll cL (mm_zl N))]) H1 → va_D A (ws ++ [(q, mm_ll cL (mm_zl N))]) → va_S A s.heap H1 locs → W p l e R s m args below meth c H1 locs (cells + 1) (slots + N) Q (F0 m (pc + 2) ls (.ref q :: rest))) : W p l e R s m args below meth c H locs cells slots Q (F0 m pc ls (.int n :: rest)) := by
  obtain ⟨hx, hb, hml, hown, hts, hr, hlocks, hK, hSt⟩ := C0
  refine va_newa (atype := .long) (ty := .long) (a0 := (N, .inr (.inl (fun _ => 0)))) hx hb (hts _ mm_al) rfl hK hP hD hS hA (fun _ => rfl) hn hN hby hcells hslots hdg ?_
  intro q cA H1 hK1 hP1 hD1 hS1
  have e1 : s.vm.findClass ("[" ++ FieldType.long.toString) = some cL := (hK.2 1 (cL, .long) rfl).2
  have e2 : s.vm.findClass ("[" ++ FieldType.long.toString) = some cA := (hK1.2 4 (cA, .long) rfl).2
  have e3 : cL = cA := Option.some.inj (e1.symm.trans e2)
  subst e3
  have e4 : mm_ll cL (mm_zl N) = .inl (cL, N, .inr (.inl (fun _ => 0))) := by
    unfold mm_ll
    rw [mm_zld]
    unfold mm_zl
    rw [List.length_replicate]
  rw [e4] at kk
  exact kk q H1 hP1 hD1 hS1
theorem mm_newq {cA : ClassId} {C : String} {index : Nat} (t0 : Nat) (ht : (mm_T cI cL cS cH)[t0]? = some (cA, .object C)) (C0 : mm_Cx p s m args meth c own cc nL ret D (mm_T cI cL cS cH) A) (hO : va_AO C s) (hlink : Cond.classLink own index C ∈ mm_tbl) (hP : va_P D mm_cl ws H) (hD : va_D A ws) (hA : ∀ q, s.heap.size ≤ q → A q) (hS : va_S A s.heap H locs) {n : Int32} {N : Nat} (hn : ¬ n < 0) (hN : n.toNatClampNeg = N) (hby : N * 4 ≤ 536870912) (hcells : cells + 1 ≤ R.cells) (hslots : slots + N ≤ R.slots) (hdg : decode cc pc = .ok (.anewarray index, 3))
    (kk : ∀ (q : Nat) (H1 : Heap), va_P D mm_cl (ws ++ [(q, mm_lo cA (List.replicate N none))]) H1 → va_D A (ws ++ [(q, mm_lo cA (List.replicate N none))]) → va_S A s.heap H1 locs → W p l e R s m args below meth c H1 locs (cells + 1) (slots + N) Q (F0 m (pc + 3) ls (.ref q :: rest))) : W p l e R s m args below meth c H locs cells slots Q (F0 m pc ls (.int n :: rest)) := by
  obtain ⟨hx, hb, hml, hown, hts, hr, hlocks, hK, hSt⟩ := C0
  refine va_newq hx hb hown (hts _ hlink) hO hK hP hD hS hA hn hN hby hcells hslots hdg ?_
  intro q cB H1 hK1 hP1 hD1 hS1
  obtain ⟨-, k1, g1, -, -, -, e1⟩ := hK.2 t0 (cA, .object C) ht
  obtain ⟨-, k2, g2, -, -, -, e2⟩ := hK1.2 4 (cB, .object C) rfl
  have e3 : cA = cB := Option.some.inj (e1.symm.trans e2)
  subst e3
  have e4 : mm_lo cA (List.replicate N none) = .inl (cA, N, .inr (.inr (.inr (.inr (fun _ => none))))) := by
    unfold mm_lo
    rw [List.length_replicate]
    congr 7
    funext j
    rw [List.getD_eq_getElem?_getD, List.getElem?_replicate]
    by_cases h : j < N <;> simp [h]
  rw [e4] at kk
  exact kk q H1 hP1 hD1 hS1
theorem mm_astq {cA : ClassId} {C : String} {T : u_T} {N ci : Nat} (t0 : Nat) (ht : (mm_T cI cL cS cH)[t0]? = some (cA, .object C)) (C0 : mm_Cx p s m args meth c own cc nL ret D (mm_T cI cL cS cH) A) (hP : va_P D mm_cl ws H) (hD : va_D A ws) (hS : va_S A s.heap H locs) (q0 qk : Nat) {xs : List (Option Nat)} {v : Nat} {vs : List Value} (ha : ws[q0]? = some (a, mm_lo cA xs)) (hv : ws[qk]? = some (v, .inr (ci, vs))) (hc : mm_cl[ci]? = some (C, T, N)) {i : Int32} (hin : mm_inb i xs.length = true) (hdg : decode cc pc = .ok (.aastore, 1)) {w2 : va_W} (h2 : ws.set q0 (a, mm_lo cA (xs.set i.toNatClampNeg (some v))) = w2)
    (kk : ∀ (H1 : Heap) (locs1 : List Loc), va_P D mm_cl w2 H1 → va_D A w2 → va_S A s.heap H1 locs1 → W p l e R s m args below meth c H1 locs1 cells slots Q (F0 m (pc + 1) ls rest)) : W p l e R s m args below meth c H locs cells slots Q (F0 m pc ls (.ref v :: .int i :: .ref a :: rest)) := by
  obtain ⟨hx, hb, hml, hown, hts, hr, hlocks, hK, hSt⟩ := C0
  subst h2
  have e4 : mm_lo cA (xs.set i.toNatClampNeg (some v)) = .inl (cA, xs.length, .inr (.inr (.inr (.inr (va_up (fun j => xs.getD j none) i.toNatClampNeg (some v)))))) := by
    unfold mm_lo
    rw [List.length_set, mm_setD (mm_inbs hin).2]
    rfl
  rw [e4] at kk
  exact va_astq hx hb hK hP hD hS q0 t0 qk ci ha ht hv hc (mm_inbs hin).1 hdg kk
theorem mm_newo {C : String} {T : u_T} {N ci index : Nat} (C0 : mm_Cx p s m args meth c own cc nL ret D (mm_T cI cL cS cH) A) (hP : va_P D mm_cl ws H) (hD : va_D A ws) (hA : ∀ q, s.heap.size ≤ q → A q) (hS : va_S A s.heap H locs) (hin : ∀ w ∈ u_ws C T N, w ∈ mm_tbl) (ty : Nat → FieldType) (hty : ∀ k, k < N → parseFieldDescriptor (T k).2.2.1 = some (ty k)) (hlink : Cond.classLink own index C ∈ mm_tbl) (hins : Cond.instantiable C N ∈ mm_tbl) (hini : Cond.initialized C ∈ mm_tbl) (hc : mm_cl[ci]? = some (C, T, N)) {fs : List Value} (hfs : ∀ j, j < N → defaultValue (ty j) = vp_V fs j) (hcells : cells + 1 ≤ R.cells) (hslots : slots + N ≤ R.slots) (hdg : decode cc pc = .ok (.new index, 3))
    (kk : ∀ (q : Nat) (H1 : Heap), va_P D mm_cl (ws ++ [(q, .inr (ci, fs))]) H1 → va_D A (ws ++ [(q, .inr (ci, fs))]) → va_S A s.heap H1 locs → W p l e R s m args below meth c H1 locs (cells + 1) (slots + N) Q (F0 m (pc + 3) ls (.ref q :: rest))) : W p l e R s m args below meth c H locs cells slots Q (F0 m pc ls rest) := by
  obtain ⟨hx, hb, hml, hown, hts, hr, hlocks, hK, hSt⟩ := C0
  exact va_new hx hb hts hin ty hty hown (hts _ hlink) (hts _ hins) (hts _ hini) hK hP hD hS hA hc hfs hcells hslots hdg kk
theorem mm_putf (C0 : mm_Cx p s m args meth c own cc nL ret D (mm_T cI cL cS cH) A) (hm : meth.name = "<init>") (hP : va_P D mm_cl ws H) (hD : va_D A ws) (hS : va_S A H0 H locs) {C : String} {T : u_T} {N ci index : Nat} (hin : ∀ w ∈ u_ws C T N, w ∈ mm_tbl) (ty0 : Nat → FieldType) (hty : ∀ k, k < N → parseFieldDescriptor (T k).2.2.1 = some (ty0 k)) (hnm : ∀ a, a < N → ∀ b, b < N → a ≠ b → (T a).2.1 ≠ (T b).2.1) (q0 : Nat) {fs : List Value} (he : ws[q0]? = some (a, .inr (ci, fs))) (hc : mm_cl[ci]? = some (C, T, N)) (k : Nat) (hk : k < N) (hlink : Cond.fieldLink own index (T k).1 (T k).2.1 (T k).2.2.1 ∈ mm_tbl) (hfin : (T k).2.2.2 = true) (hdecl : (T k).1 = own) {v : Value} (hn : narrow (ty0 k) v = v) (hfit : fits (ty0 k) v = true) (hl : k < fs.length) (hdg : decode cc pc = .ok (.putfield index, 3)) {w2 : va_W} (h2 : ws.set q0 (a, .inr (ci, fs.set k v)) = w2)
    (kk : ∀ (H1 : Heap) (locs1 : List Loc), va_P D mm_cl w2 H1 → va_D A w2 → va_S A H0 H1 locs1 → W p l e R s m args below meth c H1 locs1 cells slots Q (F0 m (pc + 3) ls rest)) : W p l e R s m args below meth c H locs cells slots Q (F0 m pc ls (v :: .ref a :: rest)) := by
  obtain ⟨hx, hb, -, hown, hts, -, -, hK, -⟩ := C0
  subst h2
  exact va_putF hx hb hts hin ty0 hty hnm hown hK hP hD hS q0 he hc k hk (hts _ hlink) (fun _ h => h) hfin hm hdecl (hty k hk) hn hfit hl hdg kk
/-- the end of a constructor -/
theorem mm_nret {mc ms o : Nat} {w' : va_W} {wf : (Nat → Nat) → va_W} (a : Nat → Nat) (ha : a 0 = o) (isP : List Nat) (hnP : va_nd isP = true) (h2 : isP.map (fun i => w'[i]?) = (wf a).map some) (C0 : mm_Cx p s m args meth c own cc nL none D (mm_T cI cL cS cH) A) (hP : va_P D mm_cl w' H) (hD : va_D A w') (hS : va_S A s.heap H locs) (hdg : decode cc pc = .ok (.return_, 1)) (hc1 : cells ≤ mc) (hc2 : slots ≤ ms) :
    W p l e R s m args below meth c H locs cells slots (mm_Zn below D A wf o mc ms args s) (F0 m pc ls []) := by
  obtain ⟨hx, hb, -, hown, hts, hr, hlocks, hK, -⟩ := C0
  refine W.widen (k := mc) (n := ms) hc1 hc2 ?_
  exact W.vret hx hb hr (fun t ht hW => ⟨⟨rfl, a, ha, by rw [ht]; exact hP.sub isP (mm_fm h2), hD.sub isP hnP h2⟩, hS.F ht⟩) hS.2.2 hdg hlocks
/-- a call that makes nothing, from where something was made; the callee's world is the caller's -/
theorem mm_callVn {d mc ms d' index maxL n b ci q0 N : Nat} {T : u_T} {fs As : List Value} {y : MethodName} {bytes : ByteArray} {rt : Option FieldType} {w1 : va_W} {r : Option Value} (C0 : mm_Cx p s m args meth c own cc nL ret D (mm_T cI cL cS cH) A) (L : mm_LV own index y bytes maxL rt n) (ct : mm_Ct l y bytes maxL rt d' D (mm_T cI cL cS cH) (.ref b :: As) ws w1 r) (hd : d' + 1 ≤ d) (hn : As.length = n) (hl : ls.size = nL) (hst : st0 = As.reverse ++ .ref b :: rest) (hW : (rest.map fun v => v.category).sum ≤ 8) (hdg : decode cc pc = .ok (.invokevirtual index, 3))
    (hP : va_P D mm_cl ws H) (hD : va_D A ws) (hA : ∀ q, s.heap.size ≤ q → A q) (hS : va_S A s.heap H locs) (he : ws[q0]? = some (b, .inr (ci, fs))) (hc : mm_cl[ci]? = some (y.cls, T, N)) (hc1 : cells ≤ mc) (hc2 : slots ≤ ms)
    (kk : ∀ (H1 : Heap) (locs1 : List Loc), va_P D mm_cl w1 H1 → va_D A w1 → va_S A s.heap H1 locs1 → W p l e (mm_rk d mc ms) s m args below meth c H1 locs1 cells slots Q (F0 m (pc + 3) ls (r.toList ++ rest))) : W p l e (mm_rk d mc ms) s m args below meth c H locs cells slots Q (F0 m pc ls st0) := by
  obtain ⟨hx, hb, hml, hown, hts, hr, hlocks, hK, hSt⟩ := C0
  obtain ⟨⟨l1, l2, l3, l4, l5⟩, hdd, hm⟩ := L
  subst hst
  have hF : ∀ q, va_A ws H.size q → A q := fun q h => h.elim (fun ⟨k, z, hz⟩ => hD.2 k (q, z) hz) (fun h => hA q (Nat.le_trans hS.1 h))
  have hRm : (mm_rr d').frames + 1 ≤ (mm_rk d mc ms).frames ∧ 8 + (maxL + 11) + (mm_rr d').locals ≤ (mm_rk d mc ms).locals := mm_room hd hm
  have hr := va_runV (p := p) (e := e) (below := below) (meth := meth) (locs := locs) (cells := cells) (slots := slots) (R := mm_rk d mc ms) (g := F0 m pc ls (As.reverse ++ .ref b :: rest)) (As := As) (rest := rest) (b := b) ⟨hx, hb, hml, hown, hts⟩ (ct H.size) ⟨callB_of n hts (mm_GI l5) rfl rfl rfl (hts _ l4) (hts _ l1) hdd hRm, hts _ l2, hts _ l3⟩ ⟨mm_blind, va_recv hK hP hc he, fun U hU hW => ⟨rfl, by rw [hU], by rw [hU]; exact hP, va_K.moved hW.alike hK, hD.weaken (fun _ _ _ _ => trivial), by rw [hU]; exact hSt.move hS.2.1 hW hF⟩⟩ rfl hn hl rfl (lv_room hW) hdg ⟨hc1, hc2⟩
  intro T hT X
  obtain ⟨v, st₀, t, T', L, h0, X', hL, e1, e2, ⟨⟨hv, hP1, hD1⟩, hz, hk⟩, st⟩ := hr T hT X
  cases hv
  rw [h0] at hz hk
  rw [← e1] at hP1 hz hk
  obtain ⟨t2, a1, b1⟩ := kk T'.heap (locs ++ L) hP1 (hD1.weaken (fun k q _ h => hF q.1 h))
    ⟨Nat.le_trans hS.1 hz, fun q h1 h2 => by rw [hk q (Nat.lt_of_lt_of_le h1 hS.1) (fun z => h2 (hF q z))]; exact hS.2.1 q h1 h2, fun q hq => by
      rcases List.mem_append.mp hq with h | h
      · exact hS.2.2 q h
      · exact hF _ (hL q h)⟩ T' rfl X'
  exact ⟨t2, st t2 a1, b1⟩
def mm_LI (own : String) (index : Nat) (y : MethodName) (bytes : ByteArray) (maxL : Nat) : Prop :=
  (Cond.methodLink own index y ∈ mm_tbl ∧ Cond.instanceMethod y ∈ mm_tbl ∧ Cond.initialized y.cls ∈ mm_tbl ∧ Cond.code y bytes maxL none ∈ mm_tbl) ∧ (y.cls ≠ "java/lang/invoke/MethodHandle" ∧ y.cls ≠ "java/lang/invoke/VarHandle" ∧ (parseMethodDescriptor y.desc).map (fun d => d.parameters.length) = some 0) ∧ maxL ≤ 45 ∧ y.name = "<init>"
def mm_LJ (own : String) (index : Nat) (y : MethodName) (bytes : ByteArray) (maxL : Nat) : Prop :=
  ((own, index, y, RX8) ∈ mm_nest ∧ Cond.instanceMethod y ∈ mm_tbl ∧ Cond.initialized y.cls ∈ mm_tbl ∧ Cond.code y bytes maxL none ∈ mm_tbl) ∧ (y.cls ≠ "java/lang/invoke/MethodHandle" ∧ y.cls ≠ "java/lang/invoke/VarHandle" ∧ (parseMethodDescriptor y.desc).map (fun d => d.parameters.length) = some 0) ∧ maxL ≤ 45 ∧ y.name = "<init>"
theorem mm_blindn {D : va_G} {tys : List (ClassId × FieldType)} {av : List Value} {w : va_W} {sz : Nat} : FrameBlind (va_Pc av (mm_Pn D tys w sz)) := fun a U g mk q => by
  obtain ⟨q0, q1, qP, qK, qD, qS, o1, o2⟩ := q
  exact ⟨q0, q1, qP, va_K.moved (u := U) (U := U.calling g mk a) (Vm.Alike.refl U.vm) qK, qD, qS.calls, o1.moved (U := U.calling g mk a) (Vm.Alike.refl U.vm), o2.moved (U := U.calling g mk a) (Vm.Alike.refl U.vm)⟩
/-- behind a constructor's call: the other cells, and the new layout -/
theorem mm_aftern {o mc ms : Nat} {wc : va_W} {wf : (Nat → Nat) → va_W} {a' : Array Value} (hr : va_Run p l e R s m args below meth c H locs cells slots mc ms (F0 m pc ls st0) rest (mm_Qn D wf o (va_A wc H.size) a') (va_A wc H.size)) (hP : va_P D mm_cl ws H) (hD : va_D A ws) (hA : ∀ q, s.heap.size ≤ q → A q) (hS : va_S A s.heap H locs) (isC isR : List Nat) (hC : isC.map (fun i => ws[i]?) = wc.map some) (hR : isR.map (fun i => ws[i]?) = (isR.filterMap (fun i => ws[i]?)).map some) (hn : va_nd isR = true) (hdis : ∀ i ∈ isR, i ∉ isC)
    (kk : ∀ (b : Nat → Nat) (H1 : Heap) (locs1 : List Loc), b 0 = o → va_P D mm_cl (isR.filterMap (fun i => ws[i]?) ++ wf b) H1 → va_D A (isR.filterMap (fun i => ws[i]?) ++ wf b) → va_S A s.heap H1 locs1 → W p l e R s m args below meth c H1 locs1 (cells + mc) (slots + ms) Q (F0 m (pc + 3) ls rest)) : W p l e R s m args below meth c H locs cells slots Q (F0 m pc ls st0) := by
  have hF := va_free hD hS hA isC hC
  intro T hT X
  obtain ⟨v, st₀, t, T', L, h0, X', hL, e1, e2, ⟨⟨hv, b, hb0, hP1, hD1⟩, hz, hk⟩, st⟩ := hr T hT X
  cases hv
  rw [h0] at hz hk
  rw [← e1] at hP1 hz hk
  obtain ⟨hP2, hD2⟩ := va_join hP hD isC isR hC hR hn hdis hk hF hP1 hD1
  obtain ⟨t2, a1, b1⟩ := kk b T'.heap (locs ++ L) hb0 hP2 hD2
    ⟨Nat.le_trans hS.1 hz, fun q h1 h2 => by rw [hk q (Nat.lt_of_lt_of_le h1 hS.1) (fun z => h2 (hF q z))]; exact hS.2.1 q h1 h2, fun q hq => by
      rcases List.mem_append.mp hq with h | h
      · exact hS.2.2 q h
      · exact hF _ (hL q h)⟩ T' rfl X'
  exact ⟨t2, st t2 a1, b1⟩
theorem mm_preN {tys : List (ClassId × FieldType)} {wc : va_W} {av : List Value} (hK : va_K D mm_cl tys s) (hSt : mm_St A s s.heap) (hO1 : va_AO RX5 s) (hO2 : va_AO RX6 s) (hS : va_S A s.heap H locs) (hA : ∀ q, s.heap.size ≤ q → A q) (hP : va_P D mm_cl ws H) (hD : va_D A ws) (isC : List Nat) (hnC : va_nd isC = true) (hC : isC.map (fun i => ws[i]?) = wc.map some) : ∀ U : State, U.heap = H → s.WarmedH U.vm → va_Pc av (mm_Pn D tys wc H.size) av.toArray U := fun U hU hW =>
  ⟨rfl, by rw [hU], by rw [hU]; exact hP.sub isC (mm_fm hC), va_K.moved hW.alike hK, (hD.sub isC hnC hC).weaken (fun _ _ _ _ => trivial), by rw [hU]; exact hSt.move hS.2.1 hW (va_free hD hS hA isC hC), hO1.moved hW.alike, hO2.moved hW.alike⟩
/-- a constructor is called -/
theorem mm_callI {d mcR msR d' mc ms index maxL o : Nat} {y : MethodName} {bytes : ByteArray} {wc : va_W} {wf : (Nat → Nat) → va_W} (C0 : mm_Cx p s m args meth c own cc nL ret D (mm_T cI cL cS cH) A) (hO1 : va_AO RX5 s) (hO2 : va_AO RX6 s) (L : mm_LI own index y bytes maxL) (ct : mm_Cn l y bytes maxL d' mc ms D (mm_T cI cL cS cH) o wc wf) (hd : d' + 1 ≤ d) (hR1 : R.frames = d) (hR2 : R.locals = 64 * d) (hl : ls.size = nL) (hst : st0 = .ref o :: rest) (hW : (rest.map fun v => v.category).sum ≤ 8) (hdg : decode cc pc = .ok (.invokespecial index, 3)) (hc1 : cells + mc ≤ R.cells) (hc2 : slots + ms ≤ R.slots)
    (hP : va_P D mm_cl ws H) (hD : va_D A ws) (hA : ∀ q, s.heap.size ≤ q → A q) (hS : va_S A s.heap H locs) (isC isR : List Nat) (hnC : va_nd isC = true) (hC : isC.map (fun i => ws[i]?) = wc.map some) (hR : isR.map (fun i => ws[i]?) = (isR.filterMap (fun i => ws[i]?)).map some) (hn : va_nd isR = true) (hdis : ∀ i ∈ isR, i ∉ isC)
    (kk : ∀ (b : Nat → Nat) (H1 : Heap) (locs1 : List Loc), b 0 = o → va_P D mm_cl (isR.filterMap (fun i => ws[i]?) ++ wf b) H1 → va_D A (isR.filterMap (fun i => ws[i]?) ++ wf b) → va_S A s.heap H1 locs1 → W p l e R s m args below meth c H1 locs1 (cells + mc) (slots + ms) Q (F0 m (pc + 3) ls rest)) : W p l e R s m args below meth c H locs cells slots Q (F0 m pc ls st0) := by
  obtain ⟨hx, hb, hml, hown, hts, hr, hlocks, hK, hSt⟩ := C0
  obtain ⟨⟨l1, l2, l4, l5⟩, hdd, hm, hyn⟩ := L
  subst hst
  have hRm : (mm_rk d' mc ms).frames + 1 ≤ R.frames ∧ 8 + (maxL + 11) + (mm_rk d' mc ms).locals ≤ R.locals := by
    rw [hR1, hR2]
    exact mm_room hd hm
  exact mm_aftern (va_runI (As := []) (rest := rest) (b := o) ⟨hx, hb, hml, hown, hts⟩ (ct H.size) ⟨callB_of 0 hts (mm_GI l5) rfl rfl rfl (hts _ l4) (hts _ l1) hdd hRm, hyn, hts _ l2⟩ ⟨mm_blindn, mm_preN hK hSt hO1 hO2 hS hA hP hD isC hnC hC⟩ rfl rfl hl rfl (lv_room hW) hdg ⟨hc1, hc2⟩) hP hD hA hS isC isR hC hR hn hdis kk
theorem mm_callJ {d d' mc ms index maxL o : Nat} {y : MethodName} {bytes : ByteArray} {wc : va_W} {wf : (Nat → Nat) → va_W} (C0 : mm_Cx p s m args meth c own cc nL ret D (mm_T cI cL cS cH) A) (hO1 : va_AO RX5 s) (hO2 : va_AO RX6 s) (L : mm_LJ own index y bytes maxL) (ct : mm_Cn l y bytes maxL d' mc ms D (mm_T cI cL cS cH) o wc wf) (hd : d' + 1 ≤ d) (hR1 : R.frames = d) (hR2 : R.locals = 64 * d) (hl : ls.size = nL) (hst : st0 = .ref o :: rest) (hW : (rest.map fun v => v.category).sum ≤ 8) (hdg : decode cc pc = .ok (.invokespecial index, 3)) (hc1 : cells + mc ≤ R.cells) (hc2 : slots + ms ≤ R.slots)
    (hP : va_P D mm_cl ws H) (hD : va_D A ws) (hA : ∀ q, s.heap.size ≤ q → A q) (hS : va_S A s.heap H locs) (isC isR : List Nat) (hnC : va_nd isC = true) (hC : isC.map (fun i => ws[i]?) = wc.map some) (hR : isR.map (fun i => ws[i]?) = (isR.filterMap (fun i => ws[i]?)).map some) (hn : va_nd isR = true) (hdis : ∀ i ∈ isR, i ∉ isC)
    (kk : ∀ (b : Nat → Nat) (H1 : Heap) (locs1 : List Loc), b 0 = o → va_P D mm_cl (isR.filterMap (fun i => ws[i]?) ++ wf b) H1 → va_D A (isR.filterMap (fun i => ws[i]?) ++ wf b) → va_S A s.heap H1 locs1 → W p l e R s m args below meth c H1 locs1 (cells + mc) (slots + ms) Q (F0 m (pc + 3) ls rest)) : W p l e R s m args below meth c H locs cells slots Q (F0 m pc ls st0) := by
  obtain ⟨hx, hb, hml, hown, hts, hr, hlocks, hK, hSt⟩ := C0
  obtain ⟨⟨l1, l2, l4, l5⟩, hdd, hm, hyn⟩ := L
  subst hst
  have hRm : (mm_rk d' mc ms).frames + 1 ≤ R.frames ∧ 8 + (maxL + 11) + (mm_rk d' mc ms).locals ≤ R.locals := by
    rw [hR1, hR2]
    exact mm_room hd hm
  exact mm_aftern (va_runIN (host := RX8) (As := []) (rest := rest) (b := o) ⟨hx, hb, hml, hown, hts⟩ (ct H.size) ⟨va_cnB 0 hts (mm_GI l5) rfl rfl rfl (hSt.2.2.2 _ l1) (hts _ l4) hdd hRm, hyn, hts _ l2⟩ ⟨mm_blindn, mm_preN hK hSt hO1 hO2 hS hA hP hD isC hnC hC⟩ rfl rfl hl rfl (lv_room hW) hdg ⟨hc1, hc2⟩) hP hD hA hS isC isR hC hR hn hdis kk
theorem mm_rng {α : Type} (w : List α) (x : α) : (List.range w.length).map (fun i => (w ++ [x])[i]?) = w.map some := by
  apply List.ext_getElem?
  intro k
  rw [List.getElem?_map, List.getElem?_map]
  by_cases h : k < w.length
  · rw [List.getElem?_range h, Option.map_some, List.getElem?_append_left h]
    rw [List.getElem?_eq_getElem h]
    rfl
  · rw [List.getElem?_eq_none (by rw [List.length_range]; omega), List.getElem?_eq_none (l := w) (by omega)]
    rfl
theorem mm_nd : ∀ n : Nat, va_nd (List.range n) = true := by
  have key : ∀ (l : List Nat), l.Nodup → va_nd l = true := by
    intro l
    induction l with
    | nil => intro _; rfl
    | cons a l ih =>
      intro h
      have h1 := List.nodup_cons.mp h
      simp [va_nd, h1.1, ih h1.2]
  exact fun n => key _ List.nodup_range
/-- the same, where the new object's cell is the last one -/
theorem mm_callI2 {d d' mc ms index maxL o : Nat} {e0 : va_E} {w0 : va_W} {y : MethodName} {bytes : ByteArray} {wf : (Nat → Nat) → va_W} (C0 : mm_Cx p s m args meth c own cc nL ret D (mm_T cI cL cS cH) A) (hO1 : va_AO RX5 s) (hO2 : va_AO RX6 s) (L : mm_LI own index y bytes maxL) (ct : mm_Cn l y bytes maxL d' mc ms D (mm_T cI cL cS cH) o [(o, e0)] wf) (hd : d' + 1 ≤ d) (hR1 : R.frames = d) (hR2 : R.locals = 64 * d) (hl : ls.size = nL) (hst : st0 = .ref o :: rest) (hW : (rest.map fun v => v.category).sum ≤ 8) (hdg : decode cc pc = .ok (.invokespecial index, 3)) (hc1 : cells + mc ≤ R.cells) (hc2 : slots + ms ≤ R.slots)
    (hP : va_P D mm_cl (w0 ++ [(o, e0)]) H) (hD : va_D A (w0 ++ [(o, e0)])) (hA : ∀ q, s.heap.size ≤ q → A q) (hS : va_S A s.heap H locs)
    (kk : ∀ (b : Nat → Nat) (H1 : Heap) (locs1 : List Loc), b 0 = o → va_P D mm_cl (w0 ++ wf b) H1 → va_D A (w0 ++ wf b) → va_S A s.heap H1 locs1 → W p l e R s m args below meth c H1 locs1 (cells + mc) (slots + ms) Q (F0 m (pc + 3) ls rest)) : W p l e R s m args below meth c H locs cells slots Q (F0 m pc ls st0) := by
  have hr := mm_rng w0 (o, e0)
  refine mm_callI (mcR := 0) (msR := 0) C0 hO1 hO2 L ct hd hR1 hR2 hl hst hW hdg hc1 hc2 hP hD hA hS [w0.length] (List.range w0.length) rfl (by simp) (by rw [mm_fm hr]; exact hr) (mm_nd _) (fun i hi h => by simp at h hi; omega) ?_
  rw [mm_fm hr]
  exact kk
theorem mm_callJ2 {d d' mc ms index maxL o : Nat} {e0 : va_E} {w0 : va_W} {y : MethodName} {bytes : ByteArray} {wf : (Nat → Nat) → va_W} (C0 : mm_Cx p s m args meth c own cc nL ret D (mm_T cI cL cS cH) A) (hO1 : va_AO RX5 s) (hO2 : va_AO RX6 s) (L : mm_LJ own index y bytes maxL) (ct : mm_Cn l y bytes maxL d' mc ms D (mm_T cI cL cS cH) o [(o, e0)] wf) (hd : d' + 1 ≤ d) (hR1 : R.frames = d) (hR2 : R.locals = 64 * d) (hl : ls.size = nL) (hst : st0 = .ref o :: rest) (hW : (rest.map fun v => v.category).sum ≤ 8) (hdg : decode cc pc = .ok (.invokespecial index, 3)) (hc1 : cells + mc ≤ R.cells) (hc2 : slots + ms ≤ R.slots)
    (hP : va_P D mm_cl (w0 ++ [(o, e0)]) H) (hD : va_D A (w0 ++ [(o, e0)])) (hA : ∀ q, s.heap.size ≤ q → A q) (hS : va_S A s.heap H locs)
    (kk : ∀ (b : Nat → Nat) (H1 : Heap) (locs1 : List Loc), b 0 = o → va_P D mm_cl (w0 ++ wf b) H1 → va_D A (w0 ++ wf b) → va_S A s.heap H1 locs1 → W p l e R s m args below meth c H1 locs1 (cells + mc) (slots + ms) Q (F0 m (pc + 3) ls rest)) : W p l e R s m args below meth c H locs cells slots Q (F0 m pc ls st0) := by
  have hr := mm_rng w0 (o, e0)
  refine mm_callJ C0 hO1 hO2 L ct hd hR1 hR2 hl hst hW hdg hc1 hc2 hP hD hA hS [w0.length] (List.range w0.length) rfl (by simp) (by rw [mm_fm hr]; exact hr) (mm_nd _) (fun i hi h => by simp at h hi; omega) ?_
  rw [mm_fm hr]
  exact kk
end News
end
section
/-! Constructors -/
def z5_rowOf : List Int32 := [0, 0, 0, 0, 1, 1, 1, 1] ++ mm_zs 24
def z5_colOf : List Int32 := [0, 1, 2, 3, 0, 1, 2, 3] ++ mm_zs 24
def z9_row : List Int32 := [0, 0, 0, 0, 1, 1, 1, 1] ++ mm_zs 184
def z9_column : List Int32 := [0, 1, 2, 3, 0, 1, 2, 3] ++ mm_zs 184
def z9_shapeRows : List Int32 := [2, 0, 0, 0, 0, 0]
def z9_shapeColumns : List Int32 := [4, 0, 0, 0, 0, 0]
def z9_limit : List Int32 := [20]
def z9_shelf : List Int32 := [-1, -1, -1, -1, -1, -1]
theorem kn_X8 : Cond.instantiable RX8 10 ∈ mm_tbl := mm_tin (lw_c1 (List.mem_of_getElem? (i := 15) rfl)) rfl
theorem ki_X8 : Cond.initialized RX8 ∈ mm_tbl := mm_tin (lw_c1 (List.mem_of_getElem? (i := 1) rfl)) rfl
theorem kn_X5 : Cond.instantiable RX5 15 ∈ mm_tbl := mm_tin (lw_c1 (List.mem_of_getElem? (i := 23) rfl)) rfl
theorem ki_X5 : Cond.initialized RX5 ∈ mm_tbl := mm_tin (lw_c1 (List.mem_of_getElem? (i := 2) rfl)) rfl
theorem kn_X2 : Cond.instantiable RX2 10 ∈ mm_tbl := mm_tin (lw_c1 (List.mem_of_getElem? (i := 104) rfl)) rfl
theorem ki_X2 : Cond.initialized RX2 ∈ mm_tbl := mm_tin (lw_c1 (List.mem_of_getElem? (i := 4) rfl)) rfl
theorem kn_X3 : Cond.instantiable RX3 4 ∈ mm_tbl := mm_tin (lw_c1 (List.mem_of_getElem? (i := 142) rfl)) rfl
theorem ki_X3 : Cond.initialized RX3 ∈ mm_tbl := mm_tin (lw_c1 (List.mem_of_getElem? (i := 5) rfl)) rfl
theorem kn_X4 : Cond.instantiable RX4 8 ∈ mm_tbl := mm_tin (lw_c1 (List.mem_of_getElem? (i := 165) rfl)) rfl
theorem ki_X4 : Cond.initialized RX4 ∈ mm_tbl := mm_tin (lw_c1 (List.mem_of_getElem? (i := 6) rfl)) rfl
theorem kn_X7 : Cond.instantiable RX7 3 ∈ mm_tbl := mm_tin (lw_c1 (List.mem_of_getElem? (i := 203) rfl)) rfl
theorem ki_X7 : Cond.initialized RX7 ∈ mm_tbl := mm_tin (lw_c1 (List.mem_of_getElem? (i := 7) rfl)) rfl
theorem kn_X0 : Cond.instantiable RX0 5 ∈ mm_tbl := mm_tin (lw_c1 (List.mem_of_getElem? (i := 219) rfl)) rfl
theorem ki_X0 : Cond.initialized RX0 ∈ mm_tbl := mm_tin (lw_c1 (List.mem_of_getElem? (i := 8) rfl)) rfl
theorem kn_X1 : Cond.instantiable RX1 5 ∈ mm_tbl := mm_tin (lw_c2 (List.mem_of_getElem? (i := 4) rfl)) rfl
theorem ki_X1 : Cond.initialized RX1 ∈ mm_tbl := mm_tin (lw_c1 (List.mem_of_getElem? (i := 9) rfl)) rfl
theorem kn_X6 : Cond.instantiable RX6 5 ∈ mm_tbl := mm_tin (lw_c2 (List.mem_of_getElem? (i := 30) rfl)) rfl
theorem ki_X6 : Cond.initialized RX6 ∈ mm_tbl := mm_tin (lw_c1 (List.mem_of_getElem? (i := 10) rfl)) rfl
theorem kn_X9 : Cond.instantiable RX9 69 ∈ mm_tbl := mm_tin (lw_c4 (List.mem_of_getElem? (i := 228) rfl)) rfl
theorem ki_X9 : Cond.initialized RX9 ∈ mm_tbl := mm_tin (lw_c1 (List.mem_of_getElem? (i := 11) rfl)) rfl
theorem mm_chk12 {α0 α1 α2 α3 α4 α5 α6 α7 α8 α9 α10 α11 : Type} [DecidableEq α0] [DecidableEq α1] [DecidableEq α2] [DecidableEq α3] [DecidableEq α4] [DecidableEq α5] [DecidableEq α6] [DecidableEq α7] [DecidableEq α8] [DecidableEq α9] [DecidableEq α10] [DecidableEq α11] {x : Option (α0 × α1 × α2 × α3 × α4 × α5 × α6 × α7 × α8 × α9 × α10 × α11)} {v0 : α0} {v1 : α1} {v2 : α2} {v3 : α3} {v4 : α4} {v5 : α5} {v6 : α6} {v7 : α7} {v8 : α8} {v9 : α9} {v10 : α10} {v11 : α11} (h : (match x with | some (a0, a1, a2, a3, a4, a5, a6, a7, a8, a9, a10, a11) => decide (a0 = v0) && (decide (a1 = v1) && (decide (a2 = v2) && (decide (a3 = v3) && (decide (a4 = v4) && (decide (a5 = v5) && (decide (a6 = v6) && (decide (a7 = v7) && (decide (a8 = v8) && (decide (a9 = v9) && (decide (a10 = v10) && (decide (a11 = v11)))))))))))) | none => false) = true) : x = some (v0, v1, v2, v3, v4, v5, v6, v7, v8, v9, v10, v11) := by
  cases x with
  | none => cases h
  | some q =>
    obtain ⟨a0, a1, a2, a3, a4, a5, a6, a7, a8, a9, a10, a11⟩ := q
    simp only [Bool.and_eq_true, decide_eq_true_eq] at h
    obtain ⟨rfl, rfl, rfl, rfl, rfl, rfl, rfl, rfl, rfl, rfl, rfl, rfl⟩ := h
    rfl
theorem mm_chk13 {α0 α1 α2 α3 α4 α5 α6 α7 α8 α9 α10 α11 α12 : Type} [DecidableEq α0] [DecidableEq α1] [DecidableEq α2] [DecidableEq α3] [DecidableEq α4] [DecidableEq α5] [DecidableEq α6] [DecidableEq α7] [DecidableEq α8] [DecidableEq α9] [DecidableEq α10] [DecidableEq α11] [DecidableEq α12] {x : Option (α0 × α1 × α2 × α3 × α4 × α5 × α6 × α7 × α8 × α9 × α10 × α11 × α12)} {v0 : α0} {v1 : α1} {v2 : α2} {v3 : α3} {v4 : α4} {v5 : α5} {v6 : α6} {v7 : α7} {v8 : α8} {v9 : α9} {v10 : α10} {v11 : α11} {v12 : α12} (h : (match x with | some (a0, a1, a2, a3, a4, a5, a6, a7, a8, a9, a10, a11, a12) => decide (a0 = v0) && (decide (a1 = v1) && (decide (a2 = v2) && (decide (a3 = v3) && (decide (a4 = v4) && (decide (a5 = v5) && (decide (a6 = v6) && (decide (a7 = v7) && (decide (a8 = v8) && (decide (a9 = v9) && (decide (a10 = v10) && (decide (a11 = v11) && (decide (a12 = v12))))))))))))) | none => false) = true) : x = some (v0, v1, v2, v3, v4, v5, v6, v7, v8, v9, v10, v11, v12) := by
  cases x with
  | none => cases h
  | some q =>
    obtain ⟨a0, a1, a2, a3, a4, a5, a6, a7, a8, a9, a10, a11, a12⟩ := q
    simp only [Bool.and_eq_true, decide_eq_true_eq] at h
    obtain ⟨rfl, rfl, rfl, rfl, rfl, rfl, rfl, rfl, rfl, rfl, rfl, rfl, rfl⟩ := h
    rfl
theorem lk_X5_36 : mm_LV RX5 36 yX5_renew cX5_renew 3 none 2 := ⟨⟨mm_tin (lw_c1 (List.mem_of_getElem? (i := 28) rfl)) rfl, mm_tin (lw_c1 (List.mem_of_getElem? (i := 29) rfl)) rfl, mm_tin (lw_c1 (List.mem_of_getElem? (i := 30) rfl)) rfl, mm_tin (lw_c1 (List.mem_of_getElem? (i := 2) rfl)) rfl, mm_tin (lw_c1 (List.mem_of_getElem? (i := 31) rfl)) rfl⟩, by decide +kernel, by decide⟩
theorem li_X8_9 : mm_LI RX8 9 yX5_init cX5_init 1 := ⟨⟨mm_tin (lw_c1 (List.mem_of_getElem? (i := 24) rfl)) rfl, mm_tin (lw_c1 (List.mem_of_getElem? (i := 25) rfl)) rfl, mm_tin (lw_c1 (List.mem_of_getElem? (i := 2) rfl)) rfl, mm_tin (lw_c1 (List.mem_of_getElem? (i := 26) rfl)) rfl⟩, by decide +kernel, by decide, rfl⟩
theorem li_X8_35 : mm_LI RX8 35 yX4_init cX4_init 2 := ⟨⟨mm_tin (lw_c1 (List.mem_of_getElem? (i := 166) rfl)) rfl, mm_tin (lw_c1 (List.mem_of_getElem? (i := 167) rfl)) rfl, mm_tin (lw_c1 (List.mem_of_getElem? (i := 6) rfl)) rfl, mm_tin (lw_c1 (List.mem_of_getElem? (i := 168) rfl)) rfl⟩, by decide +kernel, by decide, rfl⟩
theorem li_X3_11 : mm_LI RX3 11 yX5_init cX5_init 1 := ⟨⟨mm_tin (lw_c1 (List.mem_of_getElem? (i := 148) rfl)) rfl, mm_tin (lw_c1 (List.mem_of_getElem? (i := 25) rfl)) rfl, mm_tin (lw_c1 (List.mem_of_getElem? (i := 2) rfl)) rfl, mm_tin (lw_c1 (List.mem_of_getElem? (i := 26) rfl)) rfl⟩, by decide +kernel, by decide, rfl⟩
theorem li_X4_24 : mm_LI RX4 24 yX5_init cX5_init 1 := ⟨⟨mm_tin (lw_c1 (List.mem_of_getElem? (i := 172) rfl)) rfl, mm_tin (lw_c1 (List.mem_of_getElem? (i := 25) rfl)) rfl, mm_tin (lw_c1 (List.mem_of_getElem? (i := 2) rfl)) rfl, mm_tin (lw_c1 (List.mem_of_getElem? (i := 26) rfl)) rfl⟩, by decide +kernel, by decide, rfl⟩
theorem lj_X8_21 : mm_LJ RX8 21 yX2_init cX2_init 1 := ⟨⟨by decide +kernel, mm_tin (lw_c1 (List.mem_of_getElem? (i := 106) rfl)) rfl, mm_tin (lw_c1 (List.mem_of_getElem? (i := 4) rfl)) rfl, mm_tin (lw_c1 (List.mem_of_getElem? (i := 107) rfl)) rfl⟩, by decide +kernel, by decide, rfl⟩
theorem lj_X8_28 : mm_LJ RX8 28 yX3_init cX3_init 1 := ⟨⟨by decide +kernel, mm_tin (lw_c1 (List.mem_of_getElem? (i := 144) rfl)) rfl, mm_tin (lw_c1 (List.mem_of_getElem? (i := 5) rfl)) rfl, mm_tin (lw_c1 (List.mem_of_getElem? (i := 145) rfl)) rfl⟩, by decide +kernel, by decide, rfl⟩
theorem lj_X8_42 : mm_LJ RX8 42 yX7_init cX7_init 1 := ⟨⟨by decide +kernel, mm_tin (lw_c1 (List.mem_of_getElem? (i := 205) rfl)) rfl, mm_tin (lw_c1 (List.mem_of_getElem? (i := 7) rfl)) rfl, mm_tin (lw_c1 (List.mem_of_getElem? (i := 206) rfl)) rfl⟩, by decide +kernel, by decide, rfl⟩
theorem lj_X8_49 : mm_LJ RX8 49 yX0_init cX0_init 1 := ⟨⟨by decide +kernel, mm_tin (lw_c1 (List.mem_of_getElem? (i := 221) rfl)) rfl, mm_tin (lw_c1 (List.mem_of_getElem? (i := 8) rfl)) rfl, mm_tin (lw_c1 (List.mem_of_getElem? (i := 222) rfl)) rfl⟩, by decide +kernel, by decide, rfl⟩
theorem lj_X8_56 : mm_LJ RX8 56 yX1_init cX1_init 1 := ⟨⟨by decide +kernel, mm_tin (lw_c2 (List.mem_of_getElem? (i := 6) rfl)) rfl, mm_tin (lw_c1 (List.mem_of_getElem? (i := 9) rfl)) rfl, mm_tin (lw_c2 (List.mem_of_getElem? (i := 7) rfl)) rfl⟩, by decide +kernel, by decide, rfl⟩
theorem lj_X8_67 : mm_LJ RX8 67 yX6_init cX6_init 1 := ⟨⟨by decide +kernel, mm_tin (lw_c2 (List.mem_of_getElem? (i := 32) rfl)) rfl, mm_tin (lw_c1 (List.mem_of_getElem? (i := 10) rfl)) rfl, mm_tin (lw_c2 (List.mem_of_getElem? (i := 33) rfl)) rfl⟩, by decide +kernel, by decide, rfl⟩
theorem kl_X8_7 : Cond.classLink RX8 7 RX5 ∈ mm_tbl := mm_tin (lw_c1 (List.mem_of_getElem? (i := 22) rfl)) rfl
theorem kl_X8_19 : Cond.classLink RX8 19 RX2 ∈ mm_tbl := mm_tin (lw_c1 (List.mem_of_getElem? (i := 103) rfl)) rfl
theorem kl_X8_26 : Cond.classLink RX8 26 RX3 ∈ mm_tbl := mm_tin (lw_c1 (List.mem_of_getElem? (i := 141) rfl)) rfl
theorem kl_X8_33 : Cond.classLink RX8 33 RX4 ∈ mm_tbl := mm_tin (lw_c1 (List.mem_of_getElem? (i := 164) rfl)) rfl
theorem kl_X8_40 : Cond.classLink RX8 40 RX7 ∈ mm_tbl := mm_tin (lw_c1 (List.mem_of_getElem? (i := 202) rfl)) rfl
theorem kl_X8_47 : Cond.classLink RX8 47 RX0 ∈ mm_tbl := mm_tin (lw_c1 (List.mem_of_getElem? (i := 218) rfl)) rfl
theorem kl_X8_54 : Cond.classLink RX8 54 RX1 ∈ mm_tbl := mm_tin (lw_c2 (List.mem_of_getElem? (i := 3) rfl)) rfl
theorem kl_X8_61 : Cond.classLink RX8 61 RX6 ∈ mm_tbl := mm_tin (lw_c2 (List.mem_of_getElem? (i := 28) rfl)) rfl
theorem kl_X3_9 : Cond.classLink RX3 9 RX5 ∈ mm_tbl := mm_tin (lw_c1 (List.mem_of_getElem? (i := 147) rfl)) rfl
theorem kl_X4_9 : Cond.classLink RX4 9 RX5 ∈ mm_tbl := mm_tin (lw_c1 (List.mem_of_getElem? (i := 170) rfl)) rfl
theorem ol_X8_1 : Cond.methodLink RX8 1 objectInit ∈ mm_tbl := mm_tin (lw_c1 (List.mem_of_getElem? (i := 19) rfl)) rfl
theorem ol_X0_3 : Cond.methodLink RX0 3 objectInit ∈ mm_tbl := mm_tin (lw_c1 (List.mem_of_getElem? (i := 223) rfl)) rfl
theorem ol_X1_3 : Cond.methodLink RX1 3 objectInit ∈ mm_tbl := mm_tin (lw_c2 (List.mem_of_getElem? (i := 8) rfl)) rfl
theorem ol_X2_3 : Cond.methodLink RX2 3 objectInit ∈ mm_tbl := mm_tin (lw_c1 (List.mem_of_getElem? (i := 108) rfl)) rfl
theorem ol_X3_3 : Cond.methodLink RX3 3 objectInit ∈ mm_tbl := mm_tin (lw_c1 (List.mem_of_getElem? (i := 146) rfl)) rfl
theorem ol_X4_3 : Cond.methodLink RX4 3 objectInit ∈ mm_tbl := mm_tin (lw_c1 (List.mem_of_getElem? (i := 169) rfl)) rfl
theorem ol_X5_3 : Cond.methodLink RX5 3 objectInit ∈ mm_tbl := mm_tin (lw_c1 (List.mem_of_getElem? (i := 27) rfl)) rfl
theorem ol_X6_3 : Cond.methodLink RX6 3 objectInit ∈ mm_tbl := mm_tin (lw_c2 (List.mem_of_getElem? (i := 34) rfl)) rfl
theorem ol_X7_3 : Cond.methodLink RX7 3 objectInit ∈ mm_tbl := mm_tin (lw_c1 (List.mem_of_getElem? (i := 207) rfl)) rfl
theorem ol_X9_1 : Cond.methodLink RX9 1 objectInit ∈ mm_tbl := mm_tin (lw_c4 (List.mem_of_getElem? (i := 232) rfl)) rfl
theorem nb_dX0_init_0 : bls_w cX0_init [(0, [42]), (1, [183, 0, 3]), (4, [42]), (5, [16, 20]), (7, [181, 0, 9]), (10, [42]), (11, [16, 40]), (13, [188, 10]), (15, [181, 0, 15]), (18, [42]), (19, [16, 40]), (21, [188, 10])] := bls_of (by decide +kernel)
theorem dX0_init_0 : decode cX0_init 0 = .ok (.aload_n 0, 1) := op_42 nb_dX0_init_0.1
set_option maxRecDepth 100000 in
theorem dX0_init_1 : decode cX0_init 1 = .ok (.invokespecial 3, 3) := (op_183 nb_dX0_init_0.2.1).trans rfl
theorem dX0_init_4 : decode cX0_init 4 = .ok (.aload_n 0, 1) := op_42 nb_dX0_init_0.2.2.1
set_option maxRecDepth 100000 in
theorem dX0_init_5 : decode cX0_init 5 = .ok (.bipush 20, 2) := (op_16 nb_dX0_init_0.2.2.2.1).trans rfl
set_option maxRecDepth 100000 in
theorem dX0_init_7 : decode cX0_init 7 = .ok (.putfield 9, 3) := (op_181 nb_dX0_init_0.2.2.2.2.1).trans rfl
theorem dX0_init_10 : decode cX0_init 10 = .ok (.aload_n 0, 1) := op_42 nb_dX0_init_0.2.2.2.2.2.1
set_option maxRecDepth 100000 in
theorem dX0_init_11 : decode cX0_init 11 = .ok (.bipush 40, 2) := (op_16 nb_dX0_init_0.2.2.2.2.2.2.1).trans rfl
theorem dX0_init_13 : decode cX0_init 13 = .ok (.newarray .int, 2) := op_188_10 nb_dX0_init_0.2.2.2.2.2.2.2.1
set_option maxRecDepth 100000 in
theorem dX0_init_15 : decode cX0_init 15 = .ok (.putfield 15, 3) := (op_181 nb_dX0_init_0.2.2.2.2.2.2.2.2.1).trans rfl
theorem dX0_init_18 : decode cX0_init 18 = .ok (.aload_n 0, 1) := op_42 nb_dX0_init_0.2.2.2.2.2.2.2.2.2.1
set_option maxRecDepth 100000 in
theorem dX0_init_19 : decode cX0_init 19 = .ok (.bipush 40, 2) := (op_16 nb_dX0_init_0.2.2.2.2.2.2.2.2.2.2.1).trans rfl
theorem dX0_init_21 : decode cX0_init 21 = .ok (.newarray .int, 2) := op_188_10 nb_dX0_init_0.2.2.2.2.2.2.2.2.2.2.2.1
theorem nb_dX0_init_23 : bls_w cX0_init [(23, [181, 0, 19]), (26, [177])] := bls_of (by decide +kernel)
set_option maxRecDepth 100000 in
theorem dX0_init_23 : decode cX0_init 23 = .ok (.putfield 19, 3) := (op_181 nb_dX0_init_23.1).trans rfl
theorem dX0_init_26 : decode cX0_init 26 = .ok (.return_, 1) := op_177 nb_dX0_init_23.2.1
abbrev wn_X0 (cI cL cS cH : ClassId) (a : Nat → Nat) : va_W := wd_X0 cI cL cS cH a 20 0 0 (mm_zs 40) (mm_zs 40)
set_option maxHeartbeats 8000000 in
set_option maxRecDepth 100000 in
theorem cnX0 {l : Launch} {D : va_G} {cI cL cS cH : ClassId} {o : Nat} : mm_Cn l yX0_init cX0_init 1 1 2 80 D (mm_T cI cL cS cH) o [(o, .inr (0, [.int 0, .int 0, .int 0, .null, .null]))] (wn_X0 cI cL cS cH) := by
  refine mm_ofn (by decide) rfl (by decide) ?_
  intro p e s m args below meth c A H locs ls C0 hin hO1 hO2 hP hD hA hS hl
  have C0 : mm_Cx p s m args meth c RX0 cX0_init 1 none D (mm_T cI cL cS cH) A := C0
  obtain ⟨hx, hb, hml, hown, hts, hr, hlocks, hK, hSt⟩ := id C0
  refine lv_aload_n hx hb dX0_init_0 rfl (lv_at hl 0 rfl) ?_
  refine mm_obj C0 ol_X0_3 hl.1 (by decide) dX0_init_1 ?_
  refine W.eq (g2 := F0 m 4 ls []) rfl ?_
  refine lv_aload_n hx hb dX0_init_4 rfl (lv_at hl 0 rfl) ?_
  refine lv_bipush (v := 20) hx hb dX0_init_5 (by decide) ?_
  refine mm_put C0 hP hD hS iw_X0 tyX0 tyX0_ok nmX0 0 rfl rfl 0 (by decide) fl_X0_9 rfl rfl rfl (Nat.le_of_ble_eq_true rfl) dX0_init_7 (w2 := ([(o, .inr (0, [.int 20, .int 0, .int 0, .null, .null]))] : va_W)) rfl (fun H locs hP hD hS => ?_)
  refine lv_aload_n hx hb dX0_init_10 rfl (lv_at hl 0 rfl) ?_
  refine lv_bipush (v := 40) hx hb dX0_init_11 (by decide) ?_
  refine mm_newi (N := 40) C0 hP hD hA hS (by decide) (by decide) (by decide) (Nat.le_of_ble_eq_true rfl) (Nat.le_of_ble_eq_true rfl) dX0_init_13 (fun q1 H hP hD hS => ?_)
  have hP : va_P D mm_cl ([(o, .inr (0, [.int 20, .int 0, .int 0, .null, .null])), (q1, mm_li cI (mm_zs 40))] : va_W) H := hP
  have hD : va_D A ([(o, .inr (0, [.int 20, .int 0, .int 0, .null, .null])), (q1, mm_li cI (mm_zs 40))] : va_W) := hD
  refine mm_putf C0 hin hP hD hS iw_X0 tyX0 tyX0_ok nmX0 0 rfl rfl 3 (by decide) fl_X0_15 rfl rfl rfl rfl (Nat.le_of_ble_eq_true rfl) dX0_init_15 (w2 := ([(o, .inr (0, [.int 20, .int 0, .int 0, .ref q1, .null])), (q1, mm_li cI (mm_zs 40))] : va_W)) rfl (fun H locs hP hD hS => ?_)
  refine lv_aload_n hx hb dX0_init_18 rfl (lv_at hl 0 rfl) ?_
  refine lv_bipush (v := 40) hx hb dX0_init_19 (by decide) ?_
  refine mm_newi (N := 40) C0 hP hD hA hS (by decide) (by decide) (by decide) (Nat.le_of_ble_eq_true rfl) (Nat.le_of_ble_eq_true rfl) dX0_init_21 (fun q2 H hP hD hS => ?_)
  have hP : va_P D mm_cl ([(o, .inr (0, [.int 20, .int 0, .int 0, .ref q1, .null])), (q1, mm_li cI (mm_zs 40)), (q2, mm_li cI (mm_zs 40))] : va_W) H := hP
  have hD : va_D A ([(o, .inr (0, [.int 20, .int 0, .int 0, .ref q1, .null])), (q1, mm_li cI (mm_zs 40)), (q2, mm_li cI (mm_zs 40))] : va_W) := hD
  refine mm_putf C0 hin hP hD hS iw_X0 tyX0 tyX0_ok nmX0 0 rfl rfl 4 (by decide) fl_X0_19 rfl rfl rfl rfl (Nat.le_of_ble_eq_true rfl) dX0_init_23 (w2 := ([(o, .inr (0, [.int 20, .int 0, .int 0, .ref q1, .ref q2])), (q1, mm_li cI (mm_zs 40)), (q2, mm_li cI (mm_zs 40))] : va_W)) rfl (fun H locs hP hD hS => ?_)
  exact mm_nret (fun k => [o, q1, q2].getD k 0) rfl [0, 1, 2] (by decide) rfl C0 hP hD hS dX0_init_26 (Nat.le_of_ble_eq_true rfl) (Nat.le_of_ble_eq_true rfl)
theorem nb_dX1_init_0 : bls_w cX1_init [(0, [42]), (1, [183, 0, 3]), (4, [42]), (5, [16, 50]), (7, [188, 10]), (9, [181, 0, 9]), (12, [42]), (13, [16, 24]), (15, [188, 10]), (17, [181, 0, 15]), (20, [177])] := bls_of (by decide +kernel)
theorem dX1_init_0 : decode cX1_init 0 = .ok (.aload_n 0, 1) := op_42 nb_dX1_init_0.1
set_option maxRecDepth 100000 in
theorem dX1_init_1 : decode cX1_init 1 = .ok (.invokespecial 3, 3) := (op_183 nb_dX1_init_0.2.1).trans rfl
theorem dX1_init_4 : decode cX1_init 4 = .ok (.aload_n 0, 1) := op_42 nb_dX1_init_0.2.2.1
set_option maxRecDepth 100000 in
theorem dX1_init_5 : decode cX1_init 5 = .ok (.bipush 50, 2) := (op_16 nb_dX1_init_0.2.2.2.1).trans rfl
theorem dX1_init_7 : decode cX1_init 7 = .ok (.newarray .int, 2) := op_188_10 nb_dX1_init_0.2.2.2.2.1
set_option maxRecDepth 100000 in
theorem dX1_init_9 : decode cX1_init 9 = .ok (.putfield 9, 3) := (op_181 nb_dX1_init_0.2.2.2.2.2.1).trans rfl
theorem dX1_init_12 : decode cX1_init 12 = .ok (.aload_n 0, 1) := op_42 nb_dX1_init_0.2.2.2.2.2.2.1
set_option maxRecDepth 100000 in
theorem dX1_init_13 : decode cX1_init 13 = .ok (.bipush 24, 2) := (op_16 nb_dX1_init_0.2.2.2.2.2.2.2.1).trans rfl
theorem dX1_init_15 : decode cX1_init 15 = .ok (.newarray .int, 2) := op_188_10 nb_dX1_init_0.2.2.2.2.2.2.2.2.1
set_option maxRecDepth 100000 in
theorem dX1_init_17 : decode cX1_init 17 = .ok (.putfield 15, 3) := (op_181 nb_dX1_init_0.2.2.2.2.2.2.2.2.2.1).trans rfl
theorem dX1_init_20 : decode cX1_init 20 = .ok (.return_, 1) := op_177 nb_dX1_init_0.2.2.2.2.2.2.2.2.2.2.1
abbrev wn_X1 (cI cL cS cH : ClassId) (a : Nat → Nat) : va_W := wd_X1 cI cL cS cH a 0 0 0 (mm_zs 50) (mm_zs 24)
set_option maxHeartbeats 8000000 in
set_option maxRecDepth 100000 in
theorem cnX1 {l : Launch} {D : va_G} {cI cL cS cH : ClassId} {o : Nat} : mm_Cn l yX1_init cX1_init 1 1 2 74 D (mm_T cI cL cS cH) o [(o, .inr (1, [.int 0, .int 0, .null, .null, .int 0]))] (wn_X1 cI cL cS cH) := by
  refine mm_ofn (by decide) rfl (by decide) ?_
  intro p e s m args below meth c A H locs ls C0 hin hO1 hO2 hP hD hA hS hl
  have C0 : mm_Cx p s m args meth c RX1 cX1_init 1 none D (mm_T cI cL cS cH) A := C0
  obtain ⟨hx, hb, hml, hown, hts, hr, hlocks, hK, hSt⟩ := id C0
  refine lv_aload_n hx hb dX1_init_0 rfl (lv_at hl 0 rfl) ?_
  refine mm_obj C0 ol_X1_3 hl.1 (by decide) dX1_init_1 ?_
  refine W.eq (g2 := F0 m 4 ls []) rfl ?_
  refine lv_aload_n hx hb dX1_init_4 rfl (lv_at hl 0 rfl) ?_
  refine lv_bipush (v := 50) hx hb dX1_init_5 (by decide) ?_
  refine mm_newi (N := 50) C0 hP hD hA hS (by decide) (by decide) (by decide) (Nat.le_of_ble_eq_true rfl) (Nat.le_of_ble_eq_true rfl) dX1_init_7 (fun q1 H hP hD hS => ?_)
  have hP : va_P D mm_cl ([(o, .inr (1, [.int 0, .int 0, .null, .null, .int 0])), (q1, mm_li cI (mm_zs 50))] : va_W) H := hP
  have hD : va_D A ([(o, .inr (1, [.int 0, .int 0, .null, .null, .int 0])), (q1, mm_li cI (mm_zs 50))] : va_W) := hD
  refine mm_putf C0 hin hP hD hS iw_X1 tyX1 tyX1_ok nmX1 0 rfl rfl 2 (by decide) fl_X1_9 rfl rfl rfl rfl (Nat.le_of_ble_eq_true rfl) dX1_init_9 (w2 := ([(o, .inr (1, [.int 0, .int 0, .ref q1, .null, .int 0])), (q1, mm_li cI (mm_zs 50))] : va_W)) rfl (fun H locs hP hD hS => ?_)
  refine lv_aload_n hx hb dX1_init_12 rfl (lv_at hl 0 rfl) ?_
  refine lv_bipush (v := 24) hx hb dX1_init_13 (by decide) ?_
  refine mm_newi (N := 24) C0 hP hD hA hS (by decide) (by decide) (by decide) (Nat.le_of_ble_eq_true rfl) (Nat.le_of_ble_eq_true rfl) dX1_init_15 (fun q2 H hP hD hS => ?_)
  have hP : va_P D mm_cl ([(o, .inr (1, [.int 0, .int 0, .ref q1, .null, .int 0])), (q1, mm_li cI (mm_zs 50)), (q2, mm_li cI (mm_zs 24))] : va_W) H := hP
  have hD : va_D A ([(o, .inr (1, [.int 0, .int 0, .ref q1, .null, .int 0])), (q1, mm_li cI (mm_zs 50)), (q2, mm_li cI (mm_zs 24))] : va_W) := hD
  refine mm_putf C0 hin hP hD hS iw_X1 tyX1 tyX1_ok nmX1 0 rfl rfl 3 (by decide) fl_X1_15 rfl rfl rfl rfl (Nat.le_of_ble_eq_true rfl) dX1_init_17 (w2 := ([(o, .inr (1, [.int 0, .int 0, .ref q1, .ref q2, .int 0])), (q1, mm_li cI (mm_zs 50)), (q2, mm_li cI (mm_zs 24))] : va_W)) rfl (fun H locs hP hD hS => ?_)
  exact mm_nret (fun k => [o, q1, q2].getD k 0) rfl [0, 1, 2] (by decide) rfl C0 hP hD hS dX1_init_20 (Nat.le_of_ble_eq_true rfl) (Nat.le_of_ble_eq_true rfl)
theorem nb_dX2_init_0 : bls_w cX2_init [(0, [42]), (1, [183, 0, 3]), (4, [42]), (5, [16, 120]), (7, [188, 10]), (9, [181, 0, 9]), (12, [42]), (13, [16, 121]), (15, [188, 10]), (17, [181, 0, 15]), (20, [42]), (21, [16, 121])] := bls_of (by decide +kernel)
theorem dX2_init_0 : decode cX2_init 0 = .ok (.aload_n 0, 1) := op_42 nb_dX2_init_0.1
set_option maxRecDepth 100000 in
theorem dX2_init_1 : decode cX2_init 1 = .ok (.invokespecial 3, 3) := (op_183 nb_dX2_init_0.2.1).trans rfl
theorem dX2_init_4 : decode cX2_init 4 = .ok (.aload_n 0, 1) := op_42 nb_dX2_init_0.2.2.1
set_option maxRecDepth 100000 in
theorem dX2_init_5 : decode cX2_init 5 = .ok (.bipush 120, 2) := (op_16 nb_dX2_init_0.2.2.2.1).trans rfl
theorem dX2_init_7 : decode cX2_init 7 = .ok (.newarray .int, 2) := op_188_10 nb_dX2_init_0.2.2.2.2.1
set_option maxRecDepth 100000 in
theorem dX2_init_9 : decode cX2_init 9 = .ok (.putfield 9, 3) := (op_181 nb_dX2_init_0.2.2.2.2.2.1).trans rfl
theorem dX2_init_12 : decode cX2_init 12 = .ok (.aload_n 0, 1) := op_42 nb_dX2_init_0.2.2.2.2.2.2.1
set_option maxRecDepth 100000 in
theorem dX2_init_13 : decode cX2_init 13 = .ok (.bipush 121, 2) := (op_16 nb_dX2_init_0.2.2.2.2.2.2.2.1).trans rfl
theorem dX2_init_15 : decode cX2_init 15 = .ok (.newarray .int, 2) := op_188_10 nb_dX2_init_0.2.2.2.2.2.2.2.2.1
set_option maxRecDepth 100000 in
theorem dX2_init_17 : decode cX2_init 17 = .ok (.putfield 15, 3) := (op_181 nb_dX2_init_0.2.2.2.2.2.2.2.2.2.1).trans rfl
theorem dX2_init_20 : decode cX2_init 20 = .ok (.aload_n 0, 1) := op_42 nb_dX2_init_0.2.2.2.2.2.2.2.2.2.2.1
set_option maxRecDepth 100000 in
theorem dX2_init_21 : decode cX2_init 21 = .ok (.bipush 121, 2) := (op_16 nb_dX2_init_0.2.2.2.2.2.2.2.2.2.2.2.1).trans rfl
theorem nb_dX2_init_23 : bls_w cX2_init [(23, [188, 10]), (25, [181, 0, 18]), (28, [42]), (29, [16, 121]), (31, [188, 10]), (33, [181, 0, 21]), (36, [177])] := bls_of (by decide +kernel)
theorem dX2_init_23 : decode cX2_init 23 = .ok (.newarray .int, 2) := op_188_10 nb_dX2_init_23.1
set_option maxRecDepth 100000 in
theorem dX2_init_25 : decode cX2_init 25 = .ok (.putfield 18, 3) := (op_181 nb_dX2_init_23.2.1).trans rfl
theorem dX2_init_28 : decode cX2_init 28 = .ok (.aload_n 0, 1) := op_42 nb_dX2_init_23.2.2.1
set_option maxRecDepth 100000 in
theorem dX2_init_29 : decode cX2_init 29 = .ok (.bipush 121, 2) := (op_16 nb_dX2_init_23.2.2.2.1).trans rfl
theorem dX2_init_31 : decode cX2_init 31 = .ok (.newarray .int, 2) := op_188_10 nb_dX2_init_23.2.2.2.2.1
set_option maxRecDepth 100000 in
theorem dX2_init_33 : decode cX2_init 33 = .ok (.putfield 21, 3) := (op_181 nb_dX2_init_23.2.2.2.2.2.1).trans rfl
theorem dX2_init_36 : decode cX2_init 36 = .ok (.return_, 1) := op_177 nb_dX2_init_23.2.2.2.2.2.2.1
abbrev wn_X2 (cI cL cS cH : ClassId) (a : Nat → Nat) : va_W := wd_X2 cI cL cS cH a 0 0 0 0 0 0 (mm_zs 120) (mm_zs 121) (mm_zs 121) (mm_zs 121)
set_option maxHeartbeats 8000000 in
set_option maxRecDepth 100000 in
theorem cnX2 {l : Launch} {D : va_G} {cI cL cS cH : ClassId} {o : Nat} : mm_Cn l yX2_init cX2_init 1 1 4 483 D (mm_T cI cL cS cH) o [(o, .inr (2, [.int 0, .null, .null, .int 0, .null, .int 0, .int 0, .int 0, .null, .int 0]))] (wn_X2 cI cL cS cH) := by
  refine mm_ofn (by decide) rfl (by decide) ?_
  intro p e s m args below meth c A H locs ls C0 hin hO1 hO2 hP hD hA hS hl
  have C0 : mm_Cx p s m args meth c RX2 cX2_init 1 none D (mm_T cI cL cS cH) A := C0
  obtain ⟨hx, hb, hml, hown, hts, hr, hlocks, hK, hSt⟩ := id C0
  refine lv_aload_n hx hb dX2_init_0 rfl (lv_at hl 0 rfl) ?_
  refine mm_obj C0 ol_X2_3 hl.1 (by decide) dX2_init_1 ?_
  refine W.eq (g2 := F0 m 4 ls []) rfl ?_
  refine lv_aload_n hx hb dX2_init_4 rfl (lv_at hl 0 rfl) ?_
  refine lv_bipush (v := 120) hx hb dX2_init_5 (by decide) ?_
  refine mm_newi (N := 120) C0 hP hD hA hS (by decide) (by decide) (by decide) (Nat.le_of_ble_eq_true rfl) (Nat.le_of_ble_eq_true rfl) dX2_init_7 (fun q1 H hP hD hS => ?_)
  have hP : va_P D mm_cl ([(o, .inr (2, [.int 0, .null, .null, .int 0, .null, .int 0, .int 0, .int 0, .null, .int 0])), (q1, mm_li cI (mm_zs 120))] : va_W) H := hP
  have hD : va_D A ([(o, .inr (2, [.int 0, .null, .null, .int 0, .null, .int 0, .int 0, .int 0, .null, .int 0])), (q1, mm_li cI (mm_zs 120))] : va_W) := hD
  refine mm_putf C0 hin hP hD hS iw_X2 tyX2 tyX2_ok nmX2 0 rfl rfl 1 (by decide) fl_X2_9 rfl rfl rfl rfl (Nat.le_of_ble_eq_true rfl) dX2_init_9 (w2 := ([(o, .inr (2, [.int 0, .ref q1, .null, .int 0, .null, .int 0, .int 0, .int 0, .null, .int 0])), (q1, mm_li cI (mm_zs 120))] : va_W)) rfl (fun H locs hP hD hS => ?_)
  refine lv_aload_n hx hb dX2_init_12 rfl (lv_at hl 0 rfl) ?_
  refine lv_bipush (v := 121) hx hb dX2_init_13 (by decide) ?_
  refine mm_newi (N := 121) C0 hP hD hA hS (by decide) (by decide) (by decide) (Nat.le_of_ble_eq_true rfl) (Nat.le_of_ble_eq_true rfl) dX2_init_15 (fun q2 H hP hD hS => ?_)
  have hP : va_P D mm_cl ([(o, .inr (2, [.int 0, .ref q1, .null, .int 0, .null, .int 0, .int 0, .int 0, .null, .int 0])), (q1, mm_li cI (mm_zs 120)), (q2, mm_li cI (mm_zs 121))] : va_W) H := hP
  have hD : va_D A ([(o, .inr (2, [.int 0, .ref q1, .null, .int 0, .null, .int 0, .int 0, .int 0, .null, .int 0])), (q1, mm_li cI (mm_zs 120)), (q2, mm_li cI (mm_zs 121))] : va_W) := hD
  refine mm_putf C0 hin hP hD hS iw_X2 tyX2 tyX2_ok nmX2 0 rfl rfl 2 (by decide) fl_X2_15 rfl rfl rfl rfl (Nat.le_of_ble_eq_true rfl) dX2_init_17 (w2 := ([(o, .inr (2, [.int 0, .ref q1, .ref q2, .int 0, .null, .int 0, .int 0, .int 0, .null, .int 0])), (q1, mm_li cI (mm_zs 120)), (q2, mm_li cI (mm_zs 121))] : va_W)) rfl (fun H locs hP hD hS => ?_)
  refine lv_aload_n hx hb dX2_init_20 rfl (lv_at hl 0 rfl) ?_
  refine lv_bipush (v := 121) hx hb dX2_init_21 (by decide) ?_
  refine mm_newi (N := 121) C0 hP hD hA hS (by decide) (by decide) (by decide) (Nat.le_of_ble_eq_true rfl) (Nat.le_of_ble_eq_true rfl) dX2_init_23 (fun q3 H hP hD hS => ?_)
  have hP : va_P D mm_cl ([(o, .inr (2, [.int 0, .ref q1, .ref q2, .int 0, .null, .int 0, .int 0, .int 0, .null, .int 0])), (q1, mm_li cI (mm_zs 120)), (q2, mm_li cI (mm_zs 121)), (q3, mm_li cI (mm_zs 121))] : va_W) H := hP
  have hD : va_D A ([(o, .inr (2, [.int 0, .ref q1, .ref q2, .int 0, .null, .int 0, .int 0, .int 0, .null, .int 0])), (q1, mm_li cI (mm_zs 120)), (q2, mm_li cI (mm_zs 121)), (q3, mm_li cI (mm_zs 121))] : va_W) := hD
  refine mm_putf C0 hin hP hD hS iw_X2 tyX2 tyX2_ok nmX2 0 rfl rfl 4 (by decide) fl_X2_18 rfl rfl rfl rfl (Nat.le_of_ble_eq_true rfl) dX2_init_25 (w2 := ([(o, .inr (2, [.int 0, .ref q1, .ref q2, .int 0, .ref q3, .int 0, .int 0, .int 0, .null, .int 0])), (q1, mm_li cI (mm_zs 120)), (q2, mm_li cI (mm_zs 121)), (q3, mm_li cI (mm_zs 121))] : va_W)) rfl (fun H locs hP hD hS => ?_)
  refine lv_aload_n hx hb dX2_init_28 rfl (lv_at hl 0 rfl) ?_
  refine lv_bipush (v := 121) hx hb dX2_init_29 (by decide) ?_
  refine mm_newi (N := 121) C0 hP hD hA hS (by decide) (by decide) (by decide) (Nat.le_of_ble_eq_true rfl) (Nat.le_of_ble_eq_true rfl) dX2_init_31 (fun q4 H hP hD hS => ?_)
  have hP : va_P D mm_cl ([(o, .inr (2, [.int 0, .ref q1, .ref q2, .int 0, .ref q3, .int 0, .int 0, .int 0, .null, .int 0])), (q1, mm_li cI (mm_zs 120)), (q2, mm_li cI (mm_zs 121)), (q3, mm_li cI (mm_zs 121)), (q4, mm_li cI (mm_zs 121))] : va_W) H := hP
  have hD : va_D A ([(o, .inr (2, [.int 0, .ref q1, .ref q2, .int 0, .ref q3, .int 0, .int 0, .int 0, .null, .int 0])), (q1, mm_li cI (mm_zs 120)), (q2, mm_li cI (mm_zs 121)), (q3, mm_li cI (mm_zs 121)), (q4, mm_li cI (mm_zs 121))] : va_W) := hD
  refine mm_putf C0 hin hP hD hS iw_X2 tyX2 tyX2_ok nmX2 0 rfl rfl 8 (by decide) fl_X2_21 rfl rfl rfl rfl (Nat.le_of_ble_eq_true rfl) dX2_init_33 (w2 := ([(o, .inr (2, [.int 0, .ref q1, .ref q2, .int 0, .ref q3, .int 0, .int 0, .int 0, .ref q4, .int 0])), (q1, mm_li cI (mm_zs 120)), (q2, mm_li cI (mm_zs 121)), (q3, mm_li cI (mm_zs 121)), (q4, mm_li cI (mm_zs 121))] : va_W)) rfl (fun H locs hP hD hS => ?_)
  exact mm_nret (fun k => [o, q1, q2, q3, q4].getD k 0) rfl [0, 1, 2, 3, 4] (by decide) rfl C0 hP hD hS dX2_init_36 (Nat.le_of_ble_eq_true rfl) (Nat.le_of_ble_eq_true rfl)
theorem nb_dX6_init_0 : bls_w cX6_init [(0, [42]), (1, [183, 0, 3]), (4, [42]), (5, [16, 60]), (7, [188, 11]), (9, [181, 0, 9]), (12, [177])] := bls_of (by decide +kernel)
theorem dX6_init_0 : decode cX6_init 0 = .ok (.aload_n 0, 1) := op_42 nb_dX6_init_0.1
set_option maxRecDepth 100000 in
theorem dX6_init_1 : decode cX6_init 1 = .ok (.invokespecial 3, 3) := (op_183 nb_dX6_init_0.2.1).trans rfl
theorem dX6_init_4 : decode cX6_init 4 = .ok (.aload_n 0, 1) := op_42 nb_dX6_init_0.2.2.1
set_option maxRecDepth 100000 in
theorem dX6_init_5 : decode cX6_init 5 = .ok (.bipush 60, 2) := (op_16 nb_dX6_init_0.2.2.2.1).trans rfl
theorem dX6_init_7 : decode cX6_init 7 = .ok (.newarray .long, 2) := op_188_11 nb_dX6_init_0.2.2.2.2.1
set_option maxRecDepth 100000 in
theorem dX6_init_9 : decode cX6_init 9 = .ok (.putfield 9, 3) := (op_181 nb_dX6_init_0.2.2.2.2.2.1).trans rfl
theorem dX6_init_12 : decode cX6_init 12 = .ok (.return_, 1) := op_177 nb_dX6_init_0.2.2.2.2.2.2.1
abbrev wn_X6 (cI cL cS cH : ClassId) (a : Nat → Nat) : va_W := wd_X6 cI cL cS cH a 0 0 0 0 (mm_zl 60)
set_option maxHeartbeats 8000000 in
set_option maxRecDepth 100000 in
theorem cnX6 {l : Launch} {D : va_G} {cI cL cS cH : ClassId} {o : Nat} : mm_Cn l yX6_init cX6_init 1 1 1 60 D (mm_T cI cL cS cH) o [(o, .inr (6, [.int 0, .int 0, .int 0, .int 0, .null]))] (wn_X6 cI cL cS cH) := by
  refine mm_ofn (by decide) rfl (by decide) ?_
  intro p e s m args below meth c A H locs ls C0 hin hO1 hO2 hP hD hA hS hl
  have C0 : mm_Cx p s m args meth c RX6 cX6_init 1 none D (mm_T cI cL cS cH) A := C0
  obtain ⟨hx, hb, hml, hown, hts, hr, hlocks, hK, hSt⟩ := id C0
  refine lv_aload_n hx hb dX6_init_0 rfl (lv_at hl 0 rfl) ?_
  refine mm_obj C0 ol_X6_3 hl.1 (by decide) dX6_init_1 ?_
  refine W.eq (g2 := F0 m 4 ls []) rfl ?_
  refine lv_aload_n hx hb dX6_init_4 rfl (lv_at hl 0 rfl) ?_
  refine lv_bipush (v := 60) hx hb dX6_init_5 (by decide) ?_
  refine mm_newl (N := 60) C0 hP hD hA hS (by decide) (by decide) (by decide) (Nat.le_of_ble_eq_true rfl) (Nat.le_of_ble_eq_true rfl) dX6_init_7 (fun q1 H hP hD hS => ?_)
  have hP : va_P D mm_cl ([(o, .inr (6, [.int 0, .int 0, .int 0, .int 0, .null])), (q1, mm_ll cL (mm_zl 60))] : va_W) H := hP
  have hD : va_D A ([(o, .inr (6, [.int 0, .int 0, .int 0, .int 0, .null])), (q1, mm_ll cL (mm_zl 60))] : va_W) := hD
  refine mm_putf C0 hin hP hD hS iw_X6 tyX6 tyX6_ok nmX6 0 rfl rfl 4 (by decide) fl_X6_9 rfl rfl rfl rfl (Nat.le_of_ble_eq_true rfl) dX6_init_9 (w2 := ([(o, .inr (6, [.int 0, .int 0, .int 0, .int 0, .ref q1])), (q1, mm_ll cL (mm_zl 60))] : va_W)) rfl (fun H locs hP hD hS => ?_)
  exact mm_nret (fun k => [o, q1].getD k 0) rfl [0, 1] (by decide) rfl C0 hP hD hS dX6_init_12 (Nat.le_of_ble_eq_true rfl) (Nat.le_of_ble_eq_true rfl)
theorem nb_dX7_init_0 : bls_w cX7_init [(0, [42]), (1, [183, 0, 3]), (4, [42]), (5, [17, 2, 168]), (8, [188, 10]), (10, [181, 0, 11]), (13, [42]), (14, [16, 8]), (16, [188, 10]), (18, [181, 0, 15]), (21, [42]), (22, [16, 7])] := bls_of (by decide +kernel)
theorem dX7_init_0 : decode cX7_init 0 = .ok (.aload_n 0, 1) := op_42 nb_dX7_init_0.1
set_option maxRecDepth 100000 in
theorem dX7_init_1 : decode cX7_init 1 = .ok (.invokespecial 3, 3) := (op_183 nb_dX7_init_0.2.1).trans rfl
theorem dX7_init_4 : decode cX7_init 4 = .ok (.aload_n 0, 1) := op_42 nb_dX7_init_0.2.2.1
set_option maxRecDepth 100000 in
theorem dX7_init_5 : decode cX7_init 5 = .ok (.sipush 680, 3) := (op_17 nb_dX7_init_0.2.2.2.1).trans rfl
theorem dX7_init_8 : decode cX7_init 8 = .ok (.newarray .int, 2) := op_188_10 nb_dX7_init_0.2.2.2.2.1
set_option maxRecDepth 100000 in
theorem dX7_init_10 : decode cX7_init 10 = .ok (.putfield 11, 3) := (op_181 nb_dX7_init_0.2.2.2.2.2.1).trans rfl
theorem dX7_init_13 : decode cX7_init 13 = .ok (.aload_n 0, 1) := op_42 nb_dX7_init_0.2.2.2.2.2.2.1
set_option maxRecDepth 100000 in
theorem dX7_init_14 : decode cX7_init 14 = .ok (.bipush 8, 2) := (op_16 nb_dX7_init_0.2.2.2.2.2.2.2.1).trans rfl
theorem dX7_init_16 : decode cX7_init 16 = .ok (.newarray .int, 2) := op_188_10 nb_dX7_init_0.2.2.2.2.2.2.2.2.1
set_option maxRecDepth 100000 in
theorem dX7_init_18 : decode cX7_init 18 = .ok (.putfield 15, 3) := (op_181 nb_dX7_init_0.2.2.2.2.2.2.2.2.2.1).trans rfl
theorem dX7_init_21 : decode cX7_init 21 = .ok (.aload_n 0, 1) := op_42 nb_dX7_init_0.2.2.2.2.2.2.2.2.2.2.1
set_option maxRecDepth 100000 in
theorem dX7_init_22 : decode cX7_init 22 = .ok (.bipush 7, 2) := (op_16 nb_dX7_init_0.2.2.2.2.2.2.2.2.2.2.2.1).trans rfl
theorem nb_dX7_init_24 : bls_w cX7_init [(24, [188, 10]), (26, [181, 0, 18]), (29, [177])] := bls_of (by decide +kernel)
theorem dX7_init_24 : decode cX7_init 24 = .ok (.newarray .int, 2) := op_188_10 nb_dX7_init_24.1
set_option maxRecDepth 100000 in
theorem dX7_init_26 : decode cX7_init 26 = .ok (.putfield 18, 3) := (op_181 nb_dX7_init_24.2.1).trans rfl
theorem dX7_init_29 : decode cX7_init 29 = .ok (.return_, 1) := op_177 nb_dX7_init_24.2.2.1
abbrev wn_X7 (cI cL cS cH : ClassId) (a : Nat → Nat) : va_W := wd_X7 cI cL cS cH a (mm_zs 680) (mm_zs 8) (mm_zs 7)
set_option maxHeartbeats 8000000 in
set_option maxRecDepth 100000 in
theorem cnX7 {l : Launch} {D : va_G} {cI cL cS cH : ClassId} {o : Nat} : mm_Cn l yX7_init cX7_init 1 1 3 695 D (mm_T cI cL cS cH) o [(o, .inr (7, [.null, .null, .null]))] (wn_X7 cI cL cS cH) := by
  refine mm_ofn (by decide) rfl (by decide) ?_
  intro p e s m args below meth c A H locs ls C0 hin hO1 hO2 hP hD hA hS hl
  have C0 : mm_Cx p s m args meth c RX7 cX7_init 1 none D (mm_T cI cL cS cH) A := C0
  obtain ⟨hx, hb, hml, hown, hts, hr, hlocks, hK, hSt⟩ := id C0
  refine lv_aload_n hx hb dX7_init_0 rfl (lv_at hl 0 rfl) ?_
  refine mm_obj C0 ol_X7_3 hl.1 (by decide) dX7_init_1 ?_
  refine W.eq (g2 := F0 m 4 ls []) rfl ?_
  refine lv_aload_n hx hb dX7_init_4 rfl (lv_at hl 0 rfl) ?_
  refine lv_sipush (v := 680) hx hb dX7_init_5 (by decide) ?_
  refine mm_newi (N := 680) C0 hP hD hA hS (by decide) (by decide) (by decide) (Nat.le_of_ble_eq_true rfl) (Nat.le_of_ble_eq_true rfl) dX7_init_8 (fun q1 H hP hD hS => ?_)
  have hP : va_P D mm_cl ([(o, .inr (7, [.null, .null, .null])), (q1, mm_li cI (mm_zs 680))] : va_W) H := hP
  have hD : va_D A ([(o, .inr (7, [.null, .null, .null])), (q1, mm_li cI (mm_zs 680))] : va_W) := hD
  refine mm_putf C0 hin hP hD hS iw_X7 tyX7 tyX7_ok nmX7 0 rfl rfl 0 (by decide) fl_X7_11 rfl rfl rfl rfl (Nat.le_of_ble_eq_true rfl) dX7_init_10 (w2 := ([(o, .inr (7, [.ref q1, .null, .null])), (q1, mm_li cI (mm_zs 680))] : va_W)) rfl (fun H locs hP hD hS => ?_)
  refine lv_aload_n hx hb dX7_init_13 rfl (lv_at hl 0 rfl) ?_
  refine lv_bipush (v := 8) hx hb dX7_init_14 (by decide) ?_
  refine mm_newi (N := 8) C0 hP hD hA hS (by decide) (by decide) (by decide) (Nat.le_of_ble_eq_true rfl) (Nat.le_of_ble_eq_true rfl) dX7_init_16 (fun q2 H hP hD hS => ?_)
  have hP : va_P D mm_cl ([(o, .inr (7, [.ref q1, .null, .null])), (q1, mm_li cI (mm_zs 680)), (q2, mm_li cI (mm_zs 8))] : va_W) H := hP
  have hD : va_D A ([(o, .inr (7, [.ref q1, .null, .null])), (q1, mm_li cI (mm_zs 680)), (q2, mm_li cI (mm_zs 8))] : va_W) := hD
  refine mm_putf C0 hin hP hD hS iw_X7 tyX7 tyX7_ok nmX7 0 rfl rfl 1 (by decide) fl_X7_15 rfl rfl rfl rfl (Nat.le_of_ble_eq_true rfl) dX7_init_18 (w2 := ([(o, .inr (7, [.ref q1, .ref q2, .null])), (q1, mm_li cI (mm_zs 680)), (q2, mm_li cI (mm_zs 8))] : va_W)) rfl (fun H locs hP hD hS => ?_)
  refine lv_aload_n hx hb dX7_init_21 rfl (lv_at hl 0 rfl) ?_
  refine lv_bipush (v := 7) hx hb dX7_init_22 (by decide) ?_
  refine mm_newi (N := 7) C0 hP hD hA hS (by decide) (by decide) (by decide) (Nat.le_of_ble_eq_true rfl) (Nat.le_of_ble_eq_true rfl) dX7_init_24 (fun q3 H hP hD hS => ?_)
  have hP : va_P D mm_cl ([(o, .inr (7, [.ref q1, .ref q2, .null])), (q1, mm_li cI (mm_zs 680)), (q2, mm_li cI (mm_zs 8)), (q3, mm_li cI (mm_zs 7))] : va_W) H := hP
  have hD : va_D A ([(o, .inr (7, [.ref q1, .ref q2, .null])), (q1, mm_li cI (mm_zs 680)), (q2, mm_li cI (mm_zs 8)), (q3, mm_li cI (mm_zs 7))] : va_W) := hD
  refine mm_putf C0 hin hP hD hS iw_X7 tyX7 tyX7_ok nmX7 0 rfl rfl 2 (by decide) fl_X7_18 rfl rfl rfl rfl (Nat.le_of_ble_eq_true rfl) dX7_init_26 (w2 := ([(o, .inr (7, [.ref q1, .ref q2, .ref q3])), (q1, mm_li cI (mm_zs 680)), (q2, mm_li cI (mm_zs 8)), (q3, mm_li cI (mm_zs 7))] : va_W)) rfl (fun H locs hP hD hS => ?_)
  exact mm_nret (fun k => [o, q1, q2, q3].getD k 0) rfl [0, 1, 2, 3] (by decide) rfl C0 hP hD hS dX7_init_29 (Nat.le_of_ble_eq_true rfl) (Nat.le_of_ble_eq_true rfl)
theorem nb_dX5_init_0 : bls_w cX5_init [(0, [42]), (1, [183, 0, 3]), (4, [42]), (5, [16, 32]), (7, [188, 10]), (9, [181, 0, 9]), (12, [42]), (13, [16, 32]), (15, [188, 10]), (17, [181, 0, 15]), (20, [42]), (21, [16, 32])] := bls_of (by decide +kernel)
theorem dX5_init_0 : decode cX5_init 0 = .ok (.aload_n 0, 1) := op_42 nb_dX5_init_0.1
set_option maxRecDepth 100000 in
theorem dX5_init_1 : decode cX5_init 1 = .ok (.invokespecial 3, 3) := (op_183 nb_dX5_init_0.2.1).trans rfl
theorem dX5_init_4 : decode cX5_init 4 = .ok (.aload_n 0, 1) := op_42 nb_dX5_init_0.2.2.1
set_option maxRecDepth 100000 in
theorem dX5_init_5 : decode cX5_init 5 = .ok (.bipush 32, 2) := (op_16 nb_dX5_init_0.2.2.2.1).trans rfl
theorem dX5_init_7 : decode cX5_init 7 = .ok (.newarray .int, 2) := op_188_10 nb_dX5_init_0.2.2.2.2.1
set_option maxRecDepth 100000 in
theorem dX5_init_9 : decode cX5_init 9 = .ok (.putfield 9, 3) := (op_181 nb_dX5_init_0.2.2.2.2.2.1).trans rfl
theorem dX5_init_12 : decode cX5_init 12 = .ok (.aload_n 0, 1) := op_42 nb_dX5_init_0.2.2.2.2.2.2.1
set_option maxRecDepth 100000 in
theorem dX5_init_13 : decode cX5_init 13 = .ok (.bipush 32, 2) := (op_16 nb_dX5_init_0.2.2.2.2.2.2.2.1).trans rfl
theorem dX5_init_15 : decode cX5_init 15 = .ok (.newarray .int, 2) := op_188_10 nb_dX5_init_0.2.2.2.2.2.2.2.2.1
set_option maxRecDepth 100000 in
theorem dX5_init_17 : decode cX5_init 17 = .ok (.putfield 15, 3) := (op_181 nb_dX5_init_0.2.2.2.2.2.2.2.2.2.1).trans rfl
theorem dX5_init_20 : decode cX5_init 20 = .ok (.aload_n 0, 1) := op_42 nb_dX5_init_0.2.2.2.2.2.2.2.2.2.2.1
set_option maxRecDepth 100000 in
theorem dX5_init_21 : decode cX5_init 21 = .ok (.bipush 32, 2) := (op_16 nb_dX5_init_0.2.2.2.2.2.2.2.2.2.2.2.1).trans rfl
theorem nb_dX5_init_23 : bls_w cX5_init [(23, [188, 10]), (25, [181, 0, 18]), (28, [42]), (29, [16, 32]), (31, [188, 10]), (33, [181, 0, 21]), (36, [42]), (37, [16, 64]), (39, [188, 10]), (41, [181, 0, 24]), (44, [42]), (45, [16, 64])] := bls_of (by decide +kernel)
theorem dX5_init_23 : decode cX5_init 23 = .ok (.newarray .int, 2) := op_188_10 nb_dX5_init_23.1
set_option maxRecDepth 100000 in
theorem dX5_init_25 : decode cX5_init 25 = .ok (.putfield 18, 3) := (op_181 nb_dX5_init_23.2.1).trans rfl
theorem dX5_init_28 : decode cX5_init 28 = .ok (.aload_n 0, 1) := op_42 nb_dX5_init_23.2.2.1
set_option maxRecDepth 100000 in
theorem dX5_init_29 : decode cX5_init 29 = .ok (.bipush 32, 2) := (op_16 nb_dX5_init_23.2.2.2.1).trans rfl
theorem dX5_init_31 : decode cX5_init 31 = .ok (.newarray .int, 2) := op_188_10 nb_dX5_init_23.2.2.2.2.1
set_option maxRecDepth 100000 in
theorem dX5_init_33 : decode cX5_init 33 = .ok (.putfield 21, 3) := (op_181 nb_dX5_init_23.2.2.2.2.2.1).trans rfl
theorem dX5_init_36 : decode cX5_init 36 = .ok (.aload_n 0, 1) := op_42 nb_dX5_init_23.2.2.2.2.2.2.1
set_option maxRecDepth 100000 in
theorem dX5_init_37 : decode cX5_init 37 = .ok (.bipush 64, 2) := (op_16 nb_dX5_init_23.2.2.2.2.2.2.2.1).trans rfl
theorem dX5_init_39 : decode cX5_init 39 = .ok (.newarray .int, 2) := op_188_10 nb_dX5_init_23.2.2.2.2.2.2.2.2.1
set_option maxRecDepth 100000 in
theorem dX5_init_41 : decode cX5_init 41 = .ok (.putfield 24, 3) := (op_181 nb_dX5_init_23.2.2.2.2.2.2.2.2.2.1).trans rfl
theorem dX5_init_44 : decode cX5_init 44 = .ok (.aload_n 0, 1) := op_42 nb_dX5_init_23.2.2.2.2.2.2.2.2.2.2.1
set_option maxRecDepth 100000 in
theorem dX5_init_45 : decode cX5_init 45 = .ok (.bipush 64, 2) := (op_16 nb_dX5_init_23.2.2.2.2.2.2.2.2.2.2.2.1).trans rfl
theorem nb_dX5_init_47 : bls_w cX5_init [(47, [188, 10]), (49, [181, 0, 27]), (52, [42]), (53, [16, 64]), (55, [188, 10]), (57, [181, 0, 30]), (60, [42]), (61, [16, 32]), (63, [188, 10]), (65, [181, 0, 33]), (68, [42]), (69, [5])] := bls_of (by decide +kernel)
theorem dX5_init_47 : decode cX5_init 47 = .ok (.newarray .int, 2) := op_188_10 nb_dX5_init_47.1
set_option maxRecDepth 100000 in
theorem dX5_init_49 : decode cX5_init 49 = .ok (.putfield 27, 3) := (op_181 nb_dX5_init_47.2.1).trans rfl
theorem dX5_init_52 : decode cX5_init 52 = .ok (.aload_n 0, 1) := op_42 nb_dX5_init_47.2.2.1
set_option maxRecDepth 100000 in
theorem dX5_init_53 : decode cX5_init 53 = .ok (.bipush 64, 2) := (op_16 nb_dX5_init_47.2.2.2.1).trans rfl
theorem dX5_init_55 : decode cX5_init 55 = .ok (.newarray .int, 2) := op_188_10 nb_dX5_init_47.2.2.2.2.1
set_option maxRecDepth 100000 in
theorem dX5_init_57 : decode cX5_init 57 = .ok (.putfield 30, 3) := (op_181 nb_dX5_init_47.2.2.2.2.2.1).trans rfl
theorem dX5_init_60 : decode cX5_init 60 = .ok (.aload_n 0, 1) := op_42 nb_dX5_init_47.2.2.2.2.2.2.1
set_option maxRecDepth 100000 in
theorem dX5_init_61 : decode cX5_init 61 = .ok (.bipush 32, 2) := (op_16 nb_dX5_init_47.2.2.2.2.2.2.2.1).trans rfl
theorem dX5_init_63 : decode cX5_init 63 = .ok (.newarray .int, 2) := op_188_10 nb_dX5_init_47.2.2.2.2.2.2.2.2.1
set_option maxRecDepth 100000 in
theorem dX5_init_65 : decode cX5_init 65 = .ok (.putfield 33, 3) := (op_181 nb_dX5_init_47.2.2.2.2.2.2.2.2.2.1).trans rfl
theorem dX5_init_68 : decode cX5_init 68 = .ok (.aload_n 0, 1) := op_42 nb_dX5_init_47.2.2.2.2.2.2.2.2.2.2.1
theorem dX5_init_69 : decode cX5_init 69 = .ok (.iconst 2, 1) := op_5 nb_dX5_init_47.2.2.2.2.2.2.2.2.2.2.2.1
theorem nb_dX5_init_70 : bls_w cX5_init [(70, [7]), (71, [182, 0, 36]), (74, [177])] := bls_of (by decide +kernel)
theorem dX5_init_70 : decode cX5_init 70 = .ok (.iconst 4, 1) := op_7 nb_dX5_init_70.1
set_option maxRecDepth 100000 in
theorem dX5_init_71 : decode cX5_init 71 = .ok (.invokevirtual 36, 3) := (op_182 nb_dX5_init_70.2.1).trans rfl
theorem dX5_init_74 : decode cX5_init 74 = .ok (.return_, 1) := op_177 nb_dX5_init_70.2.2.1
abbrev wn_X5 (cI cL cS cH : ClassId) (a : Nat → Nat) : va_W := wd_X5 cI cL cS cH a 2 4 2 4 0 0 0 z5_rowOf z5_colOf (mm_zs 32) (mm_zs 32) (mm_zs 64) (mm_zs 64) (mm_zs 64) (mm_zs 32)
set_option maxHeartbeats 8000000 in
set_option maxRecDepth 100000 in
theorem cnX5 {l : Launch} {D : va_G} {cI cL cS cH : ClassId} {o : Nat} : mm_Cn l yX5_init cX5_init 1 3 8 352 D (mm_T cI cL cS cH) o [(o, .inr (5, [.int 0, .int 0, .int 0, .int 0, .int 0, .int 0, .int 0, .null, .null, .null, .null, .null, .null, .null, .null]))] (wn_X5 cI cL cS cH) := by
  refine mm_ofn (by decide) rfl (by decide) ?_
  intro p e s m args below meth c A H locs ls C0 hin hO1 hO2 hP hD hA hS hl
  have C0 : mm_Cx p s m args meth c RX5 cX5_init 1 none D (mm_T cI cL cS cH) A := C0
  obtain ⟨hx, hb, hml, hown, hts, hr, hlocks, hK, hSt⟩ := id C0
  refine lv_aload_n hx hb dX5_init_0 rfl (lv_at hl 0 rfl) ?_
  refine mm_obj C0 ol_X5_3 hl.1 (by decide) dX5_init_1 ?_
  refine W.eq (g2 := F0 m 4 ls []) rfl ?_
  refine lv_aload_n hx hb dX5_init_4 rfl (lv_at hl 0 rfl) ?_
  refine lv_bipush (v := 32) hx hb dX5_init_5 (by decide) ?_
  refine mm_newi (N := 32) C0 hP hD hA hS (by decide) (by decide) (by decide) (Nat.le_of_ble_eq_true rfl) (Nat.le_of_ble_eq_true rfl) dX5_init_7 (fun q1 H hP hD hS => ?_)
  have hP : va_P D mm_cl ([(o, .inr (5, [.int 0, .int 0, .int 0, .int 0, .int 0, .int 0, .int 0, .null, .null, .null, .null, .null, .null, .null, .null])), (q1, mm_li cI (mm_zs 32))] : va_W) H := hP
  have hD : va_D A ([(o, .inr (5, [.int 0, .int 0, .int 0, .int 0, .int 0, .int 0, .int 0, .null, .null, .null, .null, .null, .null, .null, .null])), (q1, mm_li cI (mm_zs 32))] : va_W) := hD
  refine mm_putf C0 hin hP hD hS iw_X5 tyX5 tyX5_ok nmX5 0 rfl rfl 7 (by decide) fl_X5_9 rfl rfl rfl rfl (Nat.le_of_ble_eq_true rfl) dX5_init_9 (w2 := ([(o, .inr (5, [.int 0, .int 0, .int 0, .int 0, .int 0, .int 0, .int 0, .ref q1, .null, .null, .null, .null, .null, .null, .null])), (q1, mm_li cI (mm_zs 32))] : va_W)) rfl (fun H locs hP hD hS => ?_)
  refine lv_aload_n hx hb dX5_init_12 rfl (lv_at hl 0 rfl) ?_
  refine lv_bipush (v := 32) hx hb dX5_init_13 (by decide) ?_
  refine mm_newi (N := 32) C0 hP hD hA hS (by decide) (by decide) (by decide) (Nat.le_of_ble_eq_true rfl) (Nat.le_of_ble_eq_true rfl) dX5_init_15 (fun q2 H hP hD hS => ?_)
  have hP : va_P D mm_cl ([(o, .inr (5, [.int 0, .int 0, .int 0, .int 0, .int 0, .int 0, .int 0, .ref q1, .null, .null, .null, .null, .null, .null, .null])), (q1, mm_li cI (mm_zs 32)), (q2, mm_li cI (mm_zs 32))] : va_W) H := hP
  have hD : va_D A ([(o, .inr (5, [.int 0, .int 0, .int 0, .int 0, .int 0, .int 0, .int 0, .ref q1, .null, .null, .null, .null, .null, .null, .null])), (q1, mm_li cI (mm_zs 32)), (q2, mm_li cI (mm_zs 32))] : va_W) := hD
  refine mm_putf C0 hin hP hD hS iw_X5 tyX5 tyX5_ok nmX5 0 rfl rfl 8 (by decide) fl_X5_15 rfl rfl rfl rfl (Nat.le_of_ble_eq_true rfl) dX5_init_17 (w2 := ([(o, .inr (5, [.int 0, .int 0, .int 0, .int 0, .int 0, .int 0, .int 0, .ref q1, .ref q2, .null, .null, .null, .null, .null, .null])), (q1, mm_li cI (mm_zs 32)), (q2, mm_li cI (mm_zs 32))] : va_W)) rfl (fun H locs hP hD hS => ?_)
  refine lv_aload_n hx hb dX5_init_20 rfl (lv_at hl 0 rfl) ?_
  refine lv_bipush (v := 32) hx hb dX5_init_21 (by decide) ?_
  refine mm_newi (N := 32) C0 hP hD hA hS (by decide) (by decide) (by decide) (Nat.le_of_ble_eq_true rfl) (Nat.le_of_ble_eq_true rfl) dX5_init_23 (fun q3 H hP hD hS => ?_)
  have hP : va_P D mm_cl ([(o, .inr (5, [.int 0, .int 0, .int 0, .int 0, .int 0, .int 0, .int 0, .ref q1, .ref q2, .null, .null, .null, .null, .null, .null])), (q1, mm_li cI (mm_zs 32)), (q2, mm_li cI (mm_zs 32)), (q3, mm_li cI (mm_zs 32))] : va_W) H := hP
  have hD : va_D A ([(o, .inr (5, [.int 0, .int 0, .int 0, .int 0, .int 0, .int 0, .int 0, .ref q1, .ref q2, .null, .null, .null, .null, .null, .null])), (q1, mm_li cI (mm_zs 32)), (q2, mm_li cI (mm_zs 32)), (q3, mm_li cI (mm_zs 32))] : va_W) := hD
  refine mm_putf C0 hin hP hD hS iw_X5 tyX5 tyX5_ok nmX5 0 rfl rfl 9 (by decide) fl_X5_18 rfl rfl rfl rfl (Nat.le_of_ble_eq_true rfl) dX5_init_25 (w2 := ([(o, .inr (5, [.int 0, .int 0, .int 0, .int 0, .int 0, .int 0, .int 0, .ref q1, .ref q2, .ref q3, .null, .null, .null, .null, .null])), (q1, mm_li cI (mm_zs 32)), (q2, mm_li cI (mm_zs 32)), (q3, mm_li cI (mm_zs 32))] : va_W)) rfl (fun H locs hP hD hS => ?_)
  refine lv_aload_n hx hb dX5_init_28 rfl (lv_at hl 0 rfl) ?_
  refine lv_bipush (v := 32) hx hb dX5_init_29 (by decide) ?_
  refine mm_newi (N := 32) C0 hP hD hA hS (by decide) (by decide) (by decide) (Nat.le_of_ble_eq_true rfl) (Nat.le_of_ble_eq_true rfl) dX5_init_31 (fun q4 H hP hD hS => ?_)
  have hP : va_P D mm_cl ([(o, .inr (5, [.int 0, .int 0, .int 0, .int 0, .int 0, .int 0, .int 0, .ref q1, .ref q2, .ref q3, .null, .null, .null, .null, .null])), (q1, mm_li cI (mm_zs 32)), (q2, mm_li cI (mm_zs 32)), (q3, mm_li cI (mm_zs 32)), (q4, mm_li cI (mm_zs 32))] : va_W) H := hP
  have hD : va_D A ([(o, .inr (5, [.int 0, .int 0, .int 0, .int 0, .int 0, .int 0, .int 0, .ref q1, .ref q2, .ref q3, .null, .null, .null, .null, .null])), (q1, mm_li cI (mm_zs 32)), (q2, mm_li cI (mm_zs 32)), (q3, mm_li cI (mm_zs 32)), (q4, mm_li cI (mm_zs 32))] : va_W) := hD
  refine mm_putf C0 hin hP hD hS iw_X5 tyX5 tyX5_ok nmX5 0 rfl rfl 10 (by decide) fl_X5_21 rfl rfl rfl rfl (Nat.le_of_ble_eq_true rfl) dX5_init_33 (w2 := ([(o, .inr (5, [.int 0, .int 0, .int 0, .int 0, .int 0, .int 0, .int 0, .ref q1, .ref q2, .ref q3, .ref q4, .null, .null, .null, .null])), (q1, mm_li cI (mm_zs 32)), (q2, mm_li cI (mm_zs 32)), (q3, mm_li cI (mm_zs 32)), (q4, mm_li cI (mm_zs 32))] : va_W)) rfl (fun H locs hP hD hS => ?_)
  refine lv_aload_n hx hb dX5_init_36 rfl (lv_at hl 0 rfl) ?_
  refine lv_bipush (v := 64) hx hb dX5_init_37 (by decide) ?_
  refine mm_newi (N := 64) C0 hP hD hA hS (by decide) (by decide) (by decide) (Nat.le_of_ble_eq_true rfl) (Nat.le_of_ble_eq_true rfl) dX5_init_39 (fun q5 H hP hD hS => ?_)
  have hP : va_P D mm_cl ([(o, .inr (5, [.int 0, .int 0, .int 0, .int 0, .int 0, .int 0, .int 0, .ref q1, .ref q2, .ref q3, .ref q4, .null, .null, .null, .null])), (q1, mm_li cI (mm_zs 32)), (q2, mm_li cI (mm_zs 32)), (q3, mm_li cI (mm_zs 32)), (q4, mm_li cI (mm_zs 32)), (q5, mm_li cI (mm_zs 64))] : va_W) H := hP
  have hD : va_D A ([(o, .inr (5, [.int 0, .int 0, .int 0, .int 0, .int 0, .int 0, .int 0, .ref q1, .ref q2, .ref q3, .ref q4, .null, .null, .null, .null])), (q1, mm_li cI (mm_zs 32)), (q2, mm_li cI (mm_zs 32)), (q3, mm_li cI (mm_zs 32)), (q4, mm_li cI (mm_zs 32)), (q5, mm_li cI (mm_zs 64))] : va_W) := hD
  refine mm_putf C0 hin hP hD hS iw_X5 tyX5 tyX5_ok nmX5 0 rfl rfl 11 (by decide) fl_X5_24 rfl rfl rfl rfl (Nat.le_of_ble_eq_true rfl) dX5_init_41 (w2 := ([(o, .inr (5, [.int 0, .int 0, .int 0, .int 0, .int 0, .int 0, .int 0, .ref q1, .ref q2, .ref q3, .ref q4, .ref q5, .null, .null, .null])), (q1, mm_li cI (mm_zs 32)), (q2, mm_li cI (mm_zs 32)), (q3, mm_li cI (mm_zs 32)), (q4, mm_li cI (mm_zs 32)), (q5, mm_li cI (mm_zs 64))] : va_W)) rfl (fun H locs hP hD hS => ?_)
  refine lv_aload_n hx hb dX5_init_44 rfl (lv_at hl 0 rfl) ?_
  refine lv_bipush (v := 64) hx hb dX5_init_45 (by decide) ?_
  refine mm_newi (N := 64) C0 hP hD hA hS (by decide) (by decide) (by decide) (Nat.le_of_ble_eq_true rfl) (Nat.le_of_ble_eq_true rfl) dX5_init_47 (fun q6 H hP hD hS => ?_)
  have hP : va_P D mm_cl ([(o, .inr (5, [.int 0, .int 0, .int 0, .int 0, .int 0, .int 0, .int 0, .ref q1, .ref q2, .ref q3, .ref q4, .ref q5, .null, .null, .null])), (q1, mm_li cI (mm_zs 32)), (q2, mm_li cI (mm_zs 32)), (q3, mm_li cI (mm_zs 32)), (q4, mm_li cI (mm_zs 32)), (q5, mm_li cI (mm_zs 64)), (q6, mm_li cI (mm_zs 64))] : va_W) H := hP
  have hD : va_D A ([(o, .inr (5, [.int 0, .int 0, .int 0, .int 0, .int 0, .int 0, .int 0, .ref q1, .ref q2, .ref q3, .ref q4, .ref q5, .null, .null, .null])), (q1, mm_li cI (mm_zs 32)), (q2, mm_li cI (mm_zs 32)), (q3, mm_li cI (mm_zs 32)), (q4, mm_li cI (mm_zs 32)), (q5, mm_li cI (mm_zs 64)), (q6, mm_li cI (mm_zs 64))] : va_W) := hD
  refine mm_putf C0 hin hP hD hS iw_X5 tyX5 tyX5_ok nmX5 0 rfl rfl 12 (by decide) fl_X5_27 rfl rfl rfl rfl (Nat.le_of_ble_eq_true rfl) dX5_init_49 (w2 := ([(o, .inr (5, [.int 0, .int 0, .int 0, .int 0, .int 0, .int 0, .int 0, .ref q1, .ref q2, .ref q3, .ref q4, .ref q5, .ref q6, .null, .null])), (q1, mm_li cI (mm_zs 32)), (q2, mm_li cI (mm_zs 32)), (q3, mm_li cI (mm_zs 32)), (q4, mm_li cI (mm_zs 32)), (q5, mm_li cI (mm_zs 64)), (q6, mm_li cI (mm_zs 64))] : va_W)) rfl (fun H locs hP hD hS => ?_)
  refine lv_aload_n hx hb dX5_init_52 rfl (lv_at hl 0 rfl) ?_
  refine lv_bipush (v := 64) hx hb dX5_init_53 (by decide) ?_
  refine mm_newi (N := 64) C0 hP hD hA hS (by decide) (by decide) (by decide) (Nat.le_of_ble_eq_true rfl) (Nat.le_of_ble_eq_true rfl) dX5_init_55 (fun q7 H hP hD hS => ?_)
  have hP : va_P D mm_cl ([(o, .inr (5, [.int 0, .int 0, .int 0, .int 0, .int 0, .int 0, .int 0, .ref q1, .ref q2, .ref q3, .ref q4, .ref q5, .ref q6, .null, .null])), (q1, mm_li cI (mm_zs 32)), (q2, mm_li cI (mm_zs 32)), (q3, mm_li cI (mm_zs 32)), (q4, mm_li cI (mm_zs 32)), (q5, mm_li cI (mm_zs 64)), (q6, mm_li cI (mm_zs 64)), (q7, mm_li cI (mm_zs 64))] : va_W) H := hP
  have hD : va_D A ([(o, .inr (5, [.int 0, .int 0, .int 0, .int 0, .int 0, .int 0, .int 0, .ref q1, .ref q2, .ref q3, .ref q4, .ref q5, .ref q6, .null, .null])), (q1, mm_li cI (mm_zs 32)), (q2, mm_li cI (mm_zs 32)), (q3, mm_li cI (mm_zs 32)), (q4, mm_li cI (mm_zs 32)), (q5, mm_li cI (mm_zs 64)), (q6, mm_li cI (mm_zs 64)), (q7, mm_li cI (mm_zs 64))] : va_W) := hD
  refine mm_putf C0 hin hP hD hS iw_X5 tyX5 tyX5_ok nmX5 0 rfl rfl 13 (by decide) fl_X5_30 rfl rfl rfl rfl (Nat.le_of_ble_eq_true rfl) dX5_init_57 (w2 := ([(o, .inr (5, [.int 0, .int 0, .int 0, .int 0, .int 0, .int 0, .int 0, .ref q1, .ref q2, .ref q3, .ref q4, .ref q5, .ref q6, .ref q7, .null])), (q1, mm_li cI (mm_zs 32)), (q2, mm_li cI (mm_zs 32)), (q3, mm_li cI (mm_zs 32)), (q4, mm_li cI (mm_zs 32)), (q5, mm_li cI (mm_zs 64)), (q6, mm_li cI (mm_zs 64)), (q7, mm_li cI (mm_zs 64))] : va_W)) rfl (fun H locs hP hD hS => ?_)
  refine lv_aload_n hx hb dX5_init_60 rfl (lv_at hl 0 rfl) ?_
  refine lv_bipush (v := 32) hx hb dX5_init_61 (by decide) ?_
  refine mm_newi (N := 32) C0 hP hD hA hS (by decide) (by decide) (by decide) (Nat.le_of_ble_eq_true rfl) (Nat.le_of_ble_eq_true rfl) dX5_init_63 (fun q8 H hP hD hS => ?_)
  have hP : va_P D mm_cl ([(o, .inr (5, [.int 0, .int 0, .int 0, .int 0, .int 0, .int 0, .int 0, .ref q1, .ref q2, .ref q3, .ref q4, .ref q5, .ref q6, .ref q7, .null])), (q1, mm_li cI (mm_zs 32)), (q2, mm_li cI (mm_zs 32)), (q3, mm_li cI (mm_zs 32)), (q4, mm_li cI (mm_zs 32)), (q5, mm_li cI (mm_zs 64)), (q6, mm_li cI (mm_zs 64)), (q7, mm_li cI (mm_zs 64)), (q8, mm_li cI (mm_zs 32))] : va_W) H := hP
  have hD : va_D A ([(o, .inr (5, [.int 0, .int 0, .int 0, .int 0, .int 0, .int 0, .int 0, .ref q1, .ref q2, .ref q3, .ref q4, .ref q5, .ref q6, .ref q7, .null])), (q1, mm_li cI (mm_zs 32)), (q2, mm_li cI (mm_zs 32)), (q3, mm_li cI (mm_zs 32)), (q4, mm_li cI (mm_zs 32)), (q5, mm_li cI (mm_zs 64)), (q6, mm_li cI (mm_zs 64)), (q7, mm_li cI (mm_zs 64)), (q8, mm_li cI (mm_zs 32))] : va_W) := hD
  refine mm_putf C0 hin hP hD hS iw_X5 tyX5 tyX5_ok nmX5 0 rfl rfl 14 (by decide) fl_X5_33 rfl rfl rfl rfl (Nat.le_of_ble_eq_true rfl) dX5_init_65 (w2 := ([(o, .inr (5, [.int 0, .int 0, .int 0, .int 0, .int 0, .int 0, .int 0, .ref q1, .ref q2, .ref q3, .ref q4, .ref q5, .ref q6, .ref q7, .ref q8])), (q1, mm_li cI (mm_zs 32)), (q2, mm_li cI (mm_zs 32)), (q3, mm_li cI (mm_zs 32)), (q4, mm_li cI (mm_zs 32)), (q5, mm_li cI (mm_zs 64)), (q6, mm_li cI (mm_zs 64)), (q7, mm_li cI (mm_zs 64)), (q8, mm_li cI (mm_zs 32))] : va_W)) rfl (fun H locs hP hD hS => ?_)
  refine lv_aload_n hx hb dX5_init_68 rfl (lv_at hl 0 rfl) ?_
  refine lv_iconst (v := 2) hx hb dX5_init_69 (by decide) ?_
  refine lv_iconst (v := 4) hx hb dX5_init_70 (by decide) ?_
  have hc : fX5_renew 70 2 4 0 0 0 0 0 0 0 (mm_zs 32) (mm_zs 32) (mm_zs 32) (mm_zs 32) (mm_zs 64) (mm_zs 64) = some (2, 4, 2, 4, 0, 0, 0, z5_rowOf, z5_colOf, (mm_zs 32), (mm_zs 32), (mm_zs 64), (mm_zs 64)) := mm_chk13 (by decide +kernel)
  refine mm_callVn (q0 := 0) (ci := 5) (rest := []) (d := 3) C0 lk_X5_36 (ctX5_renew (a := (fun k => [o, q1, q2, q3, q4, q5, q6, q7, q8].getD k 0)) (d := 2) (by decide) hc) (by decide) rfl hl.1 rfl (mm_cat rfl) dX5_init_71 hP hD hA hS rfl rfl (Nat.le_of_ble_eq_true rfl) (Nat.le_of_ble_eq_true rfl) (fun H locs hP hD hS => ?_)
  refine W.eq (g2 := F0 m 74 ls []) rfl ?_
  exact mm_nret (fun k => [o, q1, q2, q3, q4, q5, q6, q7, q8].getD k 0) rfl [0, 1, 2, 3, 4, 5, 6, 7, 8] (by decide) rfl C0 hP hD hS dX5_init_74 (Nat.le_of_ble_eq_true rfl) (Nat.le_of_ble_eq_true rfl)
theorem nb_dX3_init_0 : bls_w cX3_init [(0, [42]), (1, [183, 0, 3]), (4, [42]), (5, [187, 0, 9]), (8, [89]), (9, [183, 0, 11]), (12, [181, 0, 12]), (15, [42]), (16, [16, 12]), (18, [188, 10]), (20, [181, 0, 18]), (23, [42])] := bls_of (by decide +kernel)
theorem dX3_init_0 : decode cX3_init 0 = .ok (.aload_n 0, 1) := op_42 nb_dX3_init_0.1
set_option maxRecDepth 100000 in
theorem dX3_init_1 : decode cX3_init 1 = .ok (.invokespecial 3, 3) := (op_183 nb_dX3_init_0.2.1).trans rfl
theorem dX3_init_4 : decode cX3_init 4 = .ok (.aload_n 0, 1) := op_42 nb_dX3_init_0.2.2.1
set_option maxRecDepth 100000 in
theorem dX3_init_5 : decode cX3_init 5 = .ok (.new 9, 3) := (op_187 nb_dX3_init_0.2.2.2.1).trans rfl
theorem dX3_init_8 : decode cX3_init 8 = .ok (.dup, 1) := op_89 nb_dX3_init_0.2.2.2.2.1
set_option maxRecDepth 100000 in
theorem dX3_init_9 : decode cX3_init 9 = .ok (.invokespecial 11, 3) := (op_183 nb_dX3_init_0.2.2.2.2.2.1).trans rfl
set_option maxRecDepth 100000 in
theorem dX3_init_12 : decode cX3_init 12 = .ok (.putfield 12, 3) := (op_181 nb_dX3_init_0.2.2.2.2.2.2.1).trans rfl
theorem dX3_init_15 : decode cX3_init 15 = .ok (.aload_n 0, 1) := op_42 nb_dX3_init_0.2.2.2.2.2.2.2.1
set_option maxRecDepth 100000 in
theorem dX3_init_16 : decode cX3_init 16 = .ok (.bipush 12, 2) := (op_16 nb_dX3_init_0.2.2.2.2.2.2.2.2.1).trans rfl
theorem dX3_init_18 : decode cX3_init 18 = .ok (.newarray .int, 2) := op_188_10 nb_dX3_init_0.2.2.2.2.2.2.2.2.2.1
set_option maxRecDepth 100000 in
theorem dX3_init_20 : decode cX3_init 20 = .ok (.putfield 18, 3) := (op_181 nb_dX3_init_0.2.2.2.2.2.2.2.2.2.2.1).trans rfl
theorem dX3_init_23 : decode cX3_init 23 = .ok (.aload_n 0, 1) := op_42 nb_dX3_init_0.2.2.2.2.2.2.2.2.2.2.2.1
theorem nb_dX3_init_24 : bls_w cX3_init [(24, [16, 12]), (26, [188, 10]), (28, [181, 0, 22]), (31, [177])] := bls_of (by decide +kernel)
set_option maxRecDepth 100000 in
theorem dX3_init_24 : decode cX3_init 24 = .ok (.bipush 12, 2) := (op_16 nb_dX3_init_24.1).trans rfl
theorem dX3_init_26 : decode cX3_init 26 = .ok (.newarray .int, 2) := op_188_10 nb_dX3_init_24.2.1
set_option maxRecDepth 100000 in
theorem dX3_init_28 : decode cX3_init 28 = .ok (.putfield 22, 3) := (op_181 nb_dX3_init_24.2.2.1).trans rfl
theorem dX3_init_31 : decode cX3_init 31 = .ok (.return_, 1) := op_177 nb_dX3_init_24.2.2.2.1
abbrev wn_X3 (cI cL cS cH : ClassId) (a : Nat → Nat) : va_W := wd_X3 cI cL cS cH a 0 2 4 2 4 0 0 0 z5_rowOf z5_colOf (mm_zs 32) (mm_zs 32) (mm_zs 64) (mm_zs 64) (mm_zs 64) (mm_zs 32) (mm_zs 12) (mm_zs 12)
set_option maxHeartbeats 8000000 in
set_option maxRecDepth 100000 in
theorem cnX3 {l : Launch} {D : va_G} {cI cL cS cH : ClassId} {o : Nat} : mm_Cn l yX3_init cX3_init 1 4 11 391 D (mm_T cI cL cS cH) o [(o, .inr (3, [.int 0, .null, .null, .null]))] (wn_X3 cI cL cS cH) := by
  refine mm_ofn (by decide) rfl (by decide) ?_
  intro p e s m args below meth c A H locs ls C0 hin hO1 hO2 hP hD hA hS hl
  have C0 : mm_Cx p s m args meth c RX3 cX3_init 1 none D (mm_T cI cL cS cH) A := C0
  obtain ⟨hx, hb, hml, hown, hts, hr, hlocks, hK, hSt⟩ := id C0
  refine lv_aload_n hx hb dX3_init_0 rfl (lv_at hl 0 rfl) ?_
  refine mm_obj C0 ol_X3_3 hl.1 (by decide) dX3_init_1 ?_
  refine W.eq (g2 := F0 m 4 ls []) rfl ?_
  refine lv_aload_n hx hb dX3_init_4 rfl (lv_at hl 0 rfl) ?_
  refine mm_newo (ci := 5) (fs := [.int 0, .int 0, .int 0, .int 0, .int 0, .int 0, .int 0, .null, .null, .null, .null, .null, .null, .null, .null]) C0 hP hD hA hS iw_X5 tyX5 tyX5_ok kl_X3_9 kn_X5 ki_X5 rfl (by decide) (Nat.le_of_ble_eq_true rfl) (Nat.le_of_ble_eq_true rfl) dX3_init_5 (fun q1 H hP hD hS => ?_)
  refine lv_dup hx hb dX3_init_8 rfl ?_
  refine mm_callI2 (d := 4) (rest := [.ref q1, .ref o]) C0 hO1 hO2 li_X3_11 (cnX5 (o := q1)) (by decide) rfl rfl hl.1 rfl (mm_cat rfl) dX3_init_9 (Nat.le_of_ble_eq_true rfl) (Nat.le_of_ble_eq_true rfl) hP hD hA hS (fun b2 H locs hb0 hPn hDn hSn => ?_)
  clear hP hD hS
  subst hb0
  have hP := hPn
  have hD := hDn
  have hS := hSn
  have hP : va_P D mm_cl ([(o, .inr (3, [.int 0, .null, .null, .null]))] ++ wn_X5 cI cL cS cH b2) H := hP
  have hD : va_D A ([(o, .inr (3, [.int 0, .null, .null, .null]))] ++ wn_X5 cI cL cS cH b2) := hD
  refine mm_putf C0 hin hP hD hS iw_X3 tyX3 tyX3_ok nmX3 0 rfl rfl 1 (by decide) fl_X3_12 rfl rfl rfl rfl (Nat.le_of_ble_eq_true rfl) dX3_init_12 (w2 := ([(o, .inr (3, [.int 0, .ref (b2 0), .null, .null]))] ++ wn_X5 cI cL cS cH b2)) rfl (fun H locs hP hD hS => ?_)
  refine lv_aload_n hx hb dX3_init_15 rfl (lv_at hl 0 rfl) ?_
  refine lv_bipush (v := 12) hx hb dX3_init_16 (by decide) ?_
  refine mm_newi (N := 12) C0 hP hD hA hS (by decide) (by decide) (by decide) (Nat.le_of_ble_eq_true rfl) (Nat.le_of_ble_eq_true rfl) dX3_init_18 (fun q3 H hP hD hS => ?_)
  have hP : va_P D mm_cl ([(o, .inr (3, [.int 0, .ref (b2 0), .null, .null]))] ++ wn_X5 cI cL cS cH b2 ++ [(q3, mm_li cI (mm_zs 12))]) H := hP
  have hD : va_D A ([(o, .inr (3, [.int 0, .ref (b2 0), .null, .null]))] ++ wn_X5 cI cL cS cH b2 ++ [(q3, mm_li cI (mm_zs 12))]) := hD
  refine mm_putf C0 hin hP hD hS iw_X3 tyX3 tyX3_ok nmX3 0 rfl rfl 2 (by decide) fl_X3_18 rfl rfl rfl rfl (Nat.le_of_ble_eq_true rfl) dX3_init_20 (w2 := ([(o, .inr (3, [.int 0, .ref (b2 0), .ref q3, .null]))] ++ wn_X5 cI cL cS cH b2 ++ [(q3, mm_li cI (mm_zs 12))])) rfl (fun H locs hP hD hS => ?_)
  refine lv_aload_n hx hb dX3_init_23 rfl (lv_at hl 0 rfl) ?_
  refine lv_bipush (v := 12) hx hb dX3_init_24 (by decide) ?_
  refine mm_newi (N := 12) C0 hP hD hA hS (by decide) (by decide) (by decide) (Nat.le_of_ble_eq_true rfl) (Nat.le_of_ble_eq_true rfl) dX3_init_26 (fun q4 H hP hD hS => ?_)
  have hP : va_P D mm_cl ([(o, .inr (3, [.int 0, .ref (b2 0), .ref q3, .null]))] ++ wn_X5 cI cL cS cH b2 ++ [(q3, mm_li cI (mm_zs 12)), (q4, mm_li cI (mm_zs 12))]) H := hP
  have hD : va_D A ([(o, .inr (3, [.int 0, .ref (b2 0), .ref q3, .null]))] ++ wn_X5 cI cL cS cH b2 ++ [(q3, mm_li cI (mm_zs 12)), (q4, mm_li cI (mm_zs 12))]) := hD
  refine mm_putf C0 hin hP hD hS iw_X3 tyX3 tyX3_ok nmX3 0 rfl rfl 3 (by decide) fl_X3_22 rfl rfl rfl rfl (Nat.le_of_ble_eq_true rfl) dX3_init_28 (w2 := ([(o, .inr (3, [.int 0, .ref (b2 0), .ref q3, .ref q4]))] ++ wn_X5 cI cL cS cH b2 ++ [(q3, mm_li cI (mm_zs 12)), (q4, mm_li cI (mm_zs 12))])) rfl (fun H locs hP hD hS => ?_)
  exact mm_nret (fun k => [o, b2 0, b2 1, b2 2, b2 3, b2 4, b2 5, b2 6, b2 7, b2 8, q3, q4].getD k 0) rfl [0, 1, 2, 3, 4, 5, 6, 7, 8, 9, 10, 11] (by decide) rfl C0 hP hD hS dX3_init_31 (Nat.le_of_ble_eq_true rfl) (Nat.le_of_ble_eq_true rfl)
theorem nb_dX4_init_0 : bls_w cX4_init [(0, [42]), (1, [183, 0, 3]), (4, [42]), (5, [7]), (6, [189, 0, 9]), (9, [181, 0, 11]), (12, [42]), (13, [6]), (14, [188, 10]), (16, [181, 0, 17]), (19, [42]), (20, [6])] := bls_of (by decide +kernel)
theorem dX4_init_0 : decode cX4_init 0 = .ok (.aload_n 0, 1) := op_42 nb_dX4_init_0.1
set_option maxRecDepth 100000 in
theorem dX4_init_1 : decode cX4_init 1 = .ok (.invokespecial 3, 3) := (op_183 nb_dX4_init_0.2.1).trans rfl
theorem dX4_init_4 : decode cX4_init 4 = .ok (.aload_n 0, 1) := op_42 nb_dX4_init_0.2.2.1
theorem dX4_init_5 : decode cX4_init 5 = .ok (.iconst 4, 1) := op_7 nb_dX4_init_0.2.2.2.1
set_option maxRecDepth 100000 in
theorem dX4_init_6 : decode cX4_init 6 = .ok (.anewarray 9, 3) := (op_189 nb_dX4_init_0.2.2.2.2.1).trans rfl
set_option maxRecDepth 100000 in
theorem dX4_init_9 : decode cX4_init 9 = .ok (.putfield 11, 3) := (op_181 nb_dX4_init_0.2.2.2.2.2.1).trans rfl
theorem dX4_init_12 : decode cX4_init 12 = .ok (.aload_n 0, 1) := op_42 nb_dX4_init_0.2.2.2.2.2.2.1
theorem dX4_init_13 : decode cX4_init 13 = .ok (.iconst 3, 1) := op_6 nb_dX4_init_0.2.2.2.2.2.2.2.1
theorem dX4_init_14 : decode cX4_init 14 = .ok (.newarray .int, 2) := op_188_10 nb_dX4_init_0.2.2.2.2.2.2.2.2.1
set_option maxRecDepth 100000 in
theorem dX4_init_16 : decode cX4_init 16 = .ok (.putfield 17, 3) := (op_181 nb_dX4_init_0.2.2.2.2.2.2.2.2.2.1).trans rfl
theorem dX4_init_19 : decode cX4_init 19 = .ok (.aload_n 0, 1) := op_42 nb_dX4_init_0.2.2.2.2.2.2.2.2.2.2.1
theorem dX4_init_20 : decode cX4_init 20 = .ok (.iconst 3, 1) := op_6 nb_dX4_init_0.2.2.2.2.2.2.2.2.2.2.2.1
theorem nb_dX4_init_21 : bls_w cX4_init [(21, [188, 10]), (23, [181, 0, 21]), (26, [3]), (27, [60]), (28, [27]), (29, [6]), (30, [163, 0, 22]), (33, [42]), (34, [180, 0, 11]), (37, [27]), (38, [187, 0, 9]), (41, [89])] := bls_of (by decide +kernel)
theorem dX4_init_21 : decode cX4_init 21 = .ok (.newarray .int, 2) := op_188_10 nb_dX4_init_21.1
set_option maxRecDepth 100000 in
theorem dX4_init_23 : decode cX4_init 23 = .ok (.putfield 21, 3) := (op_181 nb_dX4_init_21.2.1).trans rfl
theorem dX4_init_26 : decode cX4_init 26 = .ok (.iconst 0, 1) := op_3 nb_dX4_init_21.2.2.1
theorem dX4_init_27 : decode cX4_init 27 = .ok (.istore_n 1, 1) := op_60 nb_dX4_init_21.2.2.2.1
theorem dX4_init_28 : decode cX4_init 28 = .ok (.iload_n 1, 1) := op_27 nb_dX4_init_21.2.2.2.2.1
theorem dX4_init_29 : decode cX4_init 29 = .ok (.iconst 3, 1) := op_6 nb_dX4_init_21.2.2.2.2.2.1
set_option maxRecDepth 100000 in
theorem dX4_init_30 : decode cX4_init 30 = .ok (.if_icmp .gt 22, 3) := (op_163 nb_dX4_init_21.2.2.2.2.2.2.1).trans rfl
theorem dX4_init_33 : decode cX4_init 33 = .ok (.aload_n 0, 1) := op_42 nb_dX4_init_21.2.2.2.2.2.2.2.1
set_option maxRecDepth 100000 in
theorem dX4_init_34 : decode cX4_init 34 = .ok (.getfield 11, 3) := (op_180 nb_dX4_init_21.2.2.2.2.2.2.2.2.1).trans rfl
theorem dX4_init_37 : decode cX4_init 37 = .ok (.iload_n 1, 1) := op_27 nb_dX4_init_21.2.2.2.2.2.2.2.2.2.1
set_option maxRecDepth 100000 in
theorem dX4_init_38 : decode cX4_init 38 = .ok (.new 9, 3) := (op_187 nb_dX4_init_21.2.2.2.2.2.2.2.2.2.2.1).trans rfl
theorem dX4_init_41 : decode cX4_init 41 = .ok (.dup, 1) := op_89 nb_dX4_init_21.2.2.2.2.2.2.2.2.2.2.2.1
theorem nb_dX4_init_42 : bls_w cX4_init [(42, [183, 0, 24]), (45, [83]), (46, [132, 1, 1]), (49, [167, 255, 235]), (52, [177])] := bls_of (by decide +kernel)
set_option maxRecDepth 100000 in
theorem dX4_init_42 : decode cX4_init 42 = .ok (.invokespecial 24, 3) := (op_183 nb_dX4_init_42.1).trans rfl
theorem dX4_init_45 : decode cX4_init 45 = .ok (.aastore, 1) := op_83 nb_dX4_init_42.2.1
set_option maxRecDepth 100000 in
theorem dX4_init_46 : decode cX4_init 46 = .ok (.iinc 1 1, 3) := (op_132 nb_dX4_init_42.2.2.1).trans rfl
set_option maxRecDepth 100000 in
theorem dX4_init_49 : decode cX4_init 49 = .ok (.goto (-21), 3) := (op_167 nb_dX4_init_42.2.2.2.1).trans rfl
theorem dX4_init_52 : decode cX4_init 52 = .ok (.return_, 1) := op_177 nb_dX4_init_42.2.2.2.2.1
abbrev wn_X4 (cI cL cS cH : ClassId) (a : Nat → Nat) : va_W := wd_X4 cI cL cS cH a false 0 0 0 0 2 4 2 4 0 0 0 z5_rowOf z5_colOf (mm_zs 32) (mm_zs 32) (mm_zs 64) (mm_zs 64) (mm_zs 64) (mm_zs 32) 2 4 2 4 0 0 0 z5_rowOf z5_colOf (mm_zs 32) (mm_zs 32) (mm_zs 64) (mm_zs 64) (mm_zs 64) (mm_zs 32) 2 4 2 4 0 0 0 z5_rowOf z5_colOf (mm_zs 32) (mm_zs 32) (mm_zs 64) (mm_zs 64) (mm_zs 64) (mm_zs 32) 2 4 2 4 0 0 0 z5_rowOf z5_colOf (mm_zs 32) (mm_zs 32) (mm_zs 64) (mm_zs 64) (mm_zs 64) (mm_zs 32) (mm_zs 3) (mm_zs 3)
set_option maxHeartbeats 8000000 in
set_option maxRecDepth 100000 in
theorem cnX4 {l : Launch} {D : va_G} {cI cL cS cH : ClassId} {o : Nat} : mm_Cn l yX4_init cX4_init 2 4 39 1478 D (mm_T cI cL cS cH) o [(o, .inr (4, [.int 0, .int 0, .int 0, .int 0, .null, .null, .null, .int 0]))] (wn_X4 cI cL cS cH) := by
  refine mm_ofn (by decide) rfl (by decide) ?_
  intro p e s m args below meth c A H locs ls C0 hin hO1 hO2 hP hD hA hS hl
  have C0 : mm_Cx p s m args meth c RX4 cX4_init 2 none D (mm_T cI cL cS cH) A := C0
  obtain ⟨hx, hb, hml, hown, hts, hr, hlocks, hK, hSt⟩ := id C0
  refine lv_aload_n hx hb dX4_init_0 rfl (lv_at hl 0 rfl) ?_
  refine mm_obj C0 ol_X4_3 hl.1 (by decide) dX4_init_1 ?_
  refine W.eq (g2 := F0 m 4 ls []) rfl ?_
  refine lv_aload_n hx hb dX4_init_4 rfl (lv_at hl 0 rfl) ?_
  refine lv_iconst (v := 4) hx hb dX4_init_5 (by decide) ?_
  refine mm_newq (N := 4) 2 rfl C0 hO1 kl_X4_9 hP hD hA hS (by decide) (by decide) (by decide) (Nat.le_of_ble_eq_true rfl) (Nat.le_of_ble_eq_true rfl) dX4_init_6 (fun q1 H hP hD hS => ?_)
  have hP : va_P D mm_cl ([(o, .inr (4, [.int 0, .int 0, .int 0, .int 0, .null, .null, .null, .int 0])), (q1, mm_lo cS [none, none, none, none])] : va_W) H := hP
  have hD : va_D A ([(o, .inr (4, [.int 0, .int 0, .int 0, .int 0, .null, .null, .null, .int 0])), (q1, mm_lo cS [none, none, none, none])] : va_W) := hD
  refine mm_putf C0 hin hP hD hS iw_X4 tyX4 tyX4_ok nmX4 0 rfl rfl 4 (by decide) fl_X4_11 rfl rfl rfl rfl (Nat.le_of_ble_eq_true rfl) dX4_init_9 (w2 := ([(o, .inr (4, [.int 0, .int 0, .int 0, .int 0, .ref q1, .null, .null, .int 0])), (q1, mm_lo cS [none, none, none, none])] : va_W)) rfl (fun H locs hP hD hS => ?_)
  refine lv_aload_n hx hb dX4_init_12 rfl (lv_at hl 0 rfl) ?_
  refine lv_iconst (v := 3) hx hb dX4_init_13 (by decide) ?_
  refine mm_newi (N := 3) C0 hP hD hA hS (by decide) (by decide) (by decide) (Nat.le_of_ble_eq_true rfl) (Nat.le_of_ble_eq_true rfl) dX4_init_14 (fun q2 H hP hD hS => ?_)
  have hP : va_P D mm_cl ([(o, .inr (4, [.int 0, .int 0, .int 0, .int 0, .ref q1, .null, .null, .int 0])), (q1, mm_lo cS [none, none, none, none]), (q2, mm_li cI (mm_zs 3))] : va_W) H := hP
  have hD : va_D A ([(o, .inr (4, [.int 0, .int 0, .int 0, .int 0, .ref q1, .null, .null, .int 0])), (q1, mm_lo cS [none, none, none, none]), (q2, mm_li cI (mm_zs 3))] : va_W) := hD
  refine mm_putf C0 hin hP hD hS iw_X4 tyX4 tyX4_ok nmX4 0 rfl rfl 5 (by decide) fl_X4_17 rfl rfl rfl rfl (Nat.le_of_ble_eq_true rfl) dX4_init_16 (w2 := ([(o, .inr (4, [.int 0, .int 0, .int 0, .int 0, .ref q1, .ref q2, .null, .int 0])), (q1, mm_lo cS [none, none, none, none]), (q2, mm_li cI (mm_zs 3))] : va_W)) rfl (fun H locs hP hD hS => ?_)
  refine lv_aload_n hx hb dX4_init_19 rfl (lv_at hl 0 rfl) ?_
  refine lv_iconst (v := 3) hx hb dX4_init_20 (by decide) ?_
  refine mm_newi (N := 3) C0 hP hD hA hS (by decide) (by decide) (by decide) (Nat.le_of_ble_eq_true rfl) (Nat.le_of_ble_eq_true rfl) dX4_init_21 (fun q3 H hP hD hS => ?_)
  have hP : va_P D mm_cl ([(o, .inr (4, [.int 0, .int 0, .int 0, .int 0, .ref q1, .ref q2, .null, .int 0])), (q1, mm_lo cS [none, none, none, none]), (q2, mm_li cI (mm_zs 3)), (q3, mm_li cI (mm_zs 3))] : va_W) H := hP
  have hD : va_D A ([(o, .inr (4, [.int 0, .int 0, .int 0, .int 0, .ref q1, .ref q2, .null, .int 0])), (q1, mm_lo cS [none, none, none, none]), (q2, mm_li cI (mm_zs 3)), (q3, mm_li cI (mm_zs 3))] : va_W) := hD
  refine mm_putf C0 hin hP hD hS iw_X4 tyX4 tyX4_ok nmX4 0 rfl rfl 6 (by decide) fl_X4_21 rfl rfl rfl rfl (Nat.le_of_ble_eq_true rfl) dX4_init_23 (w2 := ([(o, .inr (4, [.int 0, .int 0, .int 0, .int 0, .ref q1, .ref q2, .ref q3, .int 0])), (q1, mm_lo cS [none, none, none, none]), (q2, mm_li cI (mm_zs 3)), (q3, mm_li cI (mm_zs 3))] : va_W)) rfl (fun H locs hP hD hS => ?_)
  refine lv_iconst (v := 0) hx hb dX4_init_26 (by decide) ?_
  refine lv_istore_n (lv' := [(1, .int 0), (0, .ref o)]) hx hb dX4_init_27 rfl hl (by decide) rfl (fun ls hl => ?_)
  refine lv_iload_n hx hb dX4_init_28 rfl (lv_at hl 0 rfl) ?_
  refine lv_iconst (v := 3) hx hb dX4_init_29 (by decide) ?_
  refine lv_icmp_gt (tgt := 52) hx hb dX4_init_30 (by decide) (fun c9 => absurd c9 (by decide)) (fun _ => ?_)
  refine lv_aload_n hx hb dX4_init_33 rfl (lv_at hl 1 rfl) ?_
  refine mm_get C0 hP iw_X4 0 rfl rfl 4 (by decide) fl_X4_11 rfl dX4_init_34 ?_
  refine lv_iload_n hx hb dX4_init_37 rfl (lv_at hl 0 rfl) ?_
  refine mm_newo (ci := 5) (fs := [.int 0, .int 0, .int 0, .int 0, .int 0, .int 0, .int 0, .null, .null, .null, .null, .null, .null, .null, .null]) C0 hP hD hA hS iw_X5 tyX5 tyX5_ok kl_X4_9 kn_X5 ki_X5 rfl (by decide) (Nat.le_of_ble_eq_true rfl) (Nat.le_of_ble_eq_true rfl) dX4_init_38 (fun q4 H hP hD hS => ?_)
  refine lv_dup hx hb dX4_init_41 rfl ?_
  refine mm_callI2 (d := 4) (rest := [.ref q4, .int 0, .ref q1]) C0 hO1 hO2 li_X4_24 (cnX5 (o := q4)) (by decide) rfl rfl hl.1 rfl (mm_cat rfl) dX4_init_42 (Nat.le_of_ble_eq_true rfl) (Nat.le_of_ble_eq_true rfl) hP hD hA hS (fun b5 H locs hb0 hPn hDn hSn => ?_)
  clear hP hD hS
  subst hb0
  have hP := hPn
  have hD := hDn
  have hS := hSn
  have hP : va_P D mm_cl ([(o, .inr (4, [.int 0, .int 0, .int 0, .int 0, .ref q1, .ref q2, .ref q3, .int 0])), (q1, mm_lo cS [none, none, none, none]), (q2, mm_li cI (mm_zs 3)), (q3, mm_li cI (mm_zs 3))] ++ wn_X5 cI cL cS cH b5) H := hP
  have hD : va_D A ([(o, .inr (4, [.int 0, .int 0, .int 0, .int 0, .ref q1, .ref q2, .ref q3, .int 0])), (q1, mm_lo cS [none, none, none, none]), (q2, mm_li cI (mm_zs 3)), (q3, mm_li cI (mm_zs 3))] ++ wn_X5 cI cL cS cH b5) := hD
  refine mm_astq (ci := 5) 2 rfl C0 hP hD hS 1 4 rfl rfl rfl rfl dX4_init_45 (w2 := ([(o, .inr (4, [.int 0, .int 0, .int 0, .int 0, .ref q1, .ref q2, .ref q3, .int 0])), (q1, mm_lo cS [some (b5 0), none, none, none]), (q2, mm_li cI (mm_zs 3)), (q3, mm_li cI (mm_zs 3))] ++ wn_X5 cI cL cS cH b5)) rfl (fun H locs hP hD hS => ?_)
  refine lv_iinc (v := 1) (lv' := [(1, .int 1), (0, .ref o)]) hx hb dX4_init_46 hl (k := 0) rfl (by decide) (by decide) rfl (fun ls hl => ?_)
  refine lv_goto (tgt := 28) hx hb dX4_init_49 (by decide) ?_
  refine lv_iload_n hx hb dX4_init_28 rfl (lv_at hl 0 rfl) ?_
  refine lv_iconst (v := 3) hx hb dX4_init_29 (by decide) ?_
  refine lv_icmp_gt (tgt := 52) hx hb dX4_init_30 (by decide) (fun c9 => absurd c9 (by decide)) (fun _ => ?_)
  refine lv_aload_n hx hb dX4_init_33 rfl (lv_at hl 1 rfl) ?_
  refine mm_get C0 hP iw_X4 0 rfl rfl 4 (by decide) fl_X4_11 rfl dX4_init_34 ?_
  refine lv_iload_n hx hb dX4_init_37 rfl (lv_at hl 0 rfl) ?_
  refine mm_newo (ci := 5) (fs := [.int 0, .int 0, .int 0, .int 0, .int 0, .int 0, .int 0, .null, .null, .null, .null, .null, .null, .null, .null]) C0 hP hD hA hS iw_X5 tyX5 tyX5_ok kl_X4_9 kn_X5 ki_X5 rfl (by decide) (Nat.le_of_ble_eq_true rfl) (Nat.le_of_ble_eq_true rfl) dX4_init_38 (fun q6 H hP hD hS => ?_)
  refine lv_dup hx hb dX4_init_41 rfl ?_
  refine mm_callI2 (d := 4) (rest := [.ref q6, .int 1, .ref q1]) C0 hO1 hO2 li_X4_24 (cnX5 (o := q6)) (by decide) rfl rfl hl.1 rfl (mm_cat rfl) dX4_init_42 (Nat.le_of_ble_eq_true rfl) (Nat.le_of_ble_eq_true rfl) hP hD hA hS (fun b7 H locs hb0 hPn hDn hSn => ?_)
  clear hP hD hS
  subst hb0
  have hP := hPn
  have hD := hDn
  have hS := hSn
  have hP : va_P D mm_cl ([(o, .inr (4, [.int 0, .int 0, .int 0, .int 0, .ref q1, .ref q2, .ref q3, .int 0])), (q1, mm_lo cS [some (b5 0), none, none, none]), (q2, mm_li cI (mm_zs 3)), (q3, mm_li cI (mm_zs 3))] ++ wn_X5 cI cL cS cH b5 ++ wn_X5 cI cL cS cH b7) H := hP
  have hD : va_D A ([(o, .inr (4, [.int 0, .int 0, .int 0, .int 0, .ref q1, .ref q2, .ref q3, .int 0])), (q1, mm_lo cS [some (b5 0), none, none, none]), (q2, mm_li cI (mm_zs 3)), (q3, mm_li cI (mm_zs 3))] ++ wn_X5 cI cL cS cH b5 ++ wn_X5 cI cL cS cH b7) := hD
  refine mm_astq (ci := 5) 2 rfl C0 hP hD hS 1 13 rfl rfl rfl rfl dX4_init_45 (w2 := ([(o, .inr (4, [.int 0, .int 0, .int 0, .int 0, .ref q1, .ref q2, .ref q3, .int 0])), (q1, mm_lo cS [some (b5 0), some (b7 0), none, none]), (q2, mm_li cI (mm_zs 3)), (q3, mm_li cI (mm_zs 3))] ++ wn_X5 cI cL cS cH b5 ++ wn_X5 cI cL cS cH b7)) rfl (fun H locs hP hD hS => ?_)
  refine lv_iinc (v := 2) (lv' := [(1, .int 2), (0, .ref o)]) hx hb dX4_init_46 hl (k := 0) rfl (by decide) (by decide) rfl (fun ls hl => ?_)
  refine lv_goto (tgt := 28) hx hb dX4_init_49 (by decide) ?_
  refine lv_iload_n hx hb dX4_init_28 rfl (lv_at hl 0 rfl) ?_
  refine lv_iconst (v := 3) hx hb dX4_init_29 (by decide) ?_
  refine lv_icmp_gt (tgt := 52) hx hb dX4_init_30 (by decide) (fun c9 => absurd c9 (by decide)) (fun _ => ?_)
  refine lv_aload_n hx hb dX4_init_33 rfl (lv_at hl 1 rfl) ?_
  refine mm_get C0 hP iw_X4 0 rfl rfl 4 (by decide) fl_X4_11 rfl dX4_init_34 ?_
  refine lv_iload_n hx hb dX4_init_37 rfl (lv_at hl 0 rfl) ?_
  refine mm_newo (ci := 5) (fs := [.int 0, .int 0, .int 0, .int 0, .int 0, .int 0, .int 0, .null, .null, .null, .null, .null, .null, .null, .null]) C0 hP hD hA hS iw_X5 tyX5 tyX5_ok kl_X4_9 kn_X5 ki_X5 rfl (by decide) (Nat.le_of_ble_eq_true rfl) (Nat.le_of_ble_eq_true rfl) dX4_init_38 (fun q8 H hP hD hS => ?_)
  refine lv_dup hx hb dX4_init_41 rfl ?_
  refine mm_callI2 (d := 4) (rest := [.ref q8, .int 2, .ref q1]) C0 hO1 hO2 li_X4_24 (cnX5 (o := q8)) (by decide) rfl rfl hl.1 rfl (mm_cat rfl) dX4_init_42 (Nat.le_of_ble_eq_true rfl) (Nat.le_of_ble_eq_true rfl) hP hD hA hS (fun b9 H locs hb0 hPn hDn hSn => ?_)
  clear hP hD hS
  subst hb0
  have hP := hPn
  have hD := hDn
  have hS := hSn
  have hP : va_P D mm_cl ([(o, .inr (4, [.int 0, .int 0, .int 0, .int 0, .ref q1, .ref q2, .ref q3, .int 0])), (q1, mm_lo cS [some (b5 0), some (b7 0), none, none]), (q2, mm_li cI (mm_zs 3)), (q3, mm_li cI (mm_zs 3))] ++ wn_X5 cI cL cS cH b5 ++ wn_X5 cI cL cS cH b7 ++ wn_X5 cI cL cS cH b9) H := hP
  have hD : va_D A ([(o, .inr (4, [.int 0, .int 0, .int 0, .int 0, .ref q1, .ref q2, .ref q3, .int 0])), (q1, mm_lo cS [some (b5 0), some (b7 0), none, none]), (q2, mm_li cI (mm_zs 3)), (q3, mm_li cI (mm_zs 3))] ++ wn_X5 cI cL cS cH b5 ++ wn_X5 cI cL cS cH b7 ++ wn_X5 cI cL cS cH b9) := hD
  refine mm_astq (ci := 5) 2 rfl C0 hP hD hS 1 22 rfl rfl rfl rfl dX4_init_45 (w2 := ([(o, .inr (4, [.int 0, .int 0, .int 0, .int 0, .ref q1, .ref q2, .ref q3, .int 0])), (q1, mm_lo cS [some (b5 0), some (b7 0), some (b9 0), none]), (q2, mm_li cI (mm_zs 3)), (q3, mm_li cI (mm_zs 3))] ++ wn_X5 cI cL cS cH b5 ++ wn_X5 cI cL cS cH b7 ++ wn_X5 cI cL cS cH b9)) rfl (fun H locs hP hD hS => ?_)
  refine lv_iinc (v := 3) (lv' := [(1, .int 3), (0, .ref o)]) hx hb dX4_init_46 hl (k := 0) rfl (by decide) (by decide) rfl (fun ls hl => ?_)
  refine lv_goto (tgt := 28) hx hb dX4_init_49 (by decide) ?_
  refine lv_iload_n hx hb dX4_init_28 rfl (lv_at hl 0 rfl) ?_
  refine lv_iconst (v := 3) hx hb dX4_init_29 (by decide) ?_
  refine lv_icmp_gt (tgt := 52) hx hb dX4_init_30 (by decide) (fun c9 => absurd c9 (by decide)) (fun _ => ?_)
  refine lv_aload_n hx hb dX4_init_33 rfl (lv_at hl 1 rfl) ?_
  refine mm_get C0 hP iw_X4 0 rfl rfl 4 (by decide) fl_X4_11 rfl dX4_init_34 ?_
  refine lv_iload_n hx hb dX4_init_37 rfl (lv_at hl 0 rfl) ?_
  refine mm_newo (ci := 5) (fs := [.int 0, .int 0, .int 0, .int 0, .int 0, .int 0, .int 0, .null, .null, .null, .null, .null, .null, .null, .null]) C0 hP hD hA hS iw_X5 tyX5 tyX5_ok kl_X4_9 kn_X5 ki_X5 rfl (by decide) (Nat.le_of_ble_eq_true rfl) (Nat.le_of_ble_eq_true rfl) dX4_init_38 (fun q10 H hP hD hS => ?_)
  refine lv_dup hx hb dX4_init_41 rfl ?_
  refine mm_callI2 (d := 4) (rest := [.ref q10, .int 3, .ref q1]) C0 hO1 hO2 li_X4_24 (cnX5 (o := q10)) (by decide) rfl rfl hl.1 rfl (mm_cat rfl) dX4_init_42 (Nat.le_of_ble_eq_true rfl) (Nat.le_of_ble_eq_true rfl) hP hD hA hS (fun b11 H locs hb0 hPn hDn hSn => ?_)
  clear hP hD hS
  subst hb0
  have hP := hPn
  have hD := hDn
  have hS := hSn
  have hP : va_P D mm_cl ([(o, .inr (4, [.int 0, .int 0, .int 0, .int 0, .ref q1, .ref q2, .ref q3, .int 0])), (q1, mm_lo cS [some (b5 0), some (b7 0), some (b9 0), none]), (q2, mm_li cI (mm_zs 3)), (q3, mm_li cI (mm_zs 3))] ++ wn_X5 cI cL cS cH b5 ++ wn_X5 cI cL cS cH b7 ++ wn_X5 cI cL cS cH b9 ++ wn_X5 cI cL cS cH b11) H := hP
  have hD : va_D A ([(o, .inr (4, [.int 0, .int 0, .int 0, .int 0, .ref q1, .ref q2, .ref q3, .int 0])), (q1, mm_lo cS [some (b5 0), some (b7 0), some (b9 0), none]), (q2, mm_li cI (mm_zs 3)), (q3, mm_li cI (mm_zs 3))] ++ wn_X5 cI cL cS cH b5 ++ wn_X5 cI cL cS cH b7 ++ wn_X5 cI cL cS cH b9 ++ wn_X5 cI cL cS cH b11) := hD
  refine mm_astq (ci := 5) 2 rfl C0 hP hD hS 1 31 rfl rfl rfl rfl dX4_init_45 (w2 := ([(o, .inr (4, [.int 0, .int 0, .int 0, .int 0, .ref q1, .ref q2, .ref q3, .int 0])), (q1, mm_lo cS [some (b5 0), some (b7 0), some (b9 0), some (b11 0)]), (q2, mm_li cI (mm_zs 3)), (q3, mm_li cI (mm_zs 3))] ++ wn_X5 cI cL cS cH b5 ++ wn_X5 cI cL cS cH b7 ++ wn_X5 cI cL cS cH b9 ++ wn_X5 cI cL cS cH b11)) rfl (fun H locs hP hD hS => ?_)
  refine lv_iinc (v := 4) (lv' := [(1, .int 4), (0, .ref o)]) hx hb dX4_init_46 hl (k := 0) rfl (by decide) (by decide) rfl (fun ls hl => ?_)
  refine lv_goto (tgt := 28) hx hb dX4_init_49 (by decide) ?_
  refine lv_iload_n hx hb dX4_init_28 rfl (lv_at hl 0 rfl) ?_
  refine lv_iconst (v := 3) hx hb dX4_init_29 (by decide) ?_
  refine lv_icmp_gt (tgt := 52) hx hb dX4_init_30 (by decide) (fun _ => ?_) (fun c9 => absurd c9 (by decide))
  rw [show mm_lo cS [some (b5 0), some (b7 0), some (b9 0), some (b11 0)] = mm_lr cS [(b5 0), (b7 0), (b9 0), (b11 0)] from mm_lolr cS [(b5 0), (b7 0), (b9 0), (b11 0)]] at hP hD
  exact mm_nret (fun k => [o, q1, b5 0, b5 1, b5 2, b5 3, b5 4, b5 5, b5 6, b5 7, b5 8, b7 0, b7 1, b7 2, b7 3, b7 4, b7 5, b7 6, b7 7, b7 8, b9 0, b9 1, b9 2, b9 3, b9 4, b9 5, b9 6, b9 7, b9 8, b11 0, b11 1, b11 2, b11 3, b11 4, b11 5, b11 6, b11 7, b11 8, q2, q3].getD k 0) rfl [0, 1, 4, 5, 6, 7, 8, 9, 10, 11, 12, 13, 14, 15, 16, 17, 18, 19, 20, 21, 22, 23, 24, 25, 26, 27, 28, 29, 30, 31, 32, 33, 34, 35, 36, 37, 38, 39, 2, 3] (by decide) rfl C0 hP hD hS dX4_init_52 (Nat.le_of_ble_eq_true rfl) (Nat.le_of_ble_eq_true rfl)
end
section
/-! The class's own constructor -/
theorem mm_pt (a r b : va_W) : (a ++ r ++ b).Perm (a ++ b ++ r) := by
  rw [List.append_assoc, List.append_assoc]
  exact List.Perm.append_left a List.perm_append_comm
theorem mm_pfin (o q : Nat × va_E) (r s1 s2 s3 s4 s5 s6 : va_W) : ([o, q] ++ (s6 ++ (s5 ++ (s4 ++ (s3 ++ (s2 ++ (s1 ++ r))))))).Perm ([o] ++ r ++ [q] ++ s1 ++ s2 ++ s3 ++ s4 ++ s5 ++ s6) := by
  haveI : DecidableEq (Nat × va_E) := fun a b => Classical.propDecidable (a = b)
  rw [List.perm_iff_count]
  intro x
  simp only [List.count_append, List.count_cons, List.count_nil]
  omega
theorem mm_nretP {p : Program} {l : Launch} {e : Env} {R : Room} {s : State} {m : MethodId} {args : Array Value} {below : List Frame} {meth : Method} {c : Code} {H : Heap} {locs : List Loc} {cells slots : Nat} {own : String} {cc : ByteArray} {nL : Nat} {D : va_G} {cI cL cS cH : ClassId} {A : Nat → Prop} {pc : Nat} {ls : Array Slot} {mc ms o : Nat} {w' : va_W} {wf : (Nat → Nat) → va_W} (a : Nat → Nat) (ha : a 0 = o) (h2 : w'.Perm (wf a)) (C0 : mm_Cx p s m args meth c own cc nL none D (mm_T cI cL cS cH) A) (hP : va_P D mm_cl w' H) (hD : va_D A w') (hS : va_S A s.heap H locs) (hdg : decode cc pc = .ok (.return_, 1)) (hc1 : cells ≤ mc) (hc2 : slots ≤ ms) :
    W p l e R s m args below meth c H locs cells slots (mm_Zn below D A wf o mc ms args s) (F0 m pc ls []) := by
  obtain ⟨hx, hb, -, hown, hts, hr, hlocks, hK, -⟩ := C0
  refine W.widen (k := mc) (n := ms) hc1 hc2 ?_
  exact W.vret hx hb hr (fun t ht hW => ⟨⟨rfl, a, ha, by rw [ht]; exact mm_permP h2 hP, mm_permD h2 hD⟩, hS.F ht⟩) hS.2.2 hdg hlocks
theorem nb_dX8_init_0 : bls_w cX8_init [(0, [42]), (1, [183, 0, 1]), (4, [42]), (5, [187, 0, 7]), (8, [89]), (9, [183, 0, 9]), (12, [181, 0, 10]), (15, [42]), (16, [187, 0, 7]), (19, [89]), (20, [183, 0, 9]), (23, [181, 0, 16])] := bls_of (by decide +kernel)
theorem dX8_init_0 : decode cX8_init 0 = .ok (.aload_n 0, 1) := op_42 nb_dX8_init_0.1
set_option maxRecDepth 100000 in
theorem dX8_init_1 : decode cX8_init 1 = .ok (.invokespecial 1, 3) := (op_183 nb_dX8_init_0.2.1).trans rfl
theorem dX8_init_4 : decode cX8_init 4 = .ok (.aload_n 0, 1) := op_42 nb_dX8_init_0.2.2.1
set_option maxRecDepth 100000 in
theorem dX8_init_5 : decode cX8_init 5 = .ok (.new 7, 3) := (op_187 nb_dX8_init_0.2.2.2.1).trans rfl
theorem dX8_init_8 : decode cX8_init 8 = .ok (.dup, 1) := op_89 nb_dX8_init_0.2.2.2.2.1
set_option maxRecDepth 100000 in
theorem dX8_init_9 : decode cX8_init 9 = .ok (.invokespecial 9, 3) := (op_183 nb_dX8_init_0.2.2.2.2.2.1).trans rfl
set_option maxRecDepth 100000 in
theorem dX8_init_12 : decode cX8_init 12 = .ok (.putfield 10, 3) := (op_181 nb_dX8_init_0.2.2.2.2.2.2.1).trans rfl
theorem dX8_init_15 : decode cX8_init 15 = .ok (.aload_n 0, 1) := op_42 nb_dX8_init_0.2.2.2.2.2.2.2.1
set_option maxRecDepth 100000 in
theorem dX8_init_16 : decode cX8_init 16 = .ok (.new 7, 3) := (op_187 nb_dX8_init_0.2.2.2.2.2.2.2.2.1).trans rfl
theorem dX8_init_19 : decode cX8_init 19 = .ok (.dup, 1) := op_89 nb_dX8_init_0.2.2.2.2.2.2.2.2.2.1
set_option maxRecDepth 100000 in
theorem dX8_init_20 : decode cX8_init 20 = .ok (.invokespecial 9, 3) := (op_183 nb_dX8_init_0.2.2.2.2.2.2.2.2.2.2.1).trans rfl
set_option maxRecDepth 100000 in
theorem dX8_init_23 : decode cX8_init 23 = .ok (.putfield 16, 3) := (op_181 nb_dX8_init_0.2.2.2.2.2.2.2.2.2.2.2.1).trans rfl
theorem nb_dX8_init_26 : bls_w cX8_init [(26, [42]), (27, [187, 0, 19]), (30, [89]), (31, [183, 0, 21]), (34, [181, 0, 22]), (37, [42]), (38, [187, 0, 26]), (41, [89]), (42, [183, 0, 28]), (45, [181, 0, 29]), (48, [42]), (49, [187, 0, 33])] := bls_of (by decide +kernel)
theorem dX8_init_26 : decode cX8_init 26 = .ok (.aload_n 0, 1) := op_42 nb_dX8_init_26.1
set_option maxRecDepth 100000 in
theorem dX8_init_27 : decode cX8_init 27 = .ok (.new 19, 3) := (op_187 nb_dX8_init_26.2.1).trans rfl
theorem dX8_init_30 : decode cX8_init 30 = .ok (.dup, 1) := op_89 nb_dX8_init_26.2.2.1
set_option maxRecDepth 100000 in
theorem dX8_init_31 : decode cX8_init 31 = .ok (.invokespecial 21, 3) := (op_183 nb_dX8_init_26.2.2.2.1).trans rfl
set_option maxRecDepth 100000 in
theorem dX8_init_34 : decode cX8_init 34 = .ok (.putfield 22, 3) := (op_181 nb_dX8_init_26.2.2.2.2.1).trans rfl
theorem dX8_init_37 : decode cX8_init 37 = .ok (.aload_n 0, 1) := op_42 nb_dX8_init_26.2.2.2.2.2.1
set_option maxRecDepth 100000 in
theorem dX8_init_38 : decode cX8_init 38 = .ok (.new 26, 3) := (op_187 nb_dX8_init_26.2.2.2.2.2.2.1).trans rfl
theorem dX8_init_41 : decode cX8_init 41 = .ok (.dup, 1) := op_89 nb_dX8_init_26.2.2.2.2.2.2.2.1
set_option maxRecDepth 100000 in
theorem dX8_init_42 : decode cX8_init 42 = .ok (.invokespecial 28, 3) := (op_183 nb_dX8_init_26.2.2.2.2.2.2.2.2.1).trans rfl
set_option maxRecDepth 100000 in
theorem dX8_init_45 : decode cX8_init 45 = .ok (.putfield 29, 3) := (op_181 nb_dX8_init_26.2.2.2.2.2.2.2.2.2.1).trans rfl
theorem dX8_init_48 : decode cX8_init 48 = .ok (.aload_n 0, 1) := op_42 nb_dX8_init_26.2.2.2.2.2.2.2.2.2.2.1
set_option maxRecDepth 100000 in
theorem dX8_init_49 : decode cX8_init 49 = .ok (.new 33, 3) := (op_187 nb_dX8_init_26.2.2.2.2.2.2.2.2.2.2.2.1).trans rfl
theorem nb_dX8_init_52 : bls_w cX8_init [(52, [89]), (53, [183, 0, 35]), (56, [181, 0, 36]), (59, [42]), (60, [187, 0, 40]), (63, [89]), (64, [183, 0, 42]), (67, [181, 0, 43]), (70, [42]), (71, [187, 0, 47]), (74, [89]), (75, [183, 0, 49])] := bls_of (by decide +kernel)
theorem dX8_init_52 : decode cX8_init 52 = .ok (.dup, 1) := op_89 nb_dX8_init_52.1
set_option maxRecDepth 100000 in
theorem dX8_init_53 : decode cX8_init 53 = .ok (.invokespecial 35, 3) := (op_183 nb_dX8_init_52.2.1).trans rfl
set_option maxRecDepth 100000 in
theorem dX8_init_56 : decode cX8_init 56 = .ok (.putfield 36, 3) := (op_181 nb_dX8_init_52.2.2.1).trans rfl
theorem dX8_init_59 : decode cX8_init 59 = .ok (.aload_n 0, 1) := op_42 nb_dX8_init_52.2.2.2.1
set_option maxRecDepth 100000 in
theorem dX8_init_60 : decode cX8_init 60 = .ok (.new 40, 3) := (op_187 nb_dX8_init_52.2.2.2.2.1).trans rfl
theorem dX8_init_63 : decode cX8_init 63 = .ok (.dup, 1) := op_89 nb_dX8_init_52.2.2.2.2.2.1
set_option maxRecDepth 100000 in
theorem dX8_init_64 : decode cX8_init 64 = .ok (.invokespecial 42, 3) := (op_183 nb_dX8_init_52.2.2.2.2.2.2.1).trans rfl
set_option maxRecDepth 100000 in
theorem dX8_init_67 : decode cX8_init 67 = .ok (.putfield 43, 3) := (op_181 nb_dX8_init_52.2.2.2.2.2.2.2.1).trans rfl
theorem dX8_init_70 : decode cX8_init 70 = .ok (.aload_n 0, 1) := op_42 nb_dX8_init_52.2.2.2.2.2.2.2.2.1
set_option maxRecDepth 100000 in
theorem dX8_init_71 : decode cX8_init 71 = .ok (.new 47, 3) := (op_187 nb_dX8_init_52.2.2.2.2.2.2.2.2.2.1).trans rfl
theorem dX8_init_74 : decode cX8_init 74 = .ok (.dup, 1) := op_89 nb_dX8_init_52.2.2.2.2.2.2.2.2.2.2.1
set_option maxRecDepth 100000 in
theorem dX8_init_75 : decode cX8_init 75 = .ok (.invokespecial 49, 3) := (op_183 nb_dX8_init_52.2.2.2.2.2.2.2.2.2.2.2.1).trans rfl
theorem nb_dX8_init_78 : bls_w cX8_init [(78, [181, 0, 50]), (81, [42]), (82, [187, 0, 54]), (85, [89]), (86, [183, 0, 56]), (89, [181, 0, 57]), (92, [42]), (93, [16, 6]), (95, [189, 0, 61]), (98, [181, 0, 63]), (101, [3]), (102, [60])] := bls_of (by decide +kernel)
set_option maxRecDepth 100000 in
theorem dX8_init_78 : decode cX8_init 78 = .ok (.putfield 50, 3) := (op_181 nb_dX8_init_78.1).trans rfl
theorem dX8_init_81 : decode cX8_init 81 = .ok (.aload_n 0, 1) := op_42 nb_dX8_init_78.2.1
set_option maxRecDepth 100000 in
theorem dX8_init_82 : decode cX8_init 82 = .ok (.new 54, 3) := (op_187 nb_dX8_init_78.2.2.1).trans rfl
theorem dX8_init_85 : decode cX8_init 85 = .ok (.dup, 1) := op_89 nb_dX8_init_78.2.2.2.1
set_option maxRecDepth 100000 in
theorem dX8_init_86 : decode cX8_init 86 = .ok (.invokespecial 56, 3) := (op_183 nb_dX8_init_78.2.2.2.2.1).trans rfl
set_option maxRecDepth 100000 in
theorem dX8_init_89 : decode cX8_init 89 = .ok (.putfield 57, 3) := (op_181 nb_dX8_init_78.2.2.2.2.2.1).trans rfl
theorem dX8_init_92 : decode cX8_init 92 = .ok (.aload_n 0, 1) := op_42 nb_dX8_init_78.2.2.2.2.2.2.1
set_option maxRecDepth 100000 in
theorem dX8_init_93 : decode cX8_init 93 = .ok (.bipush 6, 2) := (op_16 nb_dX8_init_78.2.2.2.2.2.2.2.1).trans rfl
set_option maxRecDepth 100000 in
theorem dX8_init_95 : decode cX8_init 95 = .ok (.anewarray 61, 3) := (op_189 nb_dX8_init_78.2.2.2.2.2.2.2.2.1).trans rfl
set_option maxRecDepth 100000 in
theorem dX8_init_98 : decode cX8_init 98 = .ok (.putfield 63, 3) := (op_181 nb_dX8_init_78.2.2.2.2.2.2.2.2.2.1).trans rfl
theorem dX8_init_101 : decode cX8_init 101 = .ok (.iconst 0, 1) := op_3 nb_dX8_init_78.2.2.2.2.2.2.2.2.2.2.1
theorem dX8_init_102 : decode cX8_init 102 = .ok (.istore_n 1, 1) := op_60 nb_dX8_init_78.2.2.2.2.2.2.2.2.2.2.2.1
theorem nb_dX8_init_103 : bls_w cX8_init [(103, [27]), (104, [16, 6]), (106, [162, 0, 22]), (109, [42]), (110, [180, 0, 63]), (113, [27]), (114, [187, 0, 61]), (117, [89]), (118, [183, 0, 67]), (121, [83]), (122, [132, 1, 1]), (125, [167, 255, 234])] := bls_of (by decide +kernel)
theorem dX8_init_103 : decode cX8_init 103 = .ok (.iload_n 1, 1) := op_27 nb_dX8_init_103.1
set_option maxRecDepth 100000 in
theorem dX8_init_104 : decode cX8_init 104 = .ok (.bipush 6, 2) := (op_16 nb_dX8_init_103.2.1).trans rfl
set_option maxRecDepth 100000 in
theorem dX8_init_106 : decode cX8_init 106 = .ok (.if_icmp .ge 22, 3) := (op_162 nb_dX8_init_103.2.2.1).trans rfl
theorem dX8_init_109 : decode cX8_init 109 = .ok (.aload_n 0, 1) := op_42 nb_dX8_init_103.2.2.2.1
set_option maxRecDepth 100000 in
theorem dX8_init_110 : decode cX8_init 110 = .ok (.getfield 63, 3) := (op_180 nb_dX8_init_103.2.2.2.2.1).trans rfl
theorem dX8_init_113 : decode cX8_init 113 = .ok (.iload_n 1, 1) := op_27 nb_dX8_init_103.2.2.2.2.2.1
set_option maxRecDepth 100000 in
theorem dX8_init_114 : decode cX8_init 114 = .ok (.new 61, 3) := (op_187 nb_dX8_init_103.2.2.2.2.2.2.1).trans rfl
theorem dX8_init_117 : decode cX8_init 117 = .ok (.dup, 1) := op_89 nb_dX8_init_103.2.2.2.2.2.2.2.1
set_option maxRecDepth 100000 in
theorem dX8_init_118 : decode cX8_init 118 = .ok (.invokespecial 67, 3) := (op_183 nb_dX8_init_103.2.2.2.2.2.2.2.2.1).trans rfl
theorem dX8_init_121 : decode cX8_init 121 = .ok (.aastore, 1) := op_83 nb_dX8_init_103.2.2.2.2.2.2.2.2.2.1
set_option maxRecDepth 100000 in
theorem dX8_init_122 : decode cX8_init 122 = .ok (.iinc 1 1, 3) := (op_132 nb_dX8_init_103.2.2.2.2.2.2.2.2.2.2.1).trans rfl
set_option maxRecDepth 100000 in
theorem dX8_init_125 : decode cX8_init 125 = .ok (.goto (-22), 3) := (op_167 nb_dX8_init_103.2.2.2.2.2.2.2.2.2.2.2.1).trans rfl
theorem nb_dX8_init_128 : bls_w cX8_init [(128, [177])] := bls_of (by decide +kernel)
theorem dX8_init_128 : decode cX8_init 128 = .ok (.return_, 1) := op_177 nb_dX8_init_128.1
abbrev wn_X8 (cI cL cS cH : ClassId) (a : Nat → Nat) : va_W := wd_X8 cI cL cS cH a false 2 4 2 4 0 0 0 z5_rowOf z5_colOf (mm_zs 32) (mm_zs 32) (mm_zs 64) (mm_zs 64) (mm_zs 64) (mm_zs 32) 2 4 2 4 0 0 0 z5_rowOf z5_colOf (mm_zs 32) (mm_zs 32) (mm_zs 64) (mm_zs 64) (mm_zs 64) (mm_zs 32) 0 0 0 0 0 0 (mm_zs 120) (mm_zs 121) (mm_zs 121) (mm_zs 121) 0 2 4 2 4 0 0 0 z5_rowOf z5_colOf (mm_zs 32) (mm_zs 32) (mm_zs 64) (mm_zs 64) (mm_zs 64) (mm_zs 32) (mm_zs 12) (mm_zs 12) false 0 0 0 0 2 4 2 4 0 0 0 z5_rowOf z5_colOf (mm_zs 32) (mm_zs 32) (mm_zs 64) (mm_zs 64) (mm_zs 64) (mm_zs 32) 2 4 2 4 0 0 0 z5_rowOf z5_colOf (mm_zs 32) (mm_zs 32) (mm_zs 64) (mm_zs 64) (mm_zs 64) (mm_zs 32) 2 4 2 4 0 0 0 z5_rowOf z5_colOf (mm_zs 32) (mm_zs 32) (mm_zs 64) (mm_zs 64) (mm_zs 64) (mm_zs 32) 2 4 2 4 0 0 0 z5_rowOf z5_colOf (mm_zs 32) (mm_zs 32) (mm_zs 64) (mm_zs 64) (mm_zs 64) (mm_zs 32) (mm_zs 3) (mm_zs 3) (mm_zs 680) (mm_zs 8) (mm_zs 7) 20 0 0 (mm_zs 40) (mm_zs 40) 0 0 0 (mm_zs 50) (mm_zs 24) 0 0 0 0 (mm_zl 60) 0 0 0 0 (mm_zl 60) 0 0 0 0 (mm_zl 60) 0 0 0 0 (mm_zl 60) 0 0 0 0 (mm_zl 60) 0 0 0 0 (mm_zl 60)
set_option maxHeartbeats 8000000 in
set_option maxRecDepth 100000 in
theorem cnX8 {l : Launch} {D : va_G} {cI cL cS cH : ClassId} {o : Nat} : mm_Cn l yX8_init cX8_init 2 5 98 4366 D (mm_T cI cL cS cH) o [(o, .inr (8, [.null, .null, .null, .null, .null, .null, .null, .null, .null, .int 0]))] (wn_X8 cI cL cS cH) := by
  refine mm_ofn (by decide) rfl (by decide) ?_
  intro p e s m args below meth c A H locs ls C0 hin hO1 hO2 hP hD hA hS hl
  have C0 : mm_Cx p s m args meth c RX8 cX8_init 2 none D (mm_T cI cL cS cH) A := C0
  obtain ⟨hx, hb, hml, hown, hts, hr, hlocks, hK, hSt⟩ := id C0
  obtain ⟨R0, hR0⟩ : ∃ R : va_W, R = [] := ⟨_, rfl⟩
  have hP : va_P D mm_cl ([(o, .inr (8, [.null, .null, .null, .null, .null, .null, .null, .null, .null, .int 0]))] ++ R0) H := by rw [hR0]; exact hP
  have hD : va_D A ([(o, .inr (8, [.null, .null, .null, .null, .null, .null, .null, .null, .null, .int 0]))] ++ R0) := by rw [hR0]; exact hD
  refine lv_aload_n hx hb dX8_init_0 rfl (lv_at hl 0 rfl) ?_
  refine mm_obj C0 ol_X8_1 hl.1 (by decide) dX8_init_1 ?_
  refine W.eq (g2 := F0 m 4 ls []) rfl ?_
  refine lv_aload_n hx hb dX8_init_4 rfl (lv_at hl 0 rfl) ?_
  refine mm_newo (ci := 5) (fs := [.int 0, .int 0, .int 0, .int 0, .int 0, .int 0, .int 0, .null, .null, .null, .null, .null, .null, .null, .null]) C0 hP hD hA hS iw_X5 tyX5 tyX5_ok kl_X8_7 kn_X5 ki_X5 rfl (by decide) (Nat.le_of_ble_eq_true rfl) (Nat.le_of_ble_eq_true rfl) dX8_init_5 (fun q1 H hP hD hS => ?_)
  refine lv_dup hx hb dX8_init_8 rfl ?_
  refine mm_callI2 (d := 5) (rest := [.ref q1, .ref o]) C0 hO1 hO2 li_X8_9 (cnX5 (o := q1)) (by decide) rfl rfl hl.1 rfl (mm_cat rfl) dX8_init_9 (Nat.le_of_ble_eq_true rfl) (Nat.le_of_ble_eq_true rfl) hP hD hA hS (fun b2 H locs hb0 hPn hDn hSn => ?_)
  clear hP hD hS
  subst hb0
  have hP := hPn
  have hD := hDn
  have hS := hSn
  rw [List.append_assoc] at hP hD
  generalize hR1 : R0 ++ wn_X5 cI cL cS cH b2 = R1 at hP hD
  refine mm_putf C0 hin hP hD hS iw_X8 tyX8 tyX8_ok nmX8 0 rfl rfl 0 (by decide) fl_X8_10 rfl rfl rfl rfl (Nat.le_of_ble_eq_true rfl) dX8_init_12 (w2 := ([(o, .inr (8, [.ref (b2 0), .null, .null, .null, .null, .null, .null, .null, .null, .int 0]))] ++ R1)) rfl (fun H locs hP hD hS => ?_)
  refine lv_aload_n hx hb dX8_init_15 rfl (lv_at hl 0 rfl) ?_
  refine mm_newo (ci := 5) (fs := [.int 0, .int 0, .int 0, .int 0, .int 0, .int 0, .int 0, .null, .null, .null, .null, .null, .null, .null, .null]) C0 hP hD hA hS iw_X5 tyX5 tyX5_ok kl_X8_7 kn_X5 ki_X5 rfl (by decide) (Nat.le_of_ble_eq_true rfl) (Nat.le_of_ble_eq_true rfl) dX8_init_16 (fun q3 H hP hD hS => ?_)
  refine lv_dup hx hb dX8_init_19 rfl ?_
  refine mm_callI2 (d := 5) (rest := [.ref q3, .ref o]) C0 hO1 hO2 li_X8_9 (cnX5 (o := q3)) (by decide) rfl rfl hl.1 rfl (mm_cat rfl) dX8_init_20 (Nat.le_of_ble_eq_true rfl) (Nat.le_of_ble_eq_true rfl) hP hD hA hS (fun b4 H locs hb0 hPn hDn hSn => ?_)
  clear hP hD hS
  subst hb0
  have hP := hPn
  have hD := hDn
  have hS := hSn
  rw [List.append_assoc] at hP hD
  generalize hR2 : R1 ++ wn_X5 cI cL cS cH b4 = R2 at hP hD
  refine mm_putf C0 hin hP hD hS iw_X8 tyX8 tyX8_ok nmX8 0 rfl rfl 1 (by decide) fl_X8_16 rfl rfl rfl rfl (Nat.le_of_ble_eq_true rfl) dX8_init_23 (w2 := ([(o, .inr (8, [.ref (b2 0), .ref (b4 0), .null, .null, .null, .null, .null, .null, .null, .int 0]))] ++ R2)) rfl (fun H locs hP hD hS => ?_)
  refine lv_aload_n hx hb dX8_init_26 rfl (lv_at hl 0 rfl) ?_
  refine mm_newo (ci := 2) (fs := [.int 0, .null, .null, .int 0, .null, .int 0, .int 0, .int 0, .null, .int 0]) C0 hP hD hA hS iw_X2 tyX2 tyX2_ok kl_X8_19 kn_X2 ki_X2 rfl (by decide) (Nat.le_of_ble_eq_true rfl) (Nat.le_of_ble_eq_true rfl) dX8_init_27 (fun q5 H hP hD hS => ?_)
  refine lv_dup hx hb dX8_init_30 rfl ?_
  refine mm_callJ2 (d := 5) (rest := [.ref q5, .ref o]) C0 hO1 hO2 lj_X8_21 (cnX2 (o := q5)) (by decide) rfl rfl hl.1 rfl (mm_cat rfl) dX8_init_31 (Nat.le_of_ble_eq_true rfl) (Nat.le_of_ble_eq_true rfl) hP hD hA hS (fun b6 H locs hb0 hPn hDn hSn => ?_)
  clear hP hD hS
  subst hb0
  have hP := hPn
  have hD := hDn
  have hS := hSn
  rw [List.append_assoc] at hP hD
  generalize hR3 : R2 ++ wn_X2 cI cL cS cH b6 = R3 at hP hD
  refine mm_putf C0 hin hP hD hS iw_X8 tyX8 tyX8_ok nmX8 0 rfl rfl 2 (by decide) fl_X8_22 rfl rfl rfl rfl (Nat.le_of_ble_eq_true rfl) dX8_init_34 (w2 := ([(o, .inr (8, [.ref (b2 0), .ref (b4 0), .ref (b6 0), .null, .null, .null, .null, .null, .null, .int 0]))] ++ R3)) rfl (fun H locs hP hD hS => ?_)
  refine lv_aload_n hx hb dX8_init_37 rfl (lv_at hl 0 rfl) ?_
  refine mm_newo (ci := 3) (fs := [.int 0, .null, .null, .null]) C0 hP hD hA hS iw_X3 tyX3 tyX3_ok kl_X8_26 kn_X3 ki_X3 rfl (by decide) (Nat.le_of_ble_eq_true rfl) (Nat.le_of_ble_eq_true rfl) dX8_init_38 (fun q7 H hP hD hS => ?_)
  refine lv_dup hx hb dX8_init_41 rfl ?_
  refine mm_callJ2 (d := 5) (rest := [.ref q7, .ref o]) C0 hO1 hO2 lj_X8_28 (cnX3 (o := q7)) (by decide) rfl rfl hl.1 rfl (mm_cat rfl) dX8_init_42 (Nat.le_of_ble_eq_true rfl) (Nat.le_of_ble_eq_true rfl) hP hD hA hS (fun b8 H locs hb0 hPn hDn hSn => ?_)
  clear hP hD hS
  subst hb0
  have hP := hPn
  have hD := hDn
  have hS := hSn
  rw [List.append_assoc] at hP hD
  generalize hR4 : R3 ++ wn_X3 cI cL cS cH b8 = R4 at hP hD
  refine mm_putf C0 hin hP hD hS iw_X8 tyX8 tyX8_ok nmX8 0 rfl rfl 3 (by decide) fl_X8_29 rfl rfl rfl rfl (Nat.le_of_ble_eq_true rfl) dX8_init_45 (w2 := ([(o, .inr (8, [.ref (b2 0), .ref (b4 0), .ref (b6 0), .ref (b8 0), .null, .null, .null, .null, .null, .int 0]))] ++ R4)) rfl (fun H locs hP hD hS => ?_)
  refine lv_aload_n hx hb dX8_init_48 rfl (lv_at hl 0 rfl) ?_
  refine mm_newo (ci := 4) (fs := [.int 0, .int 0, .int 0, .int 0, .null, .null, .null, .int 0]) C0 hP hD hA hS iw_X4 tyX4 tyX4_ok kl_X8_33 kn_X4 ki_X4 rfl (by decide) (Nat.le_of_ble_eq_true rfl) (Nat.le_of_ble_eq_true rfl) dX8_init_49 (fun q9 H hP hD hS => ?_)
  refine lv_dup hx hb dX8_init_52 rfl ?_
  refine mm_callI2 (d := 5) (rest := [.ref q9, .ref o]) C0 hO1 hO2 li_X8_35 (cnX4 (o := q9)) (by decide) rfl rfl hl.1 rfl (mm_cat rfl) dX8_init_53 (Nat.le_of_ble_eq_true rfl) (Nat.le_of_ble_eq_true rfl) hP hD hA hS (fun b10 H locs hb0 hPn hDn hSn => ?_)
  clear hP hD hS
  subst hb0
  have hP := hPn
  have hD := hDn
  have hS := hSn
  rw [List.append_assoc] at hP hD
  generalize hR5 : R4 ++ wn_X4 cI cL cS cH b10 = R5 at hP hD
  refine mm_putf C0 hin hP hD hS iw_X8 tyX8 tyX8_ok nmX8 0 rfl rfl 4 (by decide) fl_X8_36 rfl rfl rfl rfl (Nat.le_of_ble_eq_true rfl) dX8_init_56 (w2 := ([(o, .inr (8, [.ref (b2 0), .ref (b4 0), .ref (b6 0), .ref (b8 0), .ref (b10 0), .null, .null, .null, .null, .int 0]))] ++ R5)) rfl (fun H locs hP hD hS => ?_)
  refine lv_aload_n hx hb dX8_init_59 rfl (lv_at hl 0 rfl) ?_
  refine mm_newo (ci := 7) (fs := [.null, .null, .null]) C0 hP hD hA hS iw_X7 tyX7 tyX7_ok kl_X8_40 kn_X7 ki_X7 rfl (by decide) (Nat.le_of_ble_eq_true rfl) (Nat.le_of_ble_eq_true rfl) dX8_init_60 (fun q11 H hP hD hS => ?_)
  refine lv_dup hx hb dX8_init_63 rfl ?_
  refine mm_callJ2 (d := 5) (rest := [.ref q11, .ref o]) C0 hO1 hO2 lj_X8_42 (cnX7 (o := q11)) (by decide) rfl rfl hl.1 rfl (mm_cat rfl) dX8_init_64 (Nat.le_of_ble_eq_true rfl) (Nat.le_of_ble_eq_true rfl) hP hD hA hS (fun b12 H locs hb0 hPn hDn hSn => ?_)
  clear hP hD hS
  subst hb0
  have hP := hPn
  have hD := hDn
  have hS := hSn
  rw [List.append_assoc] at hP hD
  generalize hR6 : R5 ++ wn_X7 cI cL cS cH b12 = R6 at hP hD
  refine mm_putf C0 hin hP hD hS iw_X8 tyX8 tyX8_ok nmX8 0 rfl rfl 5 (by decide) fl_X8_43 rfl rfl rfl rfl (Nat.le_of_ble_eq_true rfl) dX8_init_67 (w2 := ([(o, .inr (8, [.ref (b2 0), .ref (b4 0), .ref (b6 0), .ref (b8 0), .ref (b10 0), .ref (b12 0), .null, .null, .null, .int 0]))] ++ R6)) rfl (fun H locs hP hD hS => ?_)
  refine lv_aload_n hx hb dX8_init_70 rfl (lv_at hl 0 rfl) ?_
  refine mm_newo (ci := 0) (fs := [.int 0, .int 0, .int 0, .null, .null]) C0 hP hD hA hS iw_X0 tyX0 tyX0_ok kl_X8_47 kn_X0 ki_X0 rfl (by decide) (Nat.le_of_ble_eq_true rfl) (Nat.le_of_ble_eq_true rfl) dX8_init_71 (fun q13 H hP hD hS => ?_)
  refine lv_dup hx hb dX8_init_74 rfl ?_
  refine mm_callJ2 (d := 5) (rest := [.ref q13, .ref o]) C0 hO1 hO2 lj_X8_49 (cnX0 (o := q13)) (by decide) rfl rfl hl.1 rfl (mm_cat rfl) dX8_init_75 (Nat.le_of_ble_eq_true rfl) (Nat.le_of_ble_eq_true rfl) hP hD hA hS (fun b14 H locs hb0 hPn hDn hSn => ?_)
  clear hP hD hS
  subst hb0
  have hP := hPn
  have hD := hDn
  have hS := hSn
  rw [List.append_assoc] at hP hD
  generalize hR7 : R6 ++ wn_X0 cI cL cS cH b14 = R7 at hP hD
  refine mm_putf C0 hin hP hD hS iw_X8 tyX8 tyX8_ok nmX8 0 rfl rfl 6 (by decide) fl_X8_50 rfl rfl rfl rfl (Nat.le_of_ble_eq_true rfl) dX8_init_78 (w2 := ([(o, .inr (8, [.ref (b2 0), .ref (b4 0), .ref (b6 0), .ref (b8 0), .ref (b10 0), .ref (b12 0), .ref (b14 0), .null, .null, .int 0]))] ++ R7)) rfl (fun H locs hP hD hS => ?_)
  refine lv_aload_n hx hb dX8_init_81 rfl (lv_at hl 0 rfl) ?_
  refine mm_newo (ci := 1) (fs := [.int 0, .int 0, .null, .null, .int 0]) C0 hP hD hA hS iw_X1 tyX1 tyX1_ok kl_X8_54 kn_X1 ki_X1 rfl (by decide) (Nat.le_of_ble_eq_true rfl) (Nat.le_of_ble_eq_true rfl) dX8_init_82 (fun q15 H hP hD hS => ?_)
  refine lv_dup hx hb dX8_init_85 rfl ?_
  refine mm_callJ2 (d := 5) (rest := [.ref q15, .ref o]) C0 hO1 hO2 lj_X8_56 (cnX1 (o := q15)) (by decide) rfl rfl hl.1 rfl (mm_cat rfl) dX8_init_86 (Nat.le_of_ble_eq_true rfl) (Nat.le_of_ble_eq_true rfl) hP hD hA hS (fun b16 H locs hb0 hPn hDn hSn => ?_)
  clear hP hD hS
  subst hb0
  have hP := hPn
  have hD := hDn
  have hS := hSn
  rw [List.append_assoc] at hP hD
  generalize hR8 : R7 ++ wn_X1 cI cL cS cH b16 = R8 at hP hD
  refine mm_putf C0 hin hP hD hS iw_X8 tyX8 tyX8_ok nmX8 0 rfl rfl 7 (by decide) fl_X8_57 rfl rfl rfl rfl (Nat.le_of_ble_eq_true rfl) dX8_init_89 (w2 := ([(o, .inr (8, [.ref (b2 0), .ref (b4 0), .ref (b6 0), .ref (b8 0), .ref (b10 0), .ref (b12 0), .ref (b14 0), .ref (b16 0), .null, .int 0]))] ++ R8)) rfl (fun H locs hP hD hS => ?_)
  refine lv_aload_n hx hb dX8_init_92 rfl (lv_at hl 0 rfl) ?_
  refine lv_bipush (v := 6) hx hb dX8_init_93 (by decide) ?_
  refine mm_newq (N := 6) 3 rfl C0 hO2 kl_X8_61 hP hD hA hS (by decide) (by decide) (by decide) (Nat.le_of_ble_eq_true rfl) (Nat.le_of_ble_eq_true rfl) dX8_init_95 (fun q17 H hP hD hS => ?_)
  have hP := mm_permP (mm_pt _ _ _) hP
  have hD := mm_permD (mm_pt _ _ _) hD
  have hP : va_P D mm_cl ([(o, .inr (8, [.ref (b2 0), .ref (b4 0), .ref (b6 0), .ref (b8 0), .ref (b10 0), .ref (b12 0), .ref (b14 0), .ref (b16 0), .null, .int 0])), (q17, mm_lo cH [none, none, none, none, none, none])] ++ R8) H := hP
  have hD : va_D A ([(o, .inr (8, [.ref (b2 0), .ref (b4 0), .ref (b6 0), .ref (b8 0), .ref (b10 0), .ref (b12 0), .ref (b14 0), .ref (b16 0), .null, .int 0])), (q17, mm_lo cH [none, none, none, none, none, none])] ++ R8) := hD
  refine mm_putf C0 hin hP hD hS iw_X8 tyX8 tyX8_ok nmX8 0 rfl rfl 8 (by decide) fl_X8_63 rfl rfl rfl rfl (Nat.le_of_ble_eq_true rfl) dX8_init_98 (w2 := ([(o, .inr (8, [.ref (b2 0), .ref (b4 0), .ref (b6 0), .ref (b8 0), .ref (b10 0), .ref (b12 0), .ref (b14 0), .ref (b16 0), .ref q17, .int 0])), (q17, mm_lo cH [none, none, none, none, none, none])] ++ R8)) rfl (fun H locs hP hD hS => ?_)
  refine lv_iconst (v := 0) hx hb dX8_init_101 (by decide) ?_
  refine lv_istore_n (lv' := [(1, .int 0), (0, .ref o)]) hx hb dX8_init_102 rfl hl (by decide) rfl (fun ls hl => ?_)
  refine lv_iload_n hx hb dX8_init_103 rfl (lv_at hl 0 rfl) ?_
  refine lv_bipush (v := 6) hx hb dX8_init_104 (by decide) ?_
  refine lv_icmp_ge (tgt := 128) hx hb dX8_init_106 (by decide) (fun c9 => absurd c9 (by decide)) (fun _ => ?_)
  refine lv_aload_n hx hb dX8_init_109 rfl (lv_at hl 1 rfl) ?_
  refine mm_get C0 hP iw_X8 0 rfl rfl 8 (by decide) fl_X8_63 rfl dX8_init_110 ?_
  refine lv_iload_n hx hb dX8_init_113 rfl (lv_at hl 0 rfl) ?_
  refine mm_newo (ci := 6) (fs := [.int 0, .int 0, .int 0, .int 0, .null]) C0 hP hD hA hS iw_X6 tyX6 tyX6_ok kl_X8_61 kn_X6 ki_X6 rfl (by decide) (Nat.le_of_ble_eq_true rfl) (Nat.le_of_ble_eq_true rfl) dX8_init_114 (fun q18 H hP hD hS => ?_)
  refine lv_dup hx hb dX8_init_117 rfl ?_
  refine mm_callJ2 (d := 5) (rest := [.ref q18, .int 0, .ref q17]) C0 hO1 hO2 lj_X8_67 (cnX6 (o := q18)) (by decide) rfl rfl hl.1 rfl (mm_cat rfl) dX8_init_118 (Nat.le_of_ble_eq_true rfl) (Nat.le_of_ble_eq_true rfl) hP hD hA hS (fun b19 H locs hb0 hPn hDn hSn => ?_)
  clear hP hD hS
  subst hb0
  have hP := hPn
  have hD := hDn
  have hS := hSn
  have hP := mm_permP (mm_pt _ _ _) hP
  have hD := mm_permD (mm_pt _ _ _) hD
  have hP : va_P D mm_cl ([(o, .inr (8, [.ref (b2 0), .ref (b4 0), .ref (b6 0), .ref (b8 0), .ref (b10 0), .ref (b12 0), .ref (b14 0), .ref (b16 0), .ref q17, .int 0])), (q17, mm_lo cH [none, none, none, none, none, none])] ++ wn_X6 cI cL cS cH b19 ++ R8) H := hP
  have hD : va_D A ([(o, .inr (8, [.ref (b2 0), .ref (b4 0), .ref (b6 0), .ref (b8 0), .ref (b10 0), .ref (b12 0), .ref (b14 0), .ref (b16 0), .ref q17, .int 0])), (q17, mm_lo cH [none, none, none, none, none, none])] ++ wn_X6 cI cL cS cH b19 ++ R8) := hD
  refine mm_astq (ci := 6) 3 rfl C0 hP hD hS 1 2 rfl rfl rfl rfl dX8_init_121 (w2 := ([(o, .inr (8, [.ref (b2 0), .ref (b4 0), .ref (b6 0), .ref (b8 0), .ref (b10 0), .ref (b12 0), .ref (b14 0), .ref (b16 0), .ref q17, .int 0])), (q17, mm_lo cH [some (b19 0), none, none, none, none, none])] ++ wn_X6 cI cL cS cH b19 ++ R8)) rfl (fun H locs hP hD hS => ?_)
  rw [List.append_assoc] at hP hD
  generalize hR9 : wn_X6 cI cL cS cH b19 ++ R8 = R9 at hP hD
  refine lv_iinc (v := 1) (lv' := [(1, .int 1), (0, .ref o)]) hx hb dX8_init_122 hl (k := 0) rfl (by decide) (by decide) rfl (fun ls hl => ?_)
  refine lv_goto (tgt := 103) hx hb dX8_init_125 (by decide) ?_
  refine lv_iload_n hx hb dX8_init_103 rfl (lv_at hl 0 rfl) ?_
  refine lv_bipush (v := 6) hx hb dX8_init_104 (by decide) ?_
  refine lv_icmp_ge (tgt := 128) hx hb dX8_init_106 (by decide) (fun c9 => absurd c9 (by decide)) (fun _ => ?_)
  refine lv_aload_n hx hb dX8_init_109 rfl (lv_at hl 1 rfl) ?_
  refine mm_get C0 hP iw_X8 0 rfl rfl 8 (by decide) fl_X8_63 rfl dX8_init_110 ?_
  refine lv_iload_n hx hb dX8_init_113 rfl (lv_at hl 0 rfl) ?_
  refine mm_newo (ci := 6) (fs := [.int 0, .int 0, .int 0, .int 0, .null]) C0 hP hD hA hS iw_X6 tyX6 tyX6_ok kl_X8_61 kn_X6 ki_X6 rfl (by decide) (Nat.le_of_ble_eq_true rfl) (Nat.le_of_ble_eq_true rfl) dX8_init_114 (fun q20 H hP hD hS => ?_)
  refine lv_dup hx hb dX8_init_117 rfl ?_
  refine mm_callJ2 (d := 5) (rest := [.ref q20, .int 1, .ref q17]) C0 hO1 hO2 lj_X8_67 (cnX6 (o := q20)) (by decide) rfl rfl hl.1 rfl (mm_cat rfl) dX8_init_118 (Nat.le_of_ble_eq_true rfl) (Nat.le_of_ble_eq_true rfl) hP hD hA hS (fun b21 H locs hb0 hPn hDn hSn => ?_)
  clear hP hD hS
  subst hb0
  have hP := hPn
  have hD := hDn
  have hS := hSn
  have hP := mm_permP (mm_pt _ _ _) hP
  have hD := mm_permD (mm_pt _ _ _) hD
  have hP : va_P D mm_cl ([(o, .inr (8, [.ref (b2 0), .ref (b4 0), .ref (b6 0), .ref (b8 0), .ref (b10 0), .ref (b12 0), .ref (b14 0), .ref (b16 0), .ref q17, .int 0])), (q17, mm_lo cH [some (b19 0), none, none, none, none, none])] ++ wn_X6 cI cL cS cH b21 ++ R9) H := hP
  have hD : va_D A ([(o, .inr (8, [.ref (b2 0), .ref (b4 0), .ref (b6 0), .ref (b8 0), .ref (b10 0), .ref (b12 0), .ref (b14 0), .ref (b16 0), .ref q17, .int 0])), (q17, mm_lo cH [some (b19 0), none, none, none, none, none])] ++ wn_X6 cI cL cS cH b21 ++ R9) := hD
  refine mm_astq (ci := 6) 3 rfl C0 hP hD hS 1 2 rfl rfl rfl rfl dX8_init_121 (w2 := ([(o, .inr (8, [.ref (b2 0), .ref (b4 0), .ref (b6 0), .ref (b8 0), .ref (b10 0), .ref (b12 0), .ref (b14 0), .ref (b16 0), .ref q17, .int 0])), (q17, mm_lo cH [some (b19 0), some (b21 0), none, none, none, none])] ++ wn_X6 cI cL cS cH b21 ++ R9)) rfl (fun H locs hP hD hS => ?_)
  rw [List.append_assoc] at hP hD
  generalize hR10 : wn_X6 cI cL cS cH b21 ++ R9 = R10 at hP hD
  refine lv_iinc (v := 2) (lv' := [(1, .int 2), (0, .ref o)]) hx hb dX8_init_122 hl (k := 0) rfl (by decide) (by decide) rfl (fun ls hl => ?_)
  refine lv_goto (tgt := 103) hx hb dX8_init_125 (by decide) ?_
  refine lv_iload_n hx hb dX8_init_103 rfl (lv_at hl 0 rfl) ?_
  refine lv_bipush (v := 6) hx hb dX8_init_104 (by decide) ?_
  refine lv_icmp_ge (tgt := 128) hx hb dX8_init_106 (by decide) (fun c9 => absurd c9 (by decide)) (fun _ => ?_)
  refine lv_aload_n hx hb dX8_init_109 rfl (lv_at hl 1 rfl) ?_
  refine mm_get C0 hP iw_X8 0 rfl rfl 8 (by decide) fl_X8_63 rfl dX8_init_110 ?_
  refine lv_iload_n hx hb dX8_init_113 rfl (lv_at hl 0 rfl) ?_
  refine mm_newo (ci := 6) (fs := [.int 0, .int 0, .int 0, .int 0, .null]) C0 hP hD hA hS iw_X6 tyX6 tyX6_ok kl_X8_61 kn_X6 ki_X6 rfl (by decide) (Nat.le_of_ble_eq_true rfl) (Nat.le_of_ble_eq_true rfl) dX8_init_114 (fun q22 H hP hD hS => ?_)
  refine lv_dup hx hb dX8_init_117 rfl ?_
  refine mm_callJ2 (d := 5) (rest := [.ref q22, .int 2, .ref q17]) C0 hO1 hO2 lj_X8_67 (cnX6 (o := q22)) (by decide) rfl rfl hl.1 rfl (mm_cat rfl) dX8_init_118 (Nat.le_of_ble_eq_true rfl) (Nat.le_of_ble_eq_true rfl) hP hD hA hS (fun b23 H locs hb0 hPn hDn hSn => ?_)
  clear hP hD hS
  subst hb0
  have hP := hPn
  have hD := hDn
  have hS := hSn
  have hP := mm_permP (mm_pt _ _ _) hP
  have hD := mm_permD (mm_pt _ _ _) hD
  have hP : va_P D mm_cl ([(o, .inr (8, [.ref (b2 0), .ref (b4 0), .ref (b6 0), .ref (b8 0), .ref (b10 0), .ref (b12 0), .ref (b14 0), .ref (b16 0), .ref q17, .int 0])), (q17, mm_lo cH [some (b19 0), some (b21 0), none, none, none, none])] ++ wn_X6 cI cL cS cH b23 ++ R10) H := hP
  have hD : va_D A ([(o, .inr (8, [.ref (b2 0), .ref (b4 0), .ref (b6 0), .ref (b8 0), .ref (b10 0), .ref (b12 0), .ref (b14 0), .ref (b16 0), .ref q17, .int 0])), (q17, mm_lo cH [some (b19 0), some (b21 0), none, none, none, none])] ++ wn_X6 cI cL cS cH b23 ++ R10) := hD
  refine mm_astq (ci := 6) 3 rfl C0 hP hD hS 1 2 rfl rfl rfl rfl dX8_init_121 (w2 := ([(o, .inr (8, [.ref (b2 0), .ref (b4 0), .ref (b6 0), .ref (b8 0), .ref (b10 0), .ref (b12 0), .ref (b14 0), .ref (b16 0), .ref q17, .int 0])), (q17, mm_lo cH [some (b19 0), some (b21 0), some (b23 0), none, none, none])] ++ wn_X6 cI cL cS cH b23 ++ R10)) rfl (fun H locs hP hD hS => ?_)
  rw [List.append_assoc] at hP hD
  generalize hR11 : wn_X6 cI cL cS cH b23 ++ R10 = R11 at hP hD
  refine lv_iinc (v := 3) (lv' := [(1, .int 3), (0, .ref o)]) hx hb dX8_init_122 hl (k := 0) rfl (by decide) (by decide) rfl (fun ls hl => ?_)
  refine lv_goto (tgt := 103) hx hb dX8_init_125 (by decide) ?_
  refine lv_iload_n hx hb dX8_init_103 rfl (lv_at hl 0 rfl) ?_
  refine lv_bipush (v := 6) hx hb dX8_init_104 (by decide) ?_
  refine lv_icmp_ge (tgt := 128) hx hb dX8_init_106 (by decide) (fun c9 => absurd c9 (by decide)) (fun _ => ?_)
  refine lv_aload_n hx hb dX8_init_109 rfl (lv_at hl 1 rfl) ?_
  refine mm_get C0 hP iw_X8 0 rfl rfl 8 (by decide) fl_X8_63 rfl dX8_init_110 ?_
  refine lv_iload_n hx hb dX8_init_113 rfl (lv_at hl 0 rfl) ?_
  refine mm_newo (ci := 6) (fs := [.int 0, .int 0, .int 0, .int 0, .null]) C0 hP hD hA hS iw_X6 tyX6 tyX6_ok kl_X8_61 kn_X6 ki_X6 rfl (by decide) (Nat.le_of_ble_eq_true rfl) (Nat.le_of_ble_eq_true rfl) dX8_init_114 (fun q24 H hP hD hS => ?_)
  refine lv_dup hx hb dX8_init_117 rfl ?_
  refine mm_callJ2 (d := 5) (rest := [.ref q24, .int 3, .ref q17]) C0 hO1 hO2 lj_X8_67 (cnX6 (o := q24)) (by decide) rfl rfl hl.1 rfl (mm_cat rfl) dX8_init_118 (Nat.le_of_ble_eq_true rfl) (Nat.le_of_ble_eq_true rfl) hP hD hA hS (fun b25 H locs hb0 hPn hDn hSn => ?_)
  clear hP hD hS
  subst hb0
  have hP := hPn
  have hD := hDn
  have hS := hSn
  have hP := mm_permP (mm_pt _ _ _) hP
  have hD := mm_permD (mm_pt _ _ _) hD
  have hP : va_P D mm_cl ([(o, .inr (8, [.ref (b2 0), .ref (b4 0), .ref (b6 0), .ref (b8 0), .ref (b10 0), .ref (b12 0), .ref (b14 0), .ref (b16 0), .ref q17, .int 0])), (q17, mm_lo cH [some (b19 0), some (b21 0), some (b23 0), none, none, none])] ++ wn_X6 cI cL cS cH b25 ++ R11) H := hP
  have hD : va_D A ([(o, .inr (8, [.ref (b2 0), .ref (b4 0), .ref (b6 0), .ref (b8 0), .ref (b10 0), .ref (b12 0), .ref (b14 0), .ref (b16 0), .ref q17, .int 0])), (q17, mm_lo cH [some (b19 0), some (b21 0), some (b23 0), none, none, none])] ++ wn_X6 cI cL cS cH b25 ++ R11) := hD
  refine mm_astq (ci := 6) 3 rfl C0 hP hD hS 1 2 rfl rfl rfl rfl dX8_init_121 (w2 := ([(o, .inr (8, [.ref (b2 0), .ref (b4 0), .ref (b6 0), .ref (b8 0), .ref (b10 0), .ref (b12 0), .ref (b14 0), .ref (b16 0), .ref q17, .int 0])), (q17, mm_lo cH [some (b19 0), some (b21 0), some (b23 0), some (b25 0), none, none])] ++ wn_X6 cI cL cS cH b25 ++ R11)) rfl (fun H locs hP hD hS => ?_)
  rw [List.append_assoc] at hP hD
  generalize hR12 : wn_X6 cI cL cS cH b25 ++ R11 = R12 at hP hD
  refine lv_iinc (v := 4) (lv' := [(1, .int 4), (0, .ref o)]) hx hb dX8_init_122 hl (k := 0) rfl (by decide) (by decide) rfl (fun ls hl => ?_)
  refine lv_goto (tgt := 103) hx hb dX8_init_125 (by decide) ?_
  refine lv_iload_n hx hb dX8_init_103 rfl (lv_at hl 0 rfl) ?_
  refine lv_bipush (v := 6) hx hb dX8_init_104 (by decide) ?_
  refine lv_icmp_ge (tgt := 128) hx hb dX8_init_106 (by decide) (fun c9 => absurd c9 (by decide)) (fun _ => ?_)
  refine lv_aload_n hx hb dX8_init_109 rfl (lv_at hl 1 rfl) ?_
  refine mm_get C0 hP iw_X8 0 rfl rfl 8 (by decide) fl_X8_63 rfl dX8_init_110 ?_
  refine lv_iload_n hx hb dX8_init_113 rfl (lv_at hl 0 rfl) ?_
  refine mm_newo (ci := 6) (fs := [.int 0, .int 0, .int 0, .int 0, .null]) C0 hP hD hA hS iw_X6 tyX6 tyX6_ok kl_X8_61 kn_X6 ki_X6 rfl (by decide) (Nat.le_of_ble_eq_true rfl) (Nat.le_of_ble_eq_true rfl) dX8_init_114 (fun q26 H hP hD hS => ?_)
  refine lv_dup hx hb dX8_init_117 rfl ?_
  refine mm_callJ2 (d := 5) (rest := [.ref q26, .int 4, .ref q17]) C0 hO1 hO2 lj_X8_67 (cnX6 (o := q26)) (by decide) rfl rfl hl.1 rfl (mm_cat rfl) dX8_init_118 (Nat.le_of_ble_eq_true rfl) (Nat.le_of_ble_eq_true rfl) hP hD hA hS (fun b27 H locs hb0 hPn hDn hSn => ?_)
  clear hP hD hS
  subst hb0
  have hP := hPn
  have hD := hDn
  have hS := hSn
  have hP := mm_permP (mm_pt _ _ _) hP
  have hD := mm_permD (mm_pt _ _ _) hD
  have hP : va_P D mm_cl ([(o, .inr (8, [.ref (b2 0), .ref (b4 0), .ref (b6 0), .ref (b8 0), .ref (b10 0), .ref (b12 0), .ref (b14 0), .ref (b16 0), .ref q17, .int 0])), (q17, mm_lo cH [some (b19 0), some (b21 0), some (b23 0), some (b25 0), none, none])] ++ wn_X6 cI cL cS cH b27 ++ R12) H := hP
  have hD : va_D A ([(o, .inr (8, [.ref (b2 0), .ref (b4 0), .ref (b6 0), .ref (b8 0), .ref (b10 0), .ref (b12 0), .ref (b14 0), .ref (b16 0), .ref q17, .int 0])), (q17, mm_lo cH [some (b19 0), some (b21 0), some (b23 0), some (b25 0), none, none])] ++ wn_X6 cI cL cS cH b27 ++ R12) := hD
  refine mm_astq (ci := 6) 3 rfl C0 hP hD hS 1 2 rfl rfl rfl rfl dX8_init_121 (w2 := ([(o, .inr (8, [.ref (b2 0), .ref (b4 0), .ref (b6 0), .ref (b8 0), .ref (b10 0), .ref (b12 0), .ref (b14 0), .ref (b16 0), .ref q17, .int 0])), (q17, mm_lo cH [some (b19 0), some (b21 0), some (b23 0), some (b25 0), some (b27 0), none])] ++ wn_X6 cI cL cS cH b27 ++ R12)) rfl (fun H locs hP hD hS => ?_)
  rw [List.append_assoc] at hP hD
  generalize hR13 : wn_X6 cI cL cS cH b27 ++ R12 = R13 at hP hD
  refine lv_iinc (v := 5) (lv' := [(1, .int 5), (0, .ref o)]) hx hb dX8_init_122 hl (k := 0) rfl (by decide) (by decide) rfl (fun ls hl => ?_)
  refine lv_goto (tgt := 103) hx hb dX8_init_125 (by decide) ?_
  refine lv_iload_n hx hb dX8_init_103 rfl (lv_at hl 0 rfl) ?_
  refine lv_bipush (v := 6) hx hb dX8_init_104 (by decide) ?_
  refine lv_icmp_ge (tgt := 128) hx hb dX8_init_106 (by decide) (fun c9 => absurd c9 (by decide)) (fun _ => ?_)
  refine lv_aload_n hx hb dX8_init_109 rfl (lv_at hl 1 rfl) ?_
  refine mm_get C0 hP iw_X8 0 rfl rfl 8 (by decide) fl_X8_63 rfl dX8_init_110 ?_
  refine lv_iload_n hx hb dX8_init_113 rfl (lv_at hl 0 rfl) ?_
  refine mm_newo (ci := 6) (fs := [.int 0, .int 0, .int 0, .int 0, .null]) C0 hP hD hA hS iw_X6 tyX6 tyX6_ok kl_X8_61 kn_X6 ki_X6 rfl (by decide) (Nat.le_of_ble_eq_true rfl) (Nat.le_of_ble_eq_true rfl) dX8_init_114 (fun q28 H hP hD hS => ?_)
  refine lv_dup hx hb dX8_init_117 rfl ?_
  refine mm_callJ2 (d := 5) (rest := [.ref q28, .int 5, .ref q17]) C0 hO1 hO2 lj_X8_67 (cnX6 (o := q28)) (by decide) rfl rfl hl.1 rfl (mm_cat rfl) dX8_init_118 (Nat.le_of_ble_eq_true rfl) (Nat.le_of_ble_eq_true rfl) hP hD hA hS (fun b29 H locs hb0 hPn hDn hSn => ?_)
  clear hP hD hS
  subst hb0
  have hP := hPn
  have hD := hDn
  have hS := hSn
  have hP := mm_permP (mm_pt _ _ _) hP
  have hD := mm_permD (mm_pt _ _ _) hD
  have hP : va_P D mm_cl ([(o, .inr (8, [.ref (b2 0), .ref (b4 0), .ref (b6 0), .ref (b8 0), .ref (b10 0), .ref (b12 0), .ref (b14 0), .ref (b16 0), .ref q17, .int 0])), (q17, mm_lo cH [some (b19 0), some (b21 0), some (b23 0), some (b25 0), some (b27 0), none])] ++ wn_X6 cI cL cS cH b29 ++ R13) H := hP
  have hD : va_D A ([(o, .inr (8, [.ref (b2 0), .ref (b4 0), .ref (b6 0), .ref (b8 0), .ref (b10 0), .ref (b12 0), .ref (b14 0), .ref (b16 0), .ref q17, .int 0])), (q17, mm_lo cH [some (b19 0), some (b21 0), some (b23 0), some (b25 0), some (b27 0), none])] ++ wn_X6 cI cL cS cH b29 ++ R13) := hD
  refine mm_astq (ci := 6) 3 rfl C0 hP hD hS 1 2 rfl rfl rfl rfl dX8_init_121 (w2 := ([(o, .inr (8, [.ref (b2 0), .ref (b4 0), .ref (b6 0), .ref (b8 0), .ref (b10 0), .ref (b12 0), .ref (b14 0), .ref (b16 0), .ref q17, .int 0])), (q17, mm_lo cH [some (b19 0), some (b21 0), some (b23 0), some (b25 0), some (b27 0), some (b29 0)])] ++ wn_X6 cI cL cS cH b29 ++ R13)) rfl (fun H locs hP hD hS => ?_)
  rw [List.append_assoc] at hP hD
  generalize hR14 : wn_X6 cI cL cS cH b29 ++ R13 = R14 at hP hD
  refine lv_iinc (v := 6) (lv' := [(1, .int 6), (0, .ref o)]) hx hb dX8_init_122 hl (k := 0) rfl (by decide) (by decide) rfl (fun ls hl => ?_)
  refine lv_goto (tgt := 103) hx hb dX8_init_125 (by decide) ?_
  refine lv_iload_n hx hb dX8_init_103 rfl (lv_at hl 0 rfl) ?_
  refine lv_bipush (v := 6) hx hb dX8_init_104 (by decide) ?_
  refine lv_icmp_ge (tgt := 128) hx hb dX8_init_106 (by decide) (fun _ => ?_) (fun c9 => absurd c9 (by decide))
  rw [show mm_lo cH [some (b19 0), some (b21 0), some (b23 0), some (b25 0), some (b27 0), some (b29 0)] = mm_lr cH [(b19 0), (b21 0), (b23 0), (b25 0), (b27 0), (b29 0)] from mm_lolr cH [(b19 0), (b21 0), (b23 0), (b25 0), (b27 0), (b29 0)]] at hP hD
  subst hR0 hR1 hR2 hR3 hR4 hR5 hR6 hR7 hR8 hR9 hR10 hR11 hR12 hR13 hR14
  exact mm_nretP (wf := wn_X8 cI cL cS cH) (fun k => [o, b2 0, b2 1, b2 2, b2 3, b2 4, b2 5, b2 6, b2 7, b2 8, b4 0, b4 1, b4 2, b4 3, b4 4, b4 5, b4 6, b4 7, b4 8, b6 0, b6 1, b6 2, b6 3, b6 4, b8 0, b8 1, b8 2, b8 3, b8 4, b8 5, b8 6, b8 7, b8 8, b8 9, b8 10, b8 11, b10 0, b10 1, b10 2, b10 3, b10 4, b10 5, b10 6, b10 7, b10 8, b10 9, b10 10, b10 11, b10 12, b10 13, b10 14, b10 15, b10 16, b10 17, b10 18, b10 19, b10 20, b10 21, b10 22, b10 23, b10 24, b10 25, b10 26, b10 27, b10 28, b10 29, b10 30, b10 31, b10 32, b10 33, b10 34, b10 35, b10 36, b10 37, b10 38, b10 39, b12 0, b12 1, b12 2, b12 3, b14 0, b14 1, b14 2, b16 0, b16 1, b16 2, q17, b19 0, b19 1, b21 0, b21 1, b23 0, b23 1, b25 0, b25 1, b27 0, b27 1, b29 0, b29 1].getD k 0) rfl (mm_pfin _ _ _ _ _ _ _ _ _) C0 hP hD hS dX8_init_128 (Nat.le_of_ble_eq_true rfl) (Nat.le_of_ble_eq_true rfl)
end
