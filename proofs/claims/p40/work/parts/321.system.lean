/-! system: X8_taken, X8_count -/
theorem dX8_taken_0 : decode cX8_taken 0 = .ok (.iload_n 1, 1) := by decide +kernel
theorem dX8_taken_1 : decode cX8_taken 1 = .ok (.invokestatic 165, 3) := by decide +kernel
theorem dX8_taken_4 : decode cX8_taken 4 = .ok (.ifCond .eq 13, 3) := by decide +kernel
theorem dX8_taken_7 : decode cX8_taken 7 = .ok (.iload_n 2, 1) := by decide +kernel
theorem dX8_taken_8 : decode cX8_taken 8 = .ok (.ifCond .lt 9, 3) := by decide +kernel
theorem dX8_taken_11 : decode cX8_taken 11 = .ok (.iload_n 2, 1) := by decide +kernel
theorem dX8_taken_12 : decode cX8_taken 12 = .ok (.bipush 8, 2) := by decide +kernel
theorem dX8_taken_14 : decode cX8_taken 14 = .ok (.if_icmp .lt 5, 3) := by decide +kernel
theorem dX8_taken_17 : decode cX8_taken 17 = .ok (.iconst (-1), 1) := by decide +kernel
theorem dX8_taken_18 : decode cX8_taken 18 = .ok (.ireturn, 1) := by decide +kernel
theorem dX8_taken_19 : decode cX8_taken 19 = .ok (.aload_n 0, 1) := by decide +kernel
theorem dX8_taken_20 : decode cX8_taken 20 = .ok (.getfield 63, 3) := by decide +kernel
theorem dX8_taken_23 : decode cX8_taken 23 = .ok (.iload_n 1, 1) := by decide +kernel
theorem dX8_taken_24 : decode cX8_taken 24 = .ok (.aaload, 1) := by decide +kernel
theorem dX8_taken_25 : decode cX8_taken 25 = .ok (.astore_n 3, 1) := by decide +kernel
theorem dX8_taken_26 : decode cX8_taken 26 = .ok (.aload_n 3, 1) := by decide +kernel
theorem dX8_taken_27 : decode cX8_taken 27 = .ok (.getfield 168, 3) := by decide +kernel
theorem dX8_taken_30 : decode cX8_taken 30 = .ok (.ifCond .ne 6, 3) := by decide +kernel
theorem dX8_taken_33 : decode cX8_taken 33 = .ok (.bipush (-11), 2) := by decide +kernel
theorem dX8_taken_35 : decode cX8_taken 35 = .ok (.ireturn, 1) := by decide +kernel
theorem dX8_taken_36 : decode cX8_taken 36 = .ok (.aload_n 3, 1) := by decide +kernel
theorem dX8_taken_37 : decode cX8_taken 37 = .ok (.getfield 168, 3) := by decide +kernel
theorem dX8_taken_40 : decode cX8_taken 40 = .ok (.iconst 1, 1) := by decide +kernel
theorem dX8_taken_41 : decode cX8_taken 41 = .ok (.if_icmp .ne 18, 3) := by decide +kernel
theorem dX8_taken_44 : decode cX8_taken 44 = .ok (.aload_n 0, 1) := by decide +kernel
theorem dX8_taken_45 : decode cX8_taken 45 = .ok (.getfield 57, 3) := by decide +kernel
theorem dX8_taken_48 : decode cX8_taken 48 = .ok (.aload_n 3, 1) := by decide +kernel
theorem dX8_taken_49 : decode cX8_taken 49 = .ok (.getfield 312, 3) := by decide +kernel
theorem dX8_taken_52 : decode cX8_taken 52 = .ok (.iload_n 2, 1) := by decide +kernel
theorem dX8_taken_53 : decode cX8_taken 53 = .ok (.invokevirtual 315, 3) := by decide +kernel
theorem dX8_taken_56 : decode cX8_taken 56 = .ok (.ifCond .ne 6, 3) := by decide +kernel
theorem dX8_taken_59 : decode cX8_taken 59 = .ok (.bipush (-12), 2) := by decide +kernel
theorem dX8_taken_61 : decode cX8_taken 61 = .ok (.ireturn, 1) := by decide +kernel
theorem dX8_taken_62 : decode cX8_taken 62 = .ok (.aload_n 0, 1) := by decide +kernel
theorem dX8_taken_63 : decode cX8_taken 63 = .ok (.getfield 57, 3) := by decide +kernel
theorem dX8_taken_66 : decode cX8_taken 66 = .ok (.getfield 318, 3) := by decide +kernel
theorem dX8_taken_69 : decode cX8_taken 69 = .ok (.aload_n 3, 1) := by decide +kernel
theorem dX8_taken_70 : decode cX8_taken 70 = .ok (.getfield 312, 3) := by decide +kernel
theorem dX8_taken_73 : decode cX8_taken 73 = .ok (.iaload, 1) := by decide +kernel
theorem dX8_taken_74 : decode cX8_taken 74 = .ok (.ireturn, 1) := by decide +kernel
def fX8_taken (N : Nat) (x1 : Int32) (x2 : Int32) (v_foldings_size : Int32) (v_foldings_kinds : List Int32) (v_shelves0_holds : Int32) (v_shelves0_body : Int32) (v_shelves1_holds : Int32) (v_shelves1_body : Int32) (v_shelves2_holds : Int32) (v_shelves2_body : Int32) (v_shelves3_holds : Int32) (v_shelves3_body : Int32) (v_shelves4_holds : Int32) (v_shelves4_body : Int32) (v_shelves5_holds : Int32) (v_shelves5_body : Int32) : Option (Int32) :=
    mm_bd1 (fX8_isShelf N x1) (fun (r_1 : Bool) =>
    if r_1 = false then
    (some ((-1 : Int32)))
    else (if x2 < 0 then
    (some ((-1 : Int32)))
    else (if x2 < (8 : Int32) then
    (if x1 = (0 : Int32) then
    (if v_shelves0_holds = 0 then
    (some ((-11 : Int32)))
    else (if v_shelves0_holds = (1 : Int32) then
    (mm_bd1 (fX1_isUnder N v_shelves0_body x2 v_foldings_size v_foldings_kinds) (fun (r_9 : Bool) =>
    if r_9 = false then
    (some ((-12 : Int32)))
    else (mm_ck (mm_inb v_shelves0_body v_foldings_kinds.length) (some ((mm_ig v_foldings_kinds v_shelves0_body))))))
    else (some ((-12 : Int32)))))
    else (if x1 = (1 : Int32) then
    (if v_shelves1_holds = 0 then
    (some ((-11 : Int32)))
    else (if v_shelves1_holds = (1 : Int32) then
    (mm_bd1 (fX1_isUnder N v_shelves1_body x2 v_foldings_size v_foldings_kinds) (fun (r_16 : Bool) =>
    if r_16 = false then
    (some ((-12 : Int32)))
    else (mm_ck (mm_inb v_shelves1_body v_foldings_kinds.length) (some ((mm_ig v_foldings_kinds v_shelves1_body))))))
    else (some ((-12 : Int32)))))
    else (if x1 = (2 : Int32) then
    (if v_shelves2_holds = 0 then
    (some ((-11 : Int32)))
    else (if v_shelves2_holds = (1 : Int32) then
    (mm_bd1 (fX1_isUnder N v_shelves2_body x2 v_foldings_size v_foldings_kinds) (fun (r_23 : Bool) =>
    if r_23 = false then
    (some ((-12 : Int32)))
    else (mm_ck (mm_inb v_shelves2_body v_foldings_kinds.length) (some ((mm_ig v_foldings_kinds v_shelves2_body))))))
    else (some ((-12 : Int32)))))
    else (if x1 = (3 : Int32) then
    (if v_shelves3_holds = 0 then
    (some ((-11 : Int32)))
    else (if v_shelves3_holds = (1 : Int32) then
    (mm_bd1 (fX1_isUnder N v_shelves3_body x2 v_foldings_size v_foldings_kinds) (fun (r_30 : Bool) =>
    if r_30 = false then
    (some ((-12 : Int32)))
    else (mm_ck (mm_inb v_shelves3_body v_foldings_kinds.length) (some ((mm_ig v_foldings_kinds v_shelves3_body))))))
    else (some ((-12 : Int32)))))
    else (if x1 = (4 : Int32) then
    (if v_shelves4_holds = 0 then
    (some ((-11 : Int32)))
    else (if v_shelves4_holds = (1 : Int32) then
    (mm_bd1 (fX1_isUnder N v_shelves4_body x2 v_foldings_size v_foldings_kinds) (fun (r_37 : Bool) =>
    if r_37 = false then
    (some ((-12 : Int32)))
    else (mm_ck (mm_inb v_shelves4_body v_foldings_kinds.length) (some ((mm_ig v_foldings_kinds v_shelves4_body))))))
    else (some ((-12 : Int32)))))
    else (if x1 = (5 : Int32) then
    (if v_shelves5_holds = 0 then
    (some ((-11 : Int32)))
    else (if v_shelves5_holds = (1 : Int32) then
    (mm_bd1 (fX1_isUnder N v_shelves5_body x2 v_foldings_size v_foldings_kinds) (fun (r_44 : Bool) =>
    if r_44 = false then
    (some ((-12 : Int32)))
    else (mm_ck (mm_inb v_shelves5_body v_foldings_kinds.length) (some ((mm_ig v_foldings_kinds v_shelves5_body))))))
    else (some ((-12 : Int32)))))
    else (none)))))))
    else (some ((-1 : Int32))))))

set_option maxHeartbeats 4000000 in
set_option maxRecDepth 100000 in
theorem ctX8_taken {l : Launch} {D : va_G} {cI cL cS cH : ClassId} {a : Nat → Nat} {x1 : Int32} {x2 : Int32} {v_hasImage : Bool} {v_now_rows : Int32} {v_now_cols : Int32} {v_now_high : Int32} {v_now_wide : Int32} {v_now_folds : Int32} {v_now_wrong : Int32} {v_now_more : Int32} {v_now_rowOf : List Int32} {v_now_colOf : List Int32} {v_now_below : List Int32} {v_now_face : List Int32} {v_now_worn : List Int32} {v_now_last : List Int32} {v_now_bend : List Int32} {v_now_tall : List Int32} {v_kept_rows : Int32} {v_kept_cols : Int32} {v_kept_high : Int32} {v_kept_wide : Int32} {v_kept_folds : Int32} {v_kept_wrong : Int32} {v_kept_more : Int32} {v_kept_rowOf : List Int32} {v_kept_colOf : List Int32} {v_kept_below : List Int32} {v_kept_face : List Int32} {v_kept_worn : List Int32} {v_kept_last : List Int32} {v_kept_bend : List Int32} {v_kept_tall : List Int32} {v_wearing_size : Int32} {v_wearing_stepCount : Int32} {v_wearing_draftCount : Int32} {v_wearing_place : Int32} {v_wearing_fault : Int32} {v_wearing_stacked : Int32} {v_wearing_tape : List Int32} {v_wearing_steps : List Int32} {v_wearing_draft : List Int32} {v_wearing_stack : List Int32} {v_planned_size : Int32} {v_planned_trial_rows : Int32} {v_planned_trial_cols : Int32} {v_planned_trial_high : Int32} {v_planned_trial_wide : Int32} {v_planned_trial_folds : Int32} {v_planned_trial_wrong : Int32} {v_planned_trial_more : Int32} {v_planned_trial_rowOf : List Int32} {v_planned_trial_colOf : List Int32} {v_planned_trial_below : List Int32} {v_planned_trial_face : List Int32} {v_planned_trial_worn : List Int32} {v_planned_trial_last : List Int32} {v_planned_trial_bend : List Int32} {v_planned_trial_tall : List Int32} {v_planned_lines : List Int32} {v_planned_ways : List Int32} {v_search_found : Bool} {v_search_wrong : Int32} {v_search_more : Int32} {v_search_folds : Int32} {v_search_wanted : Int32} {v_search_levels0_rows : Int32} {v_search_levels0_cols : Int32} {v_search_levels0_high : Int32} {v_search_levels0_wide : Int32} {v_search_levels0_folds : Int32} {v_search_levels0_wrong : Int32} {v_search_levels0_more : Int32} {v_search_levels0_rowOf : List Int32} {v_search_levels0_colOf : List Int32} {v_search_levels0_below : List Int32} {v_search_levels0_face : List Int32} {v_search_levels0_worn : List Int32} {v_search_levels0_last : List Int32} {v_search_levels0_bend : List Int32} {v_search_levels0_tall : List Int32} {v_search_levels1_rows : Int32} {v_search_levels1_cols : Int32} {v_search_levels1_high : Int32} {v_search_levels1_wide : Int32} {v_search_levels1_folds : Int32} {v_search_levels1_wrong : Int32} {v_search_levels1_more : Int32} {v_search_levels1_rowOf : List Int32} {v_search_levels1_colOf : List Int32} {v_search_levels1_below : List Int32} {v_search_levels1_face : List Int32} {v_search_levels1_worn : List Int32} {v_search_levels1_last : List Int32} {v_search_levels1_bend : List Int32} {v_search_levels1_tall : List Int32} {v_search_levels2_rows : Int32} {v_search_levels2_cols : Int32} {v_search_levels2_high : Int32} {v_search_levels2_wide : Int32} {v_search_levels2_folds : Int32} {v_search_levels2_wrong : Int32} {v_search_levels2_more : Int32} {v_search_levels2_rowOf : List Int32} {v_search_levels2_colOf : List Int32} {v_search_levels2_below : List Int32} {v_search_levels2_face : List Int32} {v_search_levels2_worn : List Int32} {v_search_levels2_last : List Int32} {v_search_levels2_bend : List Int32} {v_search_levels2_tall : List Int32} {v_search_levels3_rows : Int32} {v_search_levels3_cols : Int32} {v_search_levels3_high : Int32} {v_search_levels3_wide : Int32} {v_search_levels3_folds : Int32} {v_search_levels3_wrong : Int32} {v_search_levels3_more : Int32} {v_search_levels3_rowOf : List Int32} {v_search_levels3_colOf : List Int32} {v_search_levels3_below : List Int32} {v_search_levels3_face : List Int32} {v_search_levels3_worn : List Int32} {v_search_levels3_last : List Int32} {v_search_levels3_bend : List Int32} {v_search_levels3_tall : List Int32} {v_search_path : List Int32} {v_search_best : List Int32} {v_strip_list : List Int32} {v_strip_found : List Int32} {v_strip_at : List Int32} {v_changes_value : Int32} {v_changes_done : Int32} {v_changes_size : Int32} {v_changes_before : List Int32} {v_changes_after : List Int32} {v_foldings_size : Int32} {v_foldings_ran : Int32} {v_foldings_number : Int32} {v_foldings_kinds : List Int32} {v_foldings_trace : List Int32} {v_shelves0_holds : Int32} {v_shelves0_body : Int32} {v_shelves0_sort : Int32} {v_shelves0_size : Int32} {v_shelves0_items : List Int64} {v_shelves1_holds : Int32} {v_shelves1_body : Int32} {v_shelves1_sort : Int32} {v_shelves1_size : Int32} {v_shelves1_items : List Int64} {v_shelves2_holds : Int32} {v_shelves2_body : Int32} {v_shelves2_sort : Int32} {v_shelves2_size : Int32} {v_shelves2_items : List Int64} {v_shelves3_holds : Int32} {v_shelves3_body : Int32} {v_shelves3_sort : Int32} {v_shelves3_size : Int32} {v_shelves3_items : List Int64} {v_shelves4_holds : Int32} {v_shelves4_body : Int32} {v_shelves4_sort : Int32} {v_shelves4_size : Int32} {v_shelves4_items : List Int64} {v_shelves5_holds : Int32} {v_shelves5_body : Int32} {v_shelves5_sort : Int32} {v_shelves5_size : Int32} {v_shelves5_items : List Int64} {r : Int32} {N d : Nat} (hd : 3 ≤ d) (hf : fX8_taken N x1 x2 v_foldings_size v_foldings_kinds v_shelves0_holds v_shelves0_body v_shelves1_holds v_shelves1_body v_shelves2_holds v_shelves2_body v_shelves3_holds v_shelves3_body v_shelves4_holds v_shelves4_body v_shelves5_holds v_shelves5_body = some r) : mm_Ct l yX8_taken cX8_taken 4 (some .int) d D (mm_T cI cL cS cH) [.ref (a 0), .int x1, .int x2] (wd_X8 cI cL cS cH a v_hasImage v_now_rows v_now_cols v_now_high v_now_wide v_now_folds v_now_wrong v_now_more v_now_rowOf v_now_colOf v_now_below v_now_face v_now_worn v_now_last v_now_bend v_now_tall v_kept_rows v_kept_cols v_kept_high v_kept_wide v_kept_folds v_kept_wrong v_kept_more v_kept_rowOf v_kept_colOf v_kept_below v_kept_face v_kept_worn v_kept_last v_kept_bend v_kept_tall v_wearing_size v_wearing_stepCount v_wearing_draftCount v_wearing_place v_wearing_fault v_wearing_stacked v_wearing_tape v_wearing_steps v_wearing_draft v_wearing_stack v_planned_size v_planned_trial_rows v_planned_trial_cols v_planned_trial_high v_planned_trial_wide v_planned_trial_folds v_planned_trial_wrong v_planned_trial_more v_planned_trial_rowOf v_planned_trial_colOf v_planned_trial_below v_planned_trial_face v_planned_trial_worn v_planned_trial_last v_planned_trial_bend v_planned_trial_tall v_planned_lines v_planned_ways v_search_found v_search_wrong v_search_more v_search_folds v_search_wanted v_search_levels0_rows v_search_levels0_cols v_search_levels0_high v_search_levels0_wide v_search_levels0_folds v_search_levels0_wrong v_search_levels0_more v_search_levels0_rowOf v_search_levels0_colOf v_search_levels0_below v_search_levels0_face v_search_levels0_worn v_search_levels0_last v_search_levels0_bend v_search_levels0_tall v_search_levels1_rows v_search_levels1_cols v_search_levels1_high v_search_levels1_wide v_search_levels1_folds v_search_levels1_wrong v_search_levels1_more v_search_levels1_rowOf v_search_levels1_colOf v_search_levels1_below v_search_levels1_face v_search_levels1_worn v_search_levels1_last v_search_levels1_bend v_search_levels1_tall v_search_levels2_rows v_search_levels2_cols v_search_levels2_high v_search_levels2_wide v_search_levels2_folds v_search_levels2_wrong v_search_levels2_more v_search_levels2_rowOf v_search_levels2_colOf v_search_levels2_below v_search_levels2_face v_search_levels2_worn v_search_levels2_last v_search_levels2_bend v_search_levels2_tall v_search_levels3_rows v_search_levels3_cols v_search_levels3_high v_search_levels3_wide v_search_levels3_folds v_search_levels3_wrong v_search_levels3_more v_search_levels3_rowOf v_search_levels3_colOf v_search_levels3_below v_search_levels3_face v_search_levels3_worn v_search_levels3_last v_search_levels3_bend v_search_levels3_tall v_search_path v_search_best v_strip_list v_strip_found v_strip_at v_changes_value v_changes_done v_changes_size v_changes_before v_changes_after v_foldings_size v_foldings_ran v_foldings_number v_foldings_kinds v_foldings_trace v_shelves0_holds v_shelves0_body v_shelves0_sort v_shelves0_size v_shelves0_items v_shelves1_holds v_shelves1_body v_shelves1_sort v_shelves1_size v_shelves1_items v_shelves2_holds v_shelves2_body v_shelves2_sort v_shelves2_size v_shelves2_items v_shelves3_holds v_shelves3_body v_shelves3_sort v_shelves3_size v_shelves3_items v_shelves4_holds v_shelves4_body v_shelves4_sort v_shelves4_size v_shelves4_items v_shelves5_holds v_shelves5_body v_shelves5_sort v_shelves5_size v_shelves5_items) (wd_X8 cI cL cS cH a v_hasImage v_now_rows v_now_cols v_now_high v_now_wide v_now_folds v_now_wrong v_now_more v_now_rowOf v_now_colOf v_now_below v_now_face v_now_worn v_now_last v_now_bend v_now_tall v_kept_rows v_kept_cols v_kept_high v_kept_wide v_kept_folds v_kept_wrong v_kept_more v_kept_rowOf v_kept_colOf v_kept_below v_kept_face v_kept_worn v_kept_last v_kept_bend v_kept_tall v_wearing_size v_wearing_stepCount v_wearing_draftCount v_wearing_place v_wearing_fault v_wearing_stacked v_wearing_tape v_wearing_steps v_wearing_draft v_wearing_stack v_planned_size v_planned_trial_rows v_planned_trial_cols v_planned_trial_high v_planned_trial_wide v_planned_trial_folds v_planned_trial_wrong v_planned_trial_more v_planned_trial_rowOf v_planned_trial_colOf v_planned_trial_below v_planned_trial_face v_planned_trial_worn v_planned_trial_last v_planned_trial_bend v_planned_trial_tall v_planned_lines v_planned_ways v_search_found v_search_wrong v_search_more v_search_folds v_search_wanted v_search_levels0_rows v_search_levels0_cols v_search_levels0_high v_search_levels0_wide v_search_levels0_folds v_search_levels0_wrong v_search_levels0_more v_search_levels0_rowOf v_search_levels0_colOf v_search_levels0_below v_search_levels0_face v_search_levels0_worn v_search_levels0_last v_search_levels0_bend v_search_levels0_tall v_search_levels1_rows v_search_levels1_cols v_search_levels1_high v_search_levels1_wide v_search_levels1_folds v_search_levels1_wrong v_search_levels1_more v_search_levels1_rowOf v_search_levels1_colOf v_search_levels1_below v_search_levels1_face v_search_levels1_worn v_search_levels1_last v_search_levels1_bend v_search_levels1_tall v_search_levels2_rows v_search_levels2_cols v_search_levels2_high v_search_levels2_wide v_search_levels2_folds v_search_levels2_wrong v_search_levels2_more v_search_levels2_rowOf v_search_levels2_colOf v_search_levels2_below v_search_levels2_face v_search_levels2_worn v_search_levels2_last v_search_levels2_bend v_search_levels2_tall v_search_levels3_rows v_search_levels3_cols v_search_levels3_high v_search_levels3_wide v_search_levels3_folds v_search_levels3_wrong v_search_levels3_more v_search_levels3_rowOf v_search_levels3_colOf v_search_levels3_below v_search_levels3_face v_search_levels3_worn v_search_levels3_last v_search_levels3_bend v_search_levels3_tall v_search_path v_search_best v_strip_list v_strip_found v_strip_at v_changes_value v_changes_done v_changes_size v_changes_before v_changes_after v_foldings_size v_foldings_ran v_foldings_number v_foldings_kinds v_foldings_trace v_shelves0_holds v_shelves0_body v_shelves0_sort v_shelves0_size v_shelves0_items v_shelves1_holds v_shelves1_body v_shelves1_sort v_shelves1_size v_shelves1_items v_shelves2_holds v_shelves2_body v_shelves2_sort v_shelves2_size v_shelves2_items v_shelves3_holds v_shelves3_body v_shelves3_sort v_shelves3_size v_shelves3_items v_shelves4_holds v_shelves4_body v_shelves4_sort v_shelves4_size v_shelves4_items v_shelves5_holds v_shelves5_body v_shelves5_sort v_shelves5_size v_shelves5_items) (some (.int r)) := by
  refine mm_of (by decide) (Nat.le_of_ble_eq_true rfl) ?_
  intro p e s m args below meth c A H locs ls C0 hP hD hA hS hl
  have C0 : mm_Cx p s m args meth c RX8 cX8_taken 4 (some .int) D (mm_T cI cL cS cH) A := C0
  obtain ⟨hx, hb, hml, hown, hts, hr, hlocks, hK, hSt⟩ := id C0
  have hl : lv_has ls 4 [(0, .ref (a 0)), (1, .int x1), (2, .int x2)] := hl
  unfold fX8_taken at hf
  refine lv_iload_n hx hb dX8_taken_0 rfl (lv_at hl 1 rfl) ?_
  obtain ⟨r_1, hc_2, hf⟩ := mm_bd1s hf
  refine mm_callS0 (rest := []) C0 lk_X8_165 (ctX8_isShelf (d := d - 1) (by omega) hc_2) (by omega) rfl hl.1 rfl (mm_cat rfl) dX8_taken_1 hP hD hA hS (fun H locs hP hS => ?_)
  refine W.eq (g2 := F0 m 4 ls [.int (mm_b r_1)]) rfl ?_
  refine lv_if_eq (tgt := 17) hx hb dX8_taken_4 (by decide) (fun c_3 => ?_) (fun c_3 => ?_)
  · have hf := mm_ip hf (mm_b0 c_3)
    refine lv_iconst (v := -1) hx hb dX8_taken_17 (by decide) ?_
    obtain rfl := mm_inj1 hf
    exact mm_iret C0 hP hD hS dX8_taken_18
  · have hf := mm_in hf (mm_b1 c_3)
    refine lv_iload_n hx hb dX8_taken_7 rfl (lv_at hl 2 rfl) ?_
    refine lv_if_lt (tgt := 17) hx hb dX8_taken_8 (by decide) (fun c_4 => ?_) (fun c_4 => ?_)
    · have hf := mm_ip hf c_4
      refine lv_iconst (v := -1) hx hb dX8_taken_17 (by decide) ?_
      obtain rfl := mm_inj1 hf
      exact mm_iret C0 hP hD hS dX8_taken_18
    · have hf := mm_in hf c_4
      refine lv_iload_n hx hb dX8_taken_11 rfl (lv_at hl 2 rfl) ?_
      refine lv_bipush (v := 8) hx hb dX8_taken_12 (by decide) ?_
      refine lv_icmp_lt (tgt := 19) hx hb dX8_taken_14 (by decide) (fun c_5 => ?_) (fun c_5 => ?_)
      · have hf := mm_ip hf c_5
        refine lv_aload_n hx hb dX8_taken_19 rfl (lv_at hl 0 rfl) ?_
        refine mm_get C0 hP iw_X8 0 rfl rfl 8 (by decide) fl_X8_63 rfl dX8_taken_20 ?_
        refine lv_iload_n hx hb dX8_taken_23 rfl (lv_at hl 1 rfl) ?_
        by_cases c_6 : x1 = (0 : Int32)
        · have hf := mm_ip hf c_6
          refine mm_aald 3 rfl C0 hP 86 rfl (b := a 87) (by rw [c_6]; rfl) (by rw [c_6]; rfl) dX8_taken_24 ?_
          refine lv_astore_n (lv' := [(3, .ref (a 87)), (0, .ref (a 0)), (1, .int x1), (2, .int x2)]) hx hb dX8_taken_25 rfl hl (by decide) rfl (fun ls hl => ?_)
          refine lv_aload_n hx hb dX8_taken_26 rfl (lv_at hl 0 rfl) ?_
          refine mm_get C0 hP iw_X6 87 rfl rfl 0 (by decide) fl_X8_168 rfl dX8_taken_27 ?_
          refine lv_if_ne (tgt := 36) hx hb dX8_taken_30 (by decide) (fun c_7 => ?_) (fun c_7 => ?_)
          · have hf := mm_in hf c_7
            refine lv_aload_n hx hb dX8_taken_36 rfl (lv_at hl 0 rfl) ?_
            refine mm_get C0 hP iw_X6 87 rfl rfl 0 (by decide) fl_X8_168 rfl dX8_taken_37 ?_
            refine lv_iconst (v := 1) hx hb dX8_taken_40 (by decide) ?_
            refine lv_icmp_ne (tgt := 59) hx hb dX8_taken_41 (by decide) (fun c_8 => ?_) (fun c_8 => ?_)
            · have hf := mm_in hf c_8
              refine lv_bipush (v := -12) hx hb dX8_taken_59 (by decide) ?_
              obtain rfl := mm_inj1 hf
              exact mm_iret C0 hP hD hS dX8_taken_61
            · have hf := mm_ip hf c_8
              refine lv_aload_n hx hb dX8_taken_44 rfl (lv_at hl 1 rfl) ?_
              refine mm_get C0 hP iw_X8 0 rfl rfl 7 (by decide) fl_X8_57 rfl dX8_taken_45 ?_
              refine lv_aload_n hx hb dX8_taken_48 rfl (lv_at hl 0 rfl) ?_
              refine mm_get C0 hP iw_X6 87 rfl rfl 1 (by decide) fl_X8_312 rfl dX8_taken_49 ?_
              refine lv_iload_n hx hb dX8_taken_52 rfl (lv_at hl 3 rfl) ?_
              obtain ⟨r_9, hc_10, hf⟩ := mm_bd1s hf
              refine mm_callW (q0 := 83) (ci := 1) (w2 := (wd_X8 cI cL cS cH a v_hasImage v_now_rows v_now_cols v_now_high v_now_wide v_now_folds v_now_wrong v_now_more v_now_rowOf v_now_colOf v_now_below v_now_face v_now_worn v_now_last v_now_bend v_now_tall v_kept_rows v_kept_cols v_kept_high v_kept_wide v_kept_folds v_kept_wrong v_kept_more v_kept_rowOf v_kept_colOf v_kept_below v_kept_face v_kept_worn v_kept_last v_kept_bend v_kept_tall v_wearing_size v_wearing_stepCount v_wearing_draftCount v_wearing_place v_wearing_fault v_wearing_stacked v_wearing_tape v_wearing_steps v_wearing_draft v_wearing_stack v_planned_size v_planned_trial_rows v_planned_trial_cols v_planned_trial_high v_planned_trial_wide v_planned_trial_folds v_planned_trial_wrong v_planned_trial_more v_planned_trial_rowOf v_planned_trial_colOf v_planned_trial_below v_planned_trial_face v_planned_trial_worn v_planned_trial_last v_planned_trial_bend v_planned_trial_tall v_planned_lines v_planned_ways v_search_found v_search_wrong v_search_more v_search_folds v_search_wanted v_search_levels0_rows v_search_levels0_cols v_search_levels0_high v_search_levels0_wide v_search_levels0_folds v_search_levels0_wrong v_search_levels0_more v_search_levels0_rowOf v_search_levels0_colOf v_search_levels0_below v_search_levels0_face v_search_levels0_worn v_search_levels0_last v_search_levels0_bend v_search_levels0_tall v_search_levels1_rows v_search_levels1_cols v_search_levels1_high v_search_levels1_wide v_search_levels1_folds v_search_levels1_wrong v_search_levels1_more v_search_levels1_rowOf v_search_levels1_colOf v_search_levels1_below v_search_levels1_face v_search_levels1_worn v_search_levels1_last v_search_levels1_bend v_search_levels1_tall v_search_levels2_rows v_search_levels2_cols v_search_levels2_high v_search_levels2_wide v_search_levels2_folds v_search_levels2_wrong v_search_levels2_more v_search_levels2_rowOf v_search_levels2_colOf v_search_levels2_below v_search_levels2_face v_search_levels2_worn v_search_levels2_last v_search_levels2_bend v_search_levels2_tall v_search_levels3_rows v_search_levels3_cols v_search_levels3_high v_search_levels3_wide v_search_levels3_folds v_search_levels3_wrong v_search_levels3_more v_search_levels3_rowOf v_search_levels3_colOf v_search_levels3_below v_search_levels3_face v_search_levels3_worn v_search_levels3_last v_search_levels3_bend v_search_levels3_tall v_search_path v_search_best v_strip_list v_strip_found v_strip_at v_changes_value v_changes_done v_changes_size v_changes_before v_changes_after v_foldings_size v_foldings_ran v_foldings_number v_foldings_kinds v_foldings_trace v_shelves0_holds v_shelves0_body v_shelves0_sort v_shelves0_size v_shelves0_items v_shelves1_holds v_shelves1_body v_shelves1_sort v_shelves1_size v_shelves1_items v_shelves2_holds v_shelves2_body v_shelves2_sort v_shelves2_size v_shelves2_items v_shelves3_holds v_shelves3_body v_shelves3_sort v_shelves3_size v_shelves3_items v_shelves4_holds v_shelves4_body v_shelves4_sort v_shelves4_size v_shelves4_items v_shelves5_holds v_shelves5_body v_shelves5_sort v_shelves5_size v_shelves5_items)) (rest := []) C0 lk_X8_315 (ctX1_isUnder (a := (fun k => a (k + 83))) (d := d - 1) (by omega) hc_10) (by omega) rfl hl.1 rfl (mm_cat rfl) dX8_taken_53 hP hD hA hS rfl rfl [false, false, false, false, false, false, false, false, false, false, false, false, false, false, false, false, false, false, false, false, false, false, false, false, false, false, false, false, false, false, false, false, false, false, false, false, false, false, false, false, false, false, false, false, false, false, false, false, false, false, false, false, false, false, false, false, false, false, false, false, false, false, false, false, false, false, false, false, false, false, false, false, false, false, false, false, false, false, false, false, false, false, false, true, true, true, false, false, false, false, false, false, false, false, false, false, false, false, false] rfl rfl rfl rfl (fun H locs hP hD hS => ?_)
              refine W.eq (g2 := F0 m 56 ls [.int (mm_b r_9)]) rfl ?_
              refine lv_if_ne (tgt := 62) hx hb dX8_taken_56 (by decide) (fun c_11 => ?_) (fun c_11 => ?_)
              · have hf := mm_in hf (mm_b1 c_11)
                refine lv_aload_n hx hb dX8_taken_62 rfl (lv_at hl 1 rfl) ?_
                refine mm_get C0 hP iw_X8 0 rfl rfl 7 (by decide) fl_X8_57 rfl dX8_taken_63 ?_
                refine mm_get C0 hP iw_X1 83 rfl rfl 2 (by decide) fl_X8_318 rfl dX8_taken_66 ?_
                refine lv_aload_n hx hb dX8_taken_69 rfl (lv_at hl 0 rfl) ?_
                refine mm_get C0 hP iw_X6 87 rfl rfl 1 (by decide) fl_X8_312 rfl dX8_taken_70 ?_
                obtain ⟨h_12, hf⟩ := mm_cks hf
                refine mm_iald C0 hP 84 rfl h_12 dX8_taken_73 ?_
                obtain rfl := mm_inj1 hf
                exact mm_iret C0 hP hD hS dX8_taken_74
              · have hf := mm_ip hf (mm_b0 c_11)
                refine lv_bipush (v := -12) hx hb dX8_taken_59 (by decide) ?_
                obtain rfl := mm_inj1 hf
                exact mm_iret C0 hP hD hS dX8_taken_61
          · have hf := mm_ip hf c_7
            refine lv_bipush (v := -11) hx hb dX8_taken_33 (by decide) ?_
            obtain rfl := mm_inj1 hf
            exact mm_iret C0 hP hD hS dX8_taken_35
        · have hf := mm_in hf c_6
          by_cases c_13 : x1 = (1 : Int32)
          · have hf := mm_ip hf c_13
            refine mm_aald 3 rfl C0 hP 86 rfl (b := a 89) (by rw [c_13]; rfl) (by rw [c_13]; rfl) dX8_taken_24 ?_
            refine lv_astore_n (lv' := [(3, .ref (a 89)), (0, .ref (a 0)), (1, .int x1), (2, .int x2)]) hx hb dX8_taken_25 rfl hl (by decide) rfl (fun ls hl => ?_)
            refine lv_aload_n hx hb dX8_taken_26 rfl (lv_at hl 0 rfl) ?_
            refine mm_get C0 hP iw_X6 89 rfl rfl 0 (by decide) fl_X8_168 rfl dX8_taken_27 ?_
            refine lv_if_ne (tgt := 36) hx hb dX8_taken_30 (by decide) (fun c_14 => ?_) (fun c_14 => ?_)
            · have hf := mm_in hf c_14
              refine lv_aload_n hx hb dX8_taken_36 rfl (lv_at hl 0 rfl) ?_
              refine mm_get C0 hP iw_X6 89 rfl rfl 0 (by decide) fl_X8_168 rfl dX8_taken_37 ?_
              refine lv_iconst (v := 1) hx hb dX8_taken_40 (by decide) ?_
              refine lv_icmp_ne (tgt := 59) hx hb dX8_taken_41 (by decide) (fun c_15 => ?_) (fun c_15 => ?_)
              · have hf := mm_in hf c_15
                refine lv_bipush (v := -12) hx hb dX8_taken_59 (by decide) ?_
                obtain rfl := mm_inj1 hf
                exact mm_iret C0 hP hD hS dX8_taken_61
              · have hf := mm_ip hf c_15
                refine lv_aload_n hx hb dX8_taken_44 rfl (lv_at hl 1 rfl) ?_
                refine mm_get C0 hP iw_X8 0 rfl rfl 7 (by decide) fl_X8_57 rfl dX8_taken_45 ?_
                refine lv_aload_n hx hb dX8_taken_48 rfl (lv_at hl 0 rfl) ?_
                refine mm_get C0 hP iw_X6 89 rfl rfl 1 (by decide) fl_X8_312 rfl dX8_taken_49 ?_
                refine lv_iload_n hx hb dX8_taken_52 rfl (lv_at hl 3 rfl) ?_
                obtain ⟨r_16, hc_17, hf⟩ := mm_bd1s hf
                refine mm_callW (q0 := 83) (ci := 1) (w2 := (wd_X8 cI cL cS cH a v_hasImage v_now_rows v_now_cols v_now_high v_now_wide v_now_folds v_now_wrong v_now_more v_now_rowOf v_now_colOf v_now_below v_now_face v_now_worn v_now_last v_now_bend v_now_tall v_kept_rows v_kept_cols v_kept_high v_kept_wide v_kept_folds v_kept_wrong v_kept_more v_kept_rowOf v_kept_colOf v_kept_below v_kept_face v_kept_worn v_kept_last v_kept_bend v_kept_tall v_wearing_size v_wearing_stepCount v_wearing_draftCount v_wearing_place v_wearing_fault v_wearing_stacked v_wearing_tape v_wearing_steps v_wearing_draft v_wearing_stack v_planned_size v_planned_trial_rows v_planned_trial_cols v_planned_trial_high v_planned_trial_wide v_planned_trial_folds v_planned_trial_wrong v_planned_trial_more v_planned_trial_rowOf v_planned_trial_colOf v_planned_trial_below v_planned_trial_face v_planned_trial_worn v_planned_trial_last v_planned_trial_bend v_planned_trial_tall v_planned_lines v_planned_ways v_search_found v_search_wrong v_search_more v_search_folds v_search_wanted v_search_levels0_rows v_search_levels0_cols v_search_levels0_high v_search_levels0_wide v_search_levels0_folds v_search_levels0_wrong v_search_levels0_more v_search_levels0_rowOf v_search_levels0_colOf v_search_levels0_below v_search_levels0_face v_search_levels0_worn v_search_levels0_last v_search_levels0_bend v_search_levels0_tall v_search_levels1_rows v_search_levels1_cols v_search_levels1_high v_search_levels1_wide v_search_levels1_folds v_search_levels1_wrong v_search_levels1_more v_search_levels1_rowOf v_search_levels1_colOf v_search_levels1_below v_search_levels1_face v_search_levels1_worn v_search_levels1_last v_search_levels1_bend v_search_levels1_tall v_search_levels2_rows v_search_levels2_cols v_search_levels2_high v_search_levels2_wide v_search_levels2_folds v_search_levels2_wrong v_search_levels2_more v_search_levels2_rowOf v_search_levels2_colOf v_search_levels2_below v_search_levels2_face v_search_levels2_worn v_search_levels2_last v_search_levels2_bend v_search_levels2_tall v_search_levels3_rows v_search_levels3_cols v_search_levels3_high v_search_levels3_wide v_search_levels3_folds v_search_levels3_wrong v_search_levels3_more v_search_levels3_rowOf v_search_levels3_colOf v_search_levels3_below v_search_levels3_face v_search_levels3_worn v_search_levels3_last v_search_levels3_bend v_search_levels3_tall v_search_path v_search_best v_strip_list v_strip_found v_strip_at v_changes_value v_changes_done v_changes_size v_changes_before v_changes_after v_foldings_size v_foldings_ran v_foldings_number v_foldings_kinds v_foldings_trace v_shelves0_holds v_shelves0_body v_shelves0_sort v_shelves0_size v_shelves0_items v_shelves1_holds v_shelves1_body v_shelves1_sort v_shelves1_size v_shelves1_items v_shelves2_holds v_shelves2_body v_shelves2_sort v_shelves2_size v_shelves2_items v_shelves3_holds v_shelves3_body v_shelves3_sort v_shelves3_size v_shelves3_items v_shelves4_holds v_shelves4_body v_shelves4_sort v_shelves4_size v_shelves4_items v_shelves5_holds v_shelves5_body v_shelves5_sort v_shelves5_size v_shelves5_items)) (rest := []) C0 lk_X8_315 (ctX1_isUnder (a := (fun k => a (k + 83))) (d := d - 1) (by omega) hc_17) (by omega) rfl hl.1 rfl (mm_cat rfl) dX8_taken_53 hP hD hA hS rfl rfl [false, false, false, false, false, false, false, false, false, false, false, false, false, false, false, false, false, false, false, false, false, false, false, false, false, false, false, false, false, false, false, false, false, false, false, false, false, false, false, false, false, false, false, false, false, false, false, false, false, false, false, false, false, false, false, false, false, false, false, false, false, false, false, false, false, false, false, false, false, false, false, false, false, false, false, false, false, false, false, false, false, false, false, true, true, true, false, false, false, false, false, false, false, false, false, false, false, false, false] rfl rfl rfl rfl (fun H locs hP hD hS => ?_)
                refine W.eq (g2 := F0 m 56 ls [.int (mm_b r_16)]) rfl ?_
                refine lv_if_ne (tgt := 62) hx hb dX8_taken_56 (by decide) (fun c_18 => ?_) (fun c_18 => ?_)
                · have hf := mm_in hf (mm_b1 c_18)
                  refine lv_aload_n hx hb dX8_taken_62 rfl (lv_at hl 1 rfl) ?_
                  refine mm_get C0 hP iw_X8 0 rfl rfl 7 (by decide) fl_X8_57 rfl dX8_taken_63 ?_
                  refine mm_get C0 hP iw_X1 83 rfl rfl 2 (by decide) fl_X8_318 rfl dX8_taken_66 ?_
                  refine lv_aload_n hx hb dX8_taken_69 rfl (lv_at hl 0 rfl) ?_
                  refine mm_get C0 hP iw_X6 89 rfl rfl 1 (by decide) fl_X8_312 rfl dX8_taken_70 ?_
                  obtain ⟨h_19, hf⟩ := mm_cks hf
                  refine mm_iald C0 hP 84 rfl h_19 dX8_taken_73 ?_
                  obtain rfl := mm_inj1 hf
                  exact mm_iret C0 hP hD hS dX8_taken_74
                · have hf := mm_ip hf (mm_b0 c_18)
                  refine lv_bipush (v := -12) hx hb dX8_taken_59 (by decide) ?_
                  obtain rfl := mm_inj1 hf
                  exact mm_iret C0 hP hD hS dX8_taken_61
            · have hf := mm_ip hf c_14
              refine lv_bipush (v := -11) hx hb dX8_taken_33 (by decide) ?_
              obtain rfl := mm_inj1 hf
              exact mm_iret C0 hP hD hS dX8_taken_35
          · have hf := mm_in hf c_13
            by_cases c_20 : x1 = (2 : Int32)
            · have hf := mm_ip hf c_20
              refine mm_aald 3 rfl C0 hP 86 rfl (b := a 91) (by rw [c_20]; rfl) (by rw [c_20]; rfl) dX8_taken_24 ?_
              refine lv_astore_n (lv' := [(3, .ref (a 91)), (0, .ref (a 0)), (1, .int x1), (2, .int x2)]) hx hb dX8_taken_25 rfl hl (by decide) rfl (fun ls hl => ?_)
              refine lv_aload_n hx hb dX8_taken_26 rfl (lv_at hl 0 rfl) ?_
              refine mm_get C0 hP iw_X6 91 rfl rfl 0 (by decide) fl_X8_168 rfl dX8_taken_27 ?_
              refine lv_if_ne (tgt := 36) hx hb dX8_taken_30 (by decide) (fun c_21 => ?_) (fun c_21 => ?_)
              · have hf := mm_in hf c_21
                refine lv_aload_n hx hb dX8_taken_36 rfl (lv_at hl 0 rfl) ?_
                refine mm_get C0 hP iw_X6 91 rfl rfl 0 (by decide) fl_X8_168 rfl dX8_taken_37 ?_
                refine lv_iconst (v := 1) hx hb dX8_taken_40 (by decide) ?_
                refine lv_icmp_ne (tgt := 59) hx hb dX8_taken_41 (by decide) (fun c_22 => ?_) (fun c_22 => ?_)
                · have hf := mm_in hf c_22
                  refine lv_bipush (v := -12) hx hb dX8_taken_59 (by decide) ?_
                  obtain rfl := mm_inj1 hf
                  exact mm_iret C0 hP hD hS dX8_taken_61
                · have hf := mm_ip hf c_22
                  refine lv_aload_n hx hb dX8_taken_44 rfl (lv_at hl 1 rfl) ?_
                  refine mm_get C0 hP iw_X8 0 rfl rfl 7 (by decide) fl_X8_57 rfl dX8_taken_45 ?_
                  refine lv_aload_n hx hb dX8_taken_48 rfl (lv_at hl 0 rfl) ?_
                  refine mm_get C0 hP iw_X6 91 rfl rfl 1 (by decide) fl_X8_312 rfl dX8_taken_49 ?_
                  refine lv_iload_n hx hb dX8_taken_52 rfl (lv_at hl 3 rfl) ?_
                  obtain ⟨r_23, hc_24, hf⟩ := mm_bd1s hf
                  refine mm_callW (q0 := 83) (ci := 1) (w2 := (wd_X8 cI cL cS cH a v_hasImage v_now_rows v_now_cols v_now_high v_now_wide v_now_folds v_now_wrong v_now_more v_now_rowOf v_now_colOf v_now_below v_now_face v_now_worn v_now_last v_now_bend v_now_tall v_kept_rows v_kept_cols v_kept_high v_kept_wide v_kept_folds v_kept_wrong v_kept_more v_kept_rowOf v_kept_colOf v_kept_below v_kept_face v_kept_worn v_kept_last v_kept_bend v_kept_tall v_wearing_size v_wearing_stepCount v_wearing_draftCount v_wearing_place v_wearing_fault v_wearing_stacked v_wearing_tape v_wearing_steps v_wearing_draft v_wearing_stack v_planned_size v_planned_trial_rows v_planned_trial_cols v_planned_trial_high v_planned_trial_wide v_planned_trial_folds v_planned_trial_wrong v_planned_trial_more v_planned_trial_rowOf v_planned_trial_colOf v_planned_trial_below v_planned_trial_face v_planned_trial_worn v_planned_trial_last v_planned_trial_bend v_planned_trial_tall v_planned_lines v_planned_ways v_search_found v_search_wrong v_search_more v_search_folds v_search_wanted v_search_levels0_rows v_search_levels0_cols v_search_levels0_high v_search_levels0_wide v_search_levels0_folds v_search_levels0_wrong v_search_levels0_more v_search_levels0_rowOf v_search_levels0_colOf v_search_levels0_below v_search_levels0_face v_search_levels0_worn v_search_levels0_last v_search_levels0_bend v_search_levels0_tall v_search_levels1_rows v_search_levels1_cols v_search_levels1_high v_search_levels1_wide v_search_levels1_folds v_search_levels1_wrong v_search_levels1_more v_search_levels1_rowOf v_search_levels1_colOf v_search_levels1_below v_search_levels1_face v_search_levels1_worn v_search_levels1_last v_search_levels1_bend v_search_levels1_tall v_search_levels2_rows v_search_levels2_cols v_search_levels2_high v_search_levels2_wide v_search_levels2_folds v_search_levels2_wrong v_search_levels2_more v_search_levels2_rowOf v_search_levels2_colOf v_search_levels2_below v_search_levels2_face v_search_levels2_worn v_search_levels2_last v_search_levels2_bend v_search_levels2_tall v_search_levels3_rows v_search_levels3_cols v_search_levels3_high v_search_levels3_wide v_search_levels3_folds v_search_levels3_wrong v_search_levels3_more v_search_levels3_rowOf v_search_levels3_colOf v_search_levels3_below v_search_levels3_face v_search_levels3_worn v_search_levels3_last v_search_levels3_bend v_search_levels3_tall v_search_path v_search_best v_strip_list v_strip_found v_strip_at v_changes_value v_changes_done v_changes_size v_changes_before v_changes_after v_foldings_size v_foldings_ran v_foldings_number v_foldings_kinds v_foldings_trace v_shelves0_holds v_shelves0_body v_shelves0_sort v_shelves0_size v_shelves0_items v_shelves1_holds v_shelves1_body v_shelves1_sort v_shelves1_size v_shelves1_items v_shelves2_holds v_shelves2_body v_shelves2_sort v_shelves2_size v_shelves2_items v_shelves3_holds v_shelves3_body v_shelves3_sort v_shelves3_size v_shelves3_items v_shelves4_holds v_shelves4_body v_shelves4_sort v_shelves4_size v_shelves4_items v_shelves5_holds v_shelves5_body v_shelves5_sort v_shelves5_size v_shelves5_items)) (rest := []) C0 lk_X8_315 (ctX1_isUnder (a := (fun k => a (k + 83))) (d := d - 1) (by omega) hc_24) (by omega) rfl hl.1 rfl (mm_cat rfl) dX8_taken_53 hP hD hA hS rfl rfl [false, false, false, false, false, false, false, false, false, false, false, false, false, false, false, false, false, false, false, false, false, false, false, false, false, false, false, false, false, false, false, false, false, false, false, false, false, false, false, false, false, false, false, false, false, false, false, false, false, false, false, false, false, false, false, false, false, false, false, false, false, false, false, false, false, false, false, false, false, false, false, false, false, false, false, false, false, false, false, false, false, false, false, true, true, true, false, false, false, false, false, false, false, false, false, false, false, false, false] rfl rfl rfl rfl (fun H locs hP hD hS => ?_)
                  refine W.eq (g2 := F0 m 56 ls [.int (mm_b r_23)]) rfl ?_
                  refine lv_if_ne (tgt := 62) hx hb dX8_taken_56 (by decide) (fun c_25 => ?_) (fun c_25 => ?_)
                  · have hf := mm_in hf (mm_b1 c_25)
                    refine lv_aload_n hx hb dX8_taken_62 rfl (lv_at hl 1 rfl) ?_
                    refine mm_get C0 hP iw_X8 0 rfl rfl 7 (by decide) fl_X8_57 rfl dX8_taken_63 ?_
                    refine mm_get C0 hP iw_X1 83 rfl rfl 2 (by decide) fl_X8_318 rfl dX8_taken_66 ?_
                    refine lv_aload_n hx hb dX8_taken_69 rfl (lv_at hl 0 rfl) ?_
                    refine mm_get C0 hP iw_X6 91 rfl rfl 1 (by decide) fl_X8_312 rfl dX8_taken_70 ?_
                    obtain ⟨h_26, hf⟩ := mm_cks hf
                    refine mm_iald C0 hP 84 rfl h_26 dX8_taken_73 ?_
                    obtain rfl := mm_inj1 hf
                    exact mm_iret C0 hP hD hS dX8_taken_74
                  · have hf := mm_ip hf (mm_b0 c_25)
                    refine lv_bipush (v := -12) hx hb dX8_taken_59 (by decide) ?_
                    obtain rfl := mm_inj1 hf
                    exact mm_iret C0 hP hD hS dX8_taken_61
              · have hf := mm_ip hf c_21
                refine lv_bipush (v := -11) hx hb dX8_taken_33 (by decide) ?_
                obtain rfl := mm_inj1 hf
                exact mm_iret C0 hP hD hS dX8_taken_35
            · have hf := mm_in hf c_20
              by_cases c_27 : x1 = (3 : Int32)
              · have hf := mm_ip hf c_27
                refine mm_aald 3 rfl C0 hP 86 rfl (b := a 93) (by rw [c_27]; rfl) (by rw [c_27]; rfl) dX8_taken_24 ?_
                refine lv_astore_n (lv' := [(3, .ref (a 93)), (0, .ref (a 0)), (1, .int x1), (2, .int x2)]) hx hb dX8_taken_25 rfl hl (by decide) rfl (fun ls hl => ?_)
                refine lv_aload_n hx hb dX8_taken_26 rfl (lv_at hl 0 rfl) ?_
                refine mm_get C0 hP iw_X6 93 rfl rfl 0 (by decide) fl_X8_168 rfl dX8_taken_27 ?_
                refine lv_if_ne (tgt := 36) hx hb dX8_taken_30 (by decide) (fun c_28 => ?_) (fun c_28 => ?_)
                · have hf := mm_in hf c_28
                  refine lv_aload_n hx hb dX8_taken_36 rfl (lv_at hl 0 rfl) ?_
                  refine mm_get C0 hP iw_X6 93 rfl rfl 0 (by decide) fl_X8_168 rfl dX8_taken_37 ?_
                  refine lv_iconst (v := 1) hx hb dX8_taken_40 (by decide) ?_
                  refine lv_icmp_ne (tgt := 59) hx hb dX8_taken_41 (by decide) (fun c_29 => ?_) (fun c_29 => ?_)
                  · have hf := mm_in hf c_29
                    refine lv_bipush (v := -12) hx hb dX8_taken_59 (by decide) ?_
                    obtain rfl := mm_inj1 hf
                    exact mm_iret C0 hP hD hS dX8_taken_61
                  · have hf := mm_ip hf c_29
                    refine lv_aload_n hx hb dX8_taken_44 rfl (lv_at hl 1 rfl) ?_
                    refine mm_get C0 hP iw_X8 0 rfl rfl 7 (by decide) fl_X8_57 rfl dX8_taken_45 ?_
                    refine lv_aload_n hx hb dX8_taken_48 rfl (lv_at hl 0 rfl) ?_
                    refine mm_get C0 hP iw_X6 93 rfl rfl 1 (by decide) fl_X8_312 rfl dX8_taken_49 ?_
                    refine lv_iload_n hx hb dX8_taken_52 rfl (lv_at hl 3 rfl) ?_
                    obtain ⟨r_30, hc_31, hf⟩ := mm_bd1s hf
                    refine mm_callW (q0 := 83) (ci := 1) (w2 := (wd_X8 cI cL cS cH a v_hasImage v_now_rows v_now_cols v_now_high v_now_wide v_now_folds v_now_wrong v_now_more v_now_rowOf v_now_colOf v_now_below v_now_face v_now_worn v_now_last v_now_bend v_now_tall v_kept_rows v_kept_cols v_kept_high v_kept_wide v_kept_folds v_kept_wrong v_kept_more v_kept_rowOf v_kept_colOf v_kept_below v_kept_face v_kept_worn v_kept_last v_kept_bend v_kept_tall v_wearing_size v_wearing_stepCount v_wearing_draftCount v_wearing_place v_wearing_fault v_wearing_stacked v_wearing_tape v_wearing_steps v_wearing_draft v_wearing_stack v_planned_size v_planned_trial_rows v_planned_trial_cols v_planned_trial_high v_planned_trial_wide v_planned_trial_folds v_planned_trial_wrong v_planned_trial_more v_planned_trial_rowOf v_planned_trial_colOf v_planned_trial_below v_planned_trial_face v_planned_trial_worn v_planned_trial_last v_planned_trial_bend v_planned_trial_tall v_planned_lines v_planned_ways v_search_found v_search_wrong v_search_more v_search_folds v_search_wanted v_search_levels0_rows v_search_levels0_cols v_search_levels0_high v_search_levels0_wide v_search_levels0_folds v_search_levels0_wrong v_search_levels0_more v_search_levels0_rowOf v_search_levels0_colOf v_search_levels0_below v_search_levels0_face v_search_levels0_worn v_search_levels0_last v_search_levels0_bend v_search_levels0_tall v_search_levels1_rows v_search_levels1_cols v_search_levels1_high v_search_levels1_wide v_search_levels1_folds v_search_levels1_wrong v_search_levels1_more v_search_levels1_rowOf v_search_levels1_colOf v_search_levels1_below v_search_levels1_face v_search_levels1_worn v_search_levels1_last v_search_levels1_bend v_search_levels1_tall v_search_levels2_rows v_search_levels2_cols v_search_levels2_high v_search_levels2_wide v_search_levels2_folds v_search_levels2_wrong v_search_levels2_more v_search_levels2_rowOf v_search_levels2_colOf v_search_levels2_below v_search_levels2_face v_search_levels2_worn v_search_levels2_last v_search_levels2_bend v_search_levels2_tall v_search_levels3_rows v_search_levels3_cols v_search_levels3_high v_search_levels3_wide v_search_levels3_folds v_search_levels3_wrong v_search_levels3_more v_search_levels3_rowOf v_search_levels3_colOf v_search_levels3_below v_search_levels3_face v_search_levels3_worn v_search_levels3_last v_search_levels3_bend v_search_levels3_tall v_search_path v_search_best v_strip_list v_strip_found v_strip_at v_changes_value v_changes_done v_changes_size v_changes_before v_changes_after v_foldings_size v_foldings_ran v_foldings_number v_foldings_kinds v_foldings_trace v_shelves0_holds v_shelves0_body v_shelves0_sort v_shelves0_size v_shelves0_items v_shelves1_holds v_shelves1_body v_shelves1_sort v_shelves1_size v_shelves1_items v_shelves2_holds v_shelves2_body v_shelves2_sort v_shelves2_size v_shelves2_items v_shelves3_holds v_shelves3_body v_shelves3_sort v_shelves3_size v_shelves3_items v_shelves4_holds v_shelves4_body v_shelves4_sort v_shelves4_size v_shelves4_items v_shelves5_holds v_shelves5_body v_shelves5_sort v_shelves5_size v_shelves5_items)) (rest := []) C0 lk_X8_315 (ctX1_isUnder (a := (fun k => a (k + 83))) (d := d - 1) (by omega) hc_31) (by omega) rfl hl.1 rfl (mm_cat rfl) dX8_taken_53 hP hD hA hS rfl rfl [false, false, false, false, false, false, false, false, false, false, false, false, false, false, false, false, false, false, false, false, false, false, false, false, false, false, false, false, false, false, false, false, false, false, false, false, false, false, false, false, false, false, false, false, false, false, false, false, false, false, false, false, false, false, false, false, false, false, false, false, false, false, false, false, false, false, false, false, false, false, false, false, false, false, false, false, false, false, false, false, false, false, false, true, true, true, false, false, false, false, false, false, false, false, false, false, false, false, false] rfl rfl rfl rfl (fun H locs hP hD hS => ?_)
                    refine W.eq (g2 := F0 m 56 ls [.int (mm_b r_30)]) rfl ?_
                    refine lv_if_ne (tgt := 62) hx hb dX8_taken_56 (by decide) (fun c_32 => ?_) (fun c_32 => ?_)
                    · have hf := mm_in hf (mm_b1 c_32)
                      refine lv_aload_n hx hb dX8_taken_62 rfl (lv_at hl 1 rfl) ?_
                      refine mm_get C0 hP iw_X8 0 rfl rfl 7 (by decide) fl_X8_57 rfl dX8_taken_63 ?_
                      refine mm_get C0 hP iw_X1 83 rfl rfl 2 (by decide) fl_X8_318 rfl dX8_taken_66 ?_
                      refine lv_aload_n hx hb dX8_taken_69 rfl (lv_at hl 0 rfl) ?_
                      refine mm_get C0 hP iw_X6 93 rfl rfl 1 (by decide) fl_X8_312 rfl dX8_taken_70 ?_
                      obtain ⟨h_33, hf⟩ := mm_cks hf
                      refine mm_iald C0 hP 84 rfl h_33 dX8_taken_73 ?_
                      obtain rfl := mm_inj1 hf
                      exact mm_iret C0 hP hD hS dX8_taken_74
                    · have hf := mm_ip hf (mm_b0 c_32)
                      refine lv_bipush (v := -12) hx hb dX8_taken_59 (by decide) ?_
                      obtain rfl := mm_inj1 hf
                      exact mm_iret C0 hP hD hS dX8_taken_61
                · have hf := mm_ip hf c_28
                  refine lv_bipush (v := -11) hx hb dX8_taken_33 (by decide) ?_
                  obtain rfl := mm_inj1 hf
                  exact mm_iret C0 hP hD hS dX8_taken_35
              · have hf := mm_in hf c_27
                by_cases c_34 : x1 = (4 : Int32)
                · have hf := mm_ip hf c_34
                  refine mm_aald 3 rfl C0 hP 86 rfl (b := a 95) (by rw [c_34]; rfl) (by rw [c_34]; rfl) dX8_taken_24 ?_
                  refine lv_astore_n (lv' := [(3, .ref (a 95)), (0, .ref (a 0)), (1, .int x1), (2, .int x2)]) hx hb dX8_taken_25 rfl hl (by decide) rfl (fun ls hl => ?_)
                  refine lv_aload_n hx hb dX8_taken_26 rfl (lv_at hl 0 rfl) ?_
                  refine mm_get C0 hP iw_X6 95 rfl rfl 0 (by decide) fl_X8_168 rfl dX8_taken_27 ?_
                  refine lv_if_ne (tgt := 36) hx hb dX8_taken_30 (by decide) (fun c_35 => ?_) (fun c_35 => ?_)
                  · have hf := mm_in hf c_35
                    refine lv_aload_n hx hb dX8_taken_36 rfl (lv_at hl 0 rfl) ?_
                    refine mm_get C0 hP iw_X6 95 rfl rfl 0 (by decide) fl_X8_168 rfl dX8_taken_37 ?_
                    refine lv_iconst (v := 1) hx hb dX8_taken_40 (by decide) ?_
                    refine lv_icmp_ne (tgt := 59) hx hb dX8_taken_41 (by decide) (fun c_36 => ?_) (fun c_36 => ?_)
                    · have hf := mm_in hf c_36
                      refine lv_bipush (v := -12) hx hb dX8_taken_59 (by decide) ?_
                      obtain rfl := mm_inj1 hf
                      exact mm_iret C0 hP hD hS dX8_taken_61
                    · have hf := mm_ip hf c_36
                      refine lv_aload_n hx hb dX8_taken_44 rfl (lv_at hl 1 rfl) ?_
                      refine mm_get C0 hP iw_X8 0 rfl rfl 7 (by decide) fl_X8_57 rfl dX8_taken_45 ?_
                      refine lv_aload_n hx hb dX8_taken_48 rfl (lv_at hl 0 rfl) ?_
                      refine mm_get C0 hP iw_X6 95 rfl rfl 1 (by decide) fl_X8_312 rfl dX8_taken_49 ?_
                      refine lv_iload_n hx hb dX8_taken_52 rfl (lv_at hl 3 rfl) ?_
                      obtain ⟨r_37, hc_38, hf⟩ := mm_bd1s hf
                      refine mm_callW (q0 := 83) (ci := 1) (w2 := (wd_X8 cI cL cS cH a v_hasImage v_now_rows v_now_cols v_now_high v_now_wide v_now_folds v_now_wrong v_now_more v_now_rowOf v_now_colOf v_now_below v_now_face v_now_worn v_now_last v_now_bend v_now_tall v_kept_rows v_kept_cols v_kept_high v_kept_wide v_kept_folds v_kept_wrong v_kept_more v_kept_rowOf v_kept_colOf v_kept_below v_kept_face v_kept_worn v_kept_last v_kept_bend v_kept_tall v_wearing_size v_wearing_stepCount v_wearing_draftCount v_wearing_place v_wearing_fault v_wearing_stacked v_wearing_tape v_wearing_steps v_wearing_draft v_wearing_stack v_planned_size v_planned_trial_rows v_planned_trial_cols v_planned_trial_high v_planned_trial_wide v_planned_trial_folds v_planned_trial_wrong v_planned_trial_more v_planned_trial_rowOf v_planned_trial_colOf v_planned_trial_below v_planned_trial_face v_planned_trial_worn v_planned_trial_last v_planned_trial_bend v_planned_trial_tall v_planned_lines v_planned_ways v_search_found v_search_wrong v_search_more v_search_folds v_search_wanted v_search_levels0_rows v_search_levels0_cols v_search_levels0_high v_search_levels0_wide v_search_levels0_folds v_search_levels0_wrong v_search_levels0_more v_search_levels0_rowOf v_search_levels0_colOf v_search_levels0_below v_search_levels0_face v_search_levels0_worn v_search_levels0_last v_search_levels0_bend v_search_levels0_tall v_search_levels1_rows v_search_levels1_cols v_search_levels1_high v_search_levels1_wide v_search_levels1_folds v_search_levels1_wrong v_search_levels1_more v_search_levels1_rowOf v_search_levels1_colOf v_search_levels1_below v_search_levels1_face v_search_levels1_worn v_search_levels1_last v_search_levels1_bend v_search_levels1_tall v_search_levels2_rows v_search_levels2_cols v_search_levels2_high v_search_levels2_wide v_search_levels2_folds v_search_levels2_wrong v_search_levels2_more v_search_levels2_rowOf v_search_levels2_colOf v_search_levels2_below v_search_levels2_face v_search_levels2_worn v_search_levels2_last v_search_levels2_bend v_search_levels2_tall v_search_levels3_rows v_search_levels3_cols v_search_levels3_high v_search_levels3_wide v_search_levels3_folds v_search_levels3_wrong v_search_levels3_more v_search_levels3_rowOf v_search_levels3_colOf v_search_levels3_below v_search_levels3_face v_search_levels3_worn v_search_levels3_last v_search_levels3_bend v_search_levels3_tall v_search_path v_search_best v_strip_list v_strip_found v_strip_at v_changes_value v_changes_done v_changes_size v_changes_before v_changes_after v_foldings_size v_foldings_ran v_foldings_number v_foldings_kinds v_foldings_trace v_shelves0_holds v_shelves0_body v_shelves0_sort v_shelves0_size v_shelves0_items v_shelves1_holds v_shelves1_body v_shelves1_sort v_shelves1_size v_shelves1_items v_shelves2_holds v_shelves2_body v_shelves2_sort v_shelves2_size v_shelves2_items v_shelves3_holds v_shelves3_body v_shelves3_sort v_shelves3_size v_shelves3_items v_shelves4_holds v_shelves4_body v_shelves4_sort v_shelves4_size v_shelves4_items v_shelves5_holds v_shelves5_body v_shelves5_sort v_shelves5_size v_shelves5_items)) (rest := []) C0 lk_X8_315 (ctX1_isUnder (a := (fun k => a (k + 83))) (d := d - 1) (by omega) hc_38) (by omega) rfl hl.1 rfl (mm_cat rfl) dX8_taken_53 hP hD hA hS rfl rfl [false, false, false, false, false, false, false, false, false, false, false, false, false, false, false, false, false, false, false, false, false, false, false, false, false, false, false, false, false, false, false, false, false, false, false, false, false, false, false, false, false, false, false, false, false, false, false, false, false, false, false, false, false, false, false, false, false, false, false, false, false, false, false, false, false, false, false, false, false, false, false, false, false, false, false, false, false, false, false, false, false, false, false, true, true, true, false, false, false, false, false, false, false, false, false, false, false, false, false] rfl rfl rfl rfl (fun H locs hP hD hS => ?_)
                      refine W.eq (g2 := F0 m 56 ls [.int (mm_b r_37)]) rfl ?_
                      refine lv_if_ne (tgt := 62) hx hb dX8_taken_56 (by decide) (fun c_39 => ?_) (fun c_39 => ?_)
                      · have hf := mm_in hf (mm_b1 c_39)
                        refine lv_aload_n hx hb dX8_taken_62 rfl (lv_at hl 1 rfl) ?_
                        refine mm_get C0 hP iw_X8 0 rfl rfl 7 (by decide) fl_X8_57 rfl dX8_taken_63 ?_
                        refine mm_get C0 hP iw_X1 83 rfl rfl 2 (by decide) fl_X8_318 rfl dX8_taken_66 ?_
                        refine lv_aload_n hx hb dX8_taken_69 rfl (lv_at hl 0 rfl) ?_
                        refine mm_get C0 hP iw_X6 95 rfl rfl 1 (by decide) fl_X8_312 rfl dX8_taken_70 ?_
                        obtain ⟨h_40, hf⟩ := mm_cks hf
                        refine mm_iald C0 hP 84 rfl h_40 dX8_taken_73 ?_
                        obtain rfl := mm_inj1 hf
                        exact mm_iret C0 hP hD hS dX8_taken_74
                      · have hf := mm_ip hf (mm_b0 c_39)
                        refine lv_bipush (v := -12) hx hb dX8_taken_59 (by decide) ?_
                        obtain rfl := mm_inj1 hf
                        exact mm_iret C0 hP hD hS dX8_taken_61
                  · have hf := mm_ip hf c_35
                    refine lv_bipush (v := -11) hx hb dX8_taken_33 (by decide) ?_
                    obtain rfl := mm_inj1 hf
                    exact mm_iret C0 hP hD hS dX8_taken_35
                · have hf := mm_in hf c_34
                  by_cases c_41 : x1 = (5 : Int32)
                  · have hf := mm_ip hf c_41
                    refine mm_aald 3 rfl C0 hP 86 rfl (b := a 97) (by rw [c_41]; rfl) (by rw [c_41]; rfl) dX8_taken_24 ?_
                    refine lv_astore_n (lv' := [(3, .ref (a 97)), (0, .ref (a 0)), (1, .int x1), (2, .int x2)]) hx hb dX8_taken_25 rfl hl (by decide) rfl (fun ls hl => ?_)
                    refine lv_aload_n hx hb dX8_taken_26 rfl (lv_at hl 0 rfl) ?_
                    refine mm_get C0 hP iw_X6 97 rfl rfl 0 (by decide) fl_X8_168 rfl dX8_taken_27 ?_
                    refine lv_if_ne (tgt := 36) hx hb dX8_taken_30 (by decide) (fun c_42 => ?_) (fun c_42 => ?_)
                    · have hf := mm_in hf c_42
                      refine lv_aload_n hx hb dX8_taken_36 rfl (lv_at hl 0 rfl) ?_
                      refine mm_get C0 hP iw_X6 97 rfl rfl 0 (by decide) fl_X8_168 rfl dX8_taken_37 ?_
                      refine lv_iconst (v := 1) hx hb dX8_taken_40 (by decide) ?_
                      refine lv_icmp_ne (tgt := 59) hx hb dX8_taken_41 (by decide) (fun c_43 => ?_) (fun c_43 => ?_)
                      · have hf := mm_in hf c_43
                        refine lv_bipush (v := -12) hx hb dX8_taken_59 (by decide) ?_
                        obtain rfl := mm_inj1 hf
                        exact mm_iret C0 hP hD hS dX8_taken_61
                      · have hf := mm_ip hf c_43
                        refine lv_aload_n hx hb dX8_taken_44 rfl (lv_at hl 1 rfl) ?_
                        refine mm_get C0 hP iw_X8 0 rfl rfl 7 (by decide) fl_X8_57 rfl dX8_taken_45 ?_
                        refine lv_aload_n hx hb dX8_taken_48 rfl (lv_at hl 0 rfl) ?_
                        refine mm_get C0 hP iw_X6 97 rfl rfl 1 (by decide) fl_X8_312 rfl dX8_taken_49 ?_
                        refine lv_iload_n hx hb dX8_taken_52 rfl (lv_at hl 3 rfl) ?_
                        obtain ⟨r_44, hc_45, hf⟩ := mm_bd1s hf
                        refine mm_callW (q0 := 83) (ci := 1) (w2 := (wd_X8 cI cL cS cH a v_hasImage v_now_rows v_now_cols v_now_high v_now_wide v_now_folds v_now_wrong v_now_more v_now_rowOf v_now_colOf v_now_below v_now_face v_now_worn v_now_last v_now_bend v_now_tall v_kept_rows v_kept_cols v_kept_high v_kept_wide v_kept_folds v_kept_wrong v_kept_more v_kept_rowOf v_kept_colOf v_kept_below v_kept_face v_kept_worn v_kept_last v_kept_bend v_kept_tall v_wearing_size v_wearing_stepCount v_wearing_draftCount v_wearing_place v_wearing_fault v_wearing_stacked v_wearing_tape v_wearing_steps v_wearing_draft v_wearing_stack v_planned_size v_planned_trial_rows v_planned_trial_cols v_planned_trial_high v_planned_trial_wide v_planned_trial_folds v_planned_trial_wrong v_planned_trial_more v_planned_trial_rowOf v_planned_trial_colOf v_planned_trial_below v_planned_trial_face v_planned_trial_worn v_planned_trial_last v_planned_trial_bend v_planned_trial_tall v_planned_lines v_planned_ways v_search_found v_search_wrong v_search_more v_search_folds v_search_wanted v_search_levels0_rows v_search_levels0_cols v_search_levels0_high v_search_levels0_wide v_search_levels0_folds v_search_levels0_wrong v_search_levels0_more v_search_levels0_rowOf v_search_levels0_colOf v_search_levels0_below v_search_levels0_face v_search_levels0_worn v_search_levels0_last v_search_levels0_bend v_search_levels0_tall v_search_levels1_rows v_search_levels1_cols v_search_levels1_high v_search_levels1_wide v_search_levels1_folds v_search_levels1_wrong v_search_levels1_more v_search_levels1_rowOf v_search_levels1_colOf v_search_levels1_below v_search_levels1_face v_search_levels1_worn v_search_levels1_last v_search_levels1_bend v_search_levels1_tall v_search_levels2_rows v_search_levels2_cols v_search_levels2_high v_search_levels2_wide v_search_levels2_folds v_search_levels2_wrong v_search_levels2_more v_search_levels2_rowOf v_search_levels2_colOf v_search_levels2_below v_search_levels2_face v_search_levels2_worn v_search_levels2_last v_search_levels2_bend v_search_levels2_tall v_search_levels3_rows v_search_levels3_cols v_search_levels3_high v_search_levels3_wide v_search_levels3_folds v_search_levels3_wrong v_search_levels3_more v_search_levels3_rowOf v_search_levels3_colOf v_search_levels3_below v_search_levels3_face v_search_levels3_worn v_search_levels3_last v_search_levels3_bend v_search_levels3_tall v_search_path v_search_best v_strip_list v_strip_found v_strip_at v_changes_value v_changes_done v_changes_size v_changes_before v_changes_after v_foldings_size v_foldings_ran v_foldings_number v_foldings_kinds v_foldings_trace v_shelves0_holds v_shelves0_body v_shelves0_sort v_shelves0_size v_shelves0_items v_shelves1_holds v_shelves1_body v_shelves1_sort v_shelves1_size v_shelves1_items v_shelves2_holds v_shelves2_body v_shelves2_sort v_shelves2_size v_shelves2_items v_shelves3_holds v_shelves3_body v_shelves3_sort v_shelves3_size v_shelves3_items v_shelves4_holds v_shelves4_body v_shelves4_sort v_shelves4_size v_shelves4_items v_shelves5_holds v_shelves5_body v_shelves5_sort v_shelves5_size v_shelves5_items)) (rest := []) C0 lk_X8_315 (ctX1_isUnder (a := (fun k => a (k + 83))) (d := d - 1) (by omega) hc_45) (by omega) rfl hl.1 rfl (mm_cat rfl) dX8_taken_53 hP hD hA hS rfl rfl [false, false, false, false, false, false, false, false, false, false, false, false, false, false, false, false, false, false, false, false, false, false, false, false, false, false, false, false, false, false, false, false, false, false, false, false, false, false, false, false, false, false, false, false, false, false, false, false, false, false, false, false, false, false, false, false, false, false, false, false, false, false, false, false, false, false, false, false, false, false, false, false, false, false, false, false, false, false, false, false, false, false, false, true, true, true, false, false, false, false, false, false, false, false, false, false, false, false, false] rfl rfl rfl rfl (fun H locs hP hD hS => ?_)
                        refine W.eq (g2 := F0 m 56 ls [.int (mm_b r_44)]) rfl ?_
                        refine lv_if_ne (tgt := 62) hx hb dX8_taken_56 (by decide) (fun c_46 => ?_) (fun c_46 => ?_)
                        · have hf := mm_in hf (mm_b1 c_46)
                          refine lv_aload_n hx hb dX8_taken_62 rfl (lv_at hl 1 rfl) ?_
                          refine mm_get C0 hP iw_X8 0 rfl rfl 7 (by decide) fl_X8_57 rfl dX8_taken_63 ?_
                          refine mm_get C0 hP iw_X1 83 rfl rfl 2 (by decide) fl_X8_318 rfl dX8_taken_66 ?_
                          refine lv_aload_n hx hb dX8_taken_69 rfl (lv_at hl 0 rfl) ?_
                          refine mm_get C0 hP iw_X6 97 rfl rfl 1 (by decide) fl_X8_312 rfl dX8_taken_70 ?_
                          obtain ⟨h_47, hf⟩ := mm_cks hf
                          refine mm_iald C0 hP 84 rfl h_47 dX8_taken_73 ?_
                          obtain rfl := mm_inj1 hf
                          exact mm_iret C0 hP hD hS dX8_taken_74
                        · have hf := mm_ip hf (mm_b0 c_46)
                          refine lv_bipush (v := -12) hx hb dX8_taken_59 (by decide) ?_
                          obtain rfl := mm_inj1 hf
                          exact mm_iret C0 hP hD hS dX8_taken_61
                    · have hf := mm_ip hf c_42
                      refine lv_bipush (v := -11) hx hb dX8_taken_33 (by decide) ?_
                      obtain rfl := mm_inj1 hf
                      exact mm_iret C0 hP hD hS dX8_taken_35
                  · have hf := mm_in hf c_41
                    cases hf
      · have hf := mm_in hf c_5
        refine lv_iconst (v := -1) hx hb dX8_taken_17 (by decide) ?_
        obtain rfl := mm_inj1 hf
        exact mm_iret C0 hP hD hS dX8_taken_18

theorem dX8_count_0 : decode cX8_count 0 = .ok (.iload_n 1, 1) := by decide +kernel
theorem dX8_count_1 : decode cX8_count 1 = .ok (.tableswitch 87 0 5 #[39, 47, 55, 63, 71, 79], 39) := by decide +kernel
theorem dX8_count_40 : decode cX8_count 40 = .ok (.aload_n 0, 1) := by decide +kernel
theorem dX8_count_41 : decode cX8_count 41 = .ok (.getfield 10, 3) := by decide +kernel
theorem dX8_count_44 : decode cX8_count 44 = .ok (.invokevirtual 200, 3) := by decide +kernel
theorem dX8_count_47 : decode cX8_count 47 = .ok (.ireturn, 1) := by decide +kernel
theorem dX8_count_48 : decode cX8_count 48 = .ok (.aload_n 0, 1) := by decide +kernel
theorem dX8_count_49 : decode cX8_count 49 = .ok (.getfield 29, 3) := by decide +kernel
theorem dX8_count_52 : decode cX8_count 52 = .ok (.getfield 157, 3) := by decide +kernel
theorem dX8_count_55 : decode cX8_count 55 = .ok (.ireturn, 1) := by decide +kernel
theorem dX8_count_56 : decode cX8_count 56 = .ok (.aload_n 0, 1) := by decide +kernel
theorem dX8_count_57 : decode cX8_count 57 = .ok (.getfield 22, 3) := by decide +kernel
theorem dX8_count_60 : decode cX8_count 60 = .ok (.getfield 90, 3) := by decide +kernel
theorem dX8_count_63 : decode cX8_count 63 = .ok (.ireturn, 1) := by decide +kernel
theorem dX8_count_64 : decode cX8_count 64 = .ok (.aload_n 0, 1) := by decide +kernel
theorem dX8_count_65 : decode cX8_count 65 = .ok (.getfield 50, 3) := by decide +kernel
theorem dX8_count_68 : decode cX8_count 68 = .ok (.getfield 259, 3) := by decide +kernel
theorem dX8_count_71 : decode cX8_count 71 = .ok (.ireturn, 1) := by decide +kernel
theorem dX8_count_72 : decode cX8_count 72 = .ok (.aload_n 0, 1) := by decide +kernel
theorem dX8_count_73 : decode cX8_count 73 = .ok (.getfield 57, 3) := by decide +kernel
theorem dX8_count_76 : decode cX8_count 76 = .ok (.getfield 272, 3) := by decide +kernel
theorem dX8_count_79 : decode cX8_count 79 = .ok (.ireturn, 1) := by decide +kernel
theorem dX8_count_80 : decode cX8_count 80 = .ok (.aload_n 0, 1) := by decide +kernel
theorem dX8_count_81 : decode cX8_count 81 = .ok (.getfield 57, 3) := by decide +kernel
theorem dX8_count_84 : decode cX8_count 84 = .ok (.getfield 321, 3) := by decide +kernel
theorem dX8_count_87 : decode cX8_count 87 = .ok (.ireturn, 1) := by decide +kernel
theorem dX8_count_88 : decode cX8_count 88 = .ok (.iconst (-1), 1) := by decide +kernel
theorem dX8_count_89 : decode cX8_count 89 = .ok (.ireturn, 1) := by decide +kernel
def fX8_count (N : Nat) (x1 : Int32) (v_now_rows : Int32) (v_now_cols : Int32) (v_wearing_size : Int32) (v_planned_size : Int32) (v_changes_done : Int32) (v_foldings_size : Int32) (v_foldings_ran : Int32) : Option (Int32) :=
    if x1 = (0 : Int32) then
    (mm_bd1 (fX5_fields N v_now_rows v_now_cols) (fun (r_2 : Int32) =>
    some (r_2)))
    else (if x1 = (1 : Int32) then
    (some (v_planned_size))
    else (if x1 = (2 : Int32) then
    (some (v_wearing_size))
    else (if x1 = (3 : Int32) then
    (some (v_changes_done))
    else (if x1 = (4 : Int32) then
    (some (v_foldings_size))
    else (if x1 = (5 : Int32) then
    (some (v_foldings_ran))
    else (some ((-1 : Int32))))))))

set_option maxHeartbeats 4000000 in
set_option maxRecDepth 100000 in
theorem ctX8_count {l : Launch} {D : va_G} {cI cL cS cH : ClassId} {a : Nat → Nat} {x1 : Int32} {v_hasImage : Bool} {v_now_rows : Int32} {v_now_cols : Int32} {v_now_high : Int32} {v_now_wide : Int32} {v_now_folds : Int32} {v_now_wrong : Int32} {v_now_more : Int32} {v_now_rowOf : List Int32} {v_now_colOf : List Int32} {v_now_below : List Int32} {v_now_face : List Int32} {v_now_worn : List Int32} {v_now_last : List Int32} {v_now_bend : List Int32} {v_now_tall : List Int32} {v_kept_rows : Int32} {v_kept_cols : Int32} {v_kept_high : Int32} {v_kept_wide : Int32} {v_kept_folds : Int32} {v_kept_wrong : Int32} {v_kept_more : Int32} {v_kept_rowOf : List Int32} {v_kept_colOf : List Int32} {v_kept_below : List Int32} {v_kept_face : List Int32} {v_kept_worn : List Int32} {v_kept_last : List Int32} {v_kept_bend : List Int32} {v_kept_tall : List Int32} {v_wearing_size : Int32} {v_wearing_stepCount : Int32} {v_wearing_draftCount : Int32} {v_wearing_place : Int32} {v_wearing_fault : Int32} {v_wearing_stacked : Int32} {v_wearing_tape : List Int32} {v_wearing_steps : List Int32} {v_wearing_draft : List Int32} {v_wearing_stack : List Int32} {v_planned_size : Int32} {v_planned_trial_rows : Int32} {v_planned_trial_cols : Int32} {v_planned_trial_high : Int32} {v_planned_trial_wide : Int32} {v_planned_trial_folds : Int32} {v_planned_trial_wrong : Int32} {v_planned_trial_more : Int32} {v_planned_trial_rowOf : List Int32} {v_planned_trial_colOf : List Int32} {v_planned_trial_below : List Int32} {v_planned_trial_face : List Int32} {v_planned_trial_worn : List Int32} {v_planned_trial_last : List Int32} {v_planned_trial_bend : List Int32} {v_planned_trial_tall : List Int32} {v_planned_lines : List Int32} {v_planned_ways : List Int32} {v_search_found : Bool} {v_search_wrong : Int32} {v_search_more : Int32} {v_search_folds : Int32} {v_search_wanted : Int32} {v_search_levels0_rows : Int32} {v_search_levels0_cols : Int32} {v_search_levels0_high : Int32} {v_search_levels0_wide : Int32} {v_search_levels0_folds : Int32} {v_search_levels0_wrong : Int32} {v_search_levels0_more : Int32} {v_search_levels0_rowOf : List Int32} {v_search_levels0_colOf : List Int32} {v_search_levels0_below : List Int32} {v_search_levels0_face : List Int32} {v_search_levels0_worn : List Int32} {v_search_levels0_last : List Int32} {v_search_levels0_bend : List Int32} {v_search_levels0_tall : List Int32} {v_search_levels1_rows : Int32} {v_search_levels1_cols : Int32} {v_search_levels1_high : Int32} {v_search_levels1_wide : Int32} {v_search_levels1_folds : Int32} {v_search_levels1_wrong : Int32} {v_search_levels1_more : Int32} {v_search_levels1_rowOf : List Int32} {v_search_levels1_colOf : List Int32} {v_search_levels1_below : List Int32} {v_search_levels1_face : List Int32} {v_search_levels1_worn : List Int32} {v_search_levels1_last : List Int32} {v_search_levels1_bend : List Int32} {v_search_levels1_tall : List Int32} {v_search_levels2_rows : Int32} {v_search_levels2_cols : Int32} {v_search_levels2_high : Int32} {v_search_levels2_wide : Int32} {v_search_levels2_folds : Int32} {v_search_levels2_wrong : Int32} {v_search_levels2_more : Int32} {v_search_levels2_rowOf : List Int32} {v_search_levels2_colOf : List Int32} {v_search_levels2_below : List Int32} {v_search_levels2_face : List Int32} {v_search_levels2_worn : List Int32} {v_search_levels2_last : List Int32} {v_search_levels2_bend : List Int32} {v_search_levels2_tall : List Int32} {v_search_levels3_rows : Int32} {v_search_levels3_cols : Int32} {v_search_levels3_high : Int32} {v_search_levels3_wide : Int32} {v_search_levels3_folds : Int32} {v_search_levels3_wrong : Int32} {v_search_levels3_more : Int32} {v_search_levels3_rowOf : List Int32} {v_search_levels3_colOf : List Int32} {v_search_levels3_below : List Int32} {v_search_levels3_face : List Int32} {v_search_levels3_worn : List Int32} {v_search_levels3_last : List Int32} {v_search_levels3_bend : List Int32} {v_search_levels3_tall : List Int32} {v_search_path : List Int32} {v_search_best : List Int32} {v_strip_list : List Int32} {v_strip_found : List Int32} {v_strip_at : List Int32} {v_changes_value : Int32} {v_changes_done : Int32} {v_changes_size : Int32} {v_changes_before : List Int32} {v_changes_after : List Int32} {v_foldings_size : Int32} {v_foldings_ran : Int32} {v_foldings_number : Int32} {v_foldings_kinds : List Int32} {v_foldings_trace : List Int32} {v_shelves0_holds : Int32} {v_shelves0_body : Int32} {v_shelves0_sort : Int32} {v_shelves0_size : Int32} {v_shelves0_items : List Int64} {v_shelves1_holds : Int32} {v_shelves1_body : Int32} {v_shelves1_sort : Int32} {v_shelves1_size : Int32} {v_shelves1_items : List Int64} {v_shelves2_holds : Int32} {v_shelves2_body : Int32} {v_shelves2_sort : Int32} {v_shelves2_size : Int32} {v_shelves2_items : List Int64} {v_shelves3_holds : Int32} {v_shelves3_body : Int32} {v_shelves3_sort : Int32} {v_shelves3_size : Int32} {v_shelves3_items : List Int64} {v_shelves4_holds : Int32} {v_shelves4_body : Int32} {v_shelves4_sort : Int32} {v_shelves4_size : Int32} {v_shelves4_items : List Int64} {v_shelves5_holds : Int32} {v_shelves5_body : Int32} {v_shelves5_sort : Int32} {v_shelves5_size : Int32} {v_shelves5_items : List Int64} {r : Int32} {N d : Nat} (hd : 2 ≤ d) (hf : fX8_count N x1 v_now_rows v_now_cols v_wearing_size v_planned_size v_changes_done v_foldings_size v_foldings_ran = some r) : mm_Ct l yX8_count cX8_count 2 (some .int) d D (mm_T cI cL cS cH) [.ref (a 0), .int x1] (wd_X8 cI cL cS cH a v_hasImage v_now_rows v_now_cols v_now_high v_now_wide v_now_folds v_now_wrong v_now_more v_now_rowOf v_now_colOf v_now_below v_now_face v_now_worn v_now_last v_now_bend v_now_tall v_kept_rows v_kept_cols v_kept_high v_kept_wide v_kept_folds v_kept_wrong v_kept_more v_kept_rowOf v_kept_colOf v_kept_below v_kept_face v_kept_worn v_kept_last v_kept_bend v_kept_tall v_wearing_size v_wearing_stepCount v_wearing_draftCount v_wearing_place v_wearing_fault v_wearing_stacked v_wearing_tape v_wearing_steps v_wearing_draft v_wearing_stack v_planned_size v_planned_trial_rows v_planned_trial_cols v_planned_trial_high v_planned_trial_wide v_planned_trial_folds v_planned_trial_wrong v_planned_trial_more v_planned_trial_rowOf v_planned_trial_colOf v_planned_trial_below v_planned_trial_face v_planned_trial_worn v_planned_trial_last v_planned_trial_bend v_planned_trial_tall v_planned_lines v_planned_ways v_search_found v_search_wrong v_search_more v_search_folds v_search_wanted v_search_levels0_rows v_search_levels0_cols v_search_levels0_high v_search_levels0_wide v_search_levels0_folds v_search_levels0_wrong v_search_levels0_more v_search_levels0_rowOf v_search_levels0_colOf v_search_levels0_below v_search_levels0_face v_search_levels0_worn v_search_levels0_last v_search_levels0_bend v_search_levels0_tall v_search_levels1_rows v_search_levels1_cols v_search_levels1_high v_search_levels1_wide v_search_levels1_folds v_search_levels1_wrong v_search_levels1_more v_search_levels1_rowOf v_search_levels1_colOf v_search_levels1_below v_search_levels1_face v_search_levels1_worn v_search_levels1_last v_search_levels1_bend v_search_levels1_tall v_search_levels2_rows v_search_levels2_cols v_search_levels2_high v_search_levels2_wide v_search_levels2_folds v_search_levels2_wrong v_search_levels2_more v_search_levels2_rowOf v_search_levels2_colOf v_search_levels2_below v_search_levels2_face v_search_levels2_worn v_search_levels2_last v_search_levels2_bend v_search_levels2_tall v_search_levels3_rows v_search_levels3_cols v_search_levels3_high v_search_levels3_wide v_search_levels3_folds v_search_levels3_wrong v_search_levels3_more v_search_levels3_rowOf v_search_levels3_colOf v_search_levels3_below v_search_levels3_face v_search_levels3_worn v_search_levels3_last v_search_levels3_bend v_search_levels3_tall v_search_path v_search_best v_strip_list v_strip_found v_strip_at v_changes_value v_changes_done v_changes_size v_changes_before v_changes_after v_foldings_size v_foldings_ran v_foldings_number v_foldings_kinds v_foldings_trace v_shelves0_holds v_shelves0_body v_shelves0_sort v_shelves0_size v_shelves0_items v_shelves1_holds v_shelves1_body v_shelves1_sort v_shelves1_size v_shelves1_items v_shelves2_holds v_shelves2_body v_shelves2_sort v_shelves2_size v_shelves2_items v_shelves3_holds v_shelves3_body v_shelves3_sort v_shelves3_size v_shelves3_items v_shelves4_holds v_shelves4_body v_shelves4_sort v_shelves4_size v_shelves4_items v_shelves5_holds v_shelves5_body v_shelves5_sort v_shelves5_size v_shelves5_items) (wd_X8 cI cL cS cH a v_hasImage v_now_rows v_now_cols v_now_high v_now_wide v_now_folds v_now_wrong v_now_more v_now_rowOf v_now_colOf v_now_below v_now_face v_now_worn v_now_last v_now_bend v_now_tall v_kept_rows v_kept_cols v_kept_high v_kept_wide v_kept_folds v_kept_wrong v_kept_more v_kept_rowOf v_kept_colOf v_kept_below v_kept_face v_kept_worn v_kept_last v_kept_bend v_kept_tall v_wearing_size v_wearing_stepCount v_wearing_draftCount v_wearing_place v_wearing_fault v_wearing_stacked v_wearing_tape v_wearing_steps v_wearing_draft v_wearing_stack v_planned_size v_planned_trial_rows v_planned_trial_cols v_planned_trial_high v_planned_trial_wide v_planned_trial_folds v_planned_trial_wrong v_planned_trial_more v_planned_trial_rowOf v_planned_trial_colOf v_planned_trial_below v_planned_trial_face v_planned_trial_worn v_planned_trial_last v_planned_trial_bend v_planned_trial_tall v_planned_lines v_planned_ways v_search_found v_search_wrong v_search_more v_search_folds v_search_wanted v_search_levels0_rows v_search_levels0_cols v_search_levels0_high v_search_levels0_wide v_search_levels0_folds v_search_levels0_wrong v_search_levels0_more v_search_levels0_rowOf v_search_levels0_colOf v_search_levels0_below v_search_levels0_face v_search_levels0_worn v_search_levels0_last v_search_levels0_bend v_search_levels0_tall v_search_levels1_rows v_search_levels1_cols v_search_levels1_high v_search_levels1_wide v_search_levels1_folds v_search_levels1_wrong v_search_levels1_more v_search_levels1_rowOf v_search_levels1_colOf v_search_levels1_below v_search_levels1_face v_search_levels1_worn v_search_levels1_last v_search_levels1_bend v_search_levels1_tall v_search_levels2_rows v_search_levels2_cols v_search_levels2_high v_search_levels2_wide v_search_levels2_folds v_search_levels2_wrong v_search_levels2_more v_search_levels2_rowOf v_search_levels2_colOf v_search_levels2_below v_search_levels2_face v_search_levels2_worn v_search_levels2_last v_search_levels2_bend v_search_levels2_tall v_search_levels3_rows v_search_levels3_cols v_search_levels3_high v_search_levels3_wide v_search_levels3_folds v_search_levels3_wrong v_search_levels3_more v_search_levels3_rowOf v_search_levels3_colOf v_search_levels3_below v_search_levels3_face v_search_levels3_worn v_search_levels3_last v_search_levels3_bend v_search_levels3_tall v_search_path v_search_best v_strip_list v_strip_found v_strip_at v_changes_value v_changes_done v_changes_size v_changes_before v_changes_after v_foldings_size v_foldings_ran v_foldings_number v_foldings_kinds v_foldings_trace v_shelves0_holds v_shelves0_body v_shelves0_sort v_shelves0_size v_shelves0_items v_shelves1_holds v_shelves1_body v_shelves1_sort v_shelves1_size v_shelves1_items v_shelves2_holds v_shelves2_body v_shelves2_sort v_shelves2_size v_shelves2_items v_shelves3_holds v_shelves3_body v_shelves3_sort v_shelves3_size v_shelves3_items v_shelves4_holds v_shelves4_body v_shelves4_sort v_shelves4_size v_shelves4_items v_shelves5_holds v_shelves5_body v_shelves5_sort v_shelves5_size v_shelves5_items) (some (.int r)) := by
  refine mm_of (by decide) (Nat.le_of_ble_eq_true rfl) ?_
  intro p e s m args below meth c A H locs ls C0 hP hD hA hS hl
  have C0 : mm_Cx p s m args meth c RX8 cX8_count 2 (some .int) D (mm_T cI cL cS cH) A := C0
  obtain ⟨hx, hb, hml, hown, hts, hr, hlocks, hK, hSt⟩ := id C0
  have hl : lv_has ls 2 [(0, .ref (a 0)), (1, .int x1)] := hl
  unfold fX8_count at hf
  refine lv_iload_n hx hb dX8_count_0 rfl (lv_at hl 1 rfl) ?_
  by_cases c_1 : x1 = (0 : Int32)
  · have hf := mm_ip hf c_1
    refine lv_tableIn (off := 39) (tgt := 40) hx hb dX8_count_1 (by rw [c_1]; decide) (by rw [c_1]; decide) (by rw [c_1]; first | done | rfl) (by decide) ?_
    refine lv_aload_n hx hb dX8_count_40 rfl (lv_at hl 0 rfl) ?_
    refine mm_get C0 hP iw_X8 0 rfl rfl 0 (by decide) fl_X8_10 rfl dX8_count_41 ?_
    obtain ⟨r_2, hc_3, hf⟩ := mm_bd1s hf
    refine mm_callW (q0 := 1) (ci := 5) (w2 := (wd_X8 cI cL cS cH a v_hasImage v_now_rows v_now_cols v_now_high v_now_wide v_now_folds v_now_wrong v_now_more v_now_rowOf v_now_colOf v_now_below v_now_face v_now_worn v_now_last v_now_bend v_now_tall v_kept_rows v_kept_cols v_kept_high v_kept_wide v_kept_folds v_kept_wrong v_kept_more v_kept_rowOf v_kept_colOf v_kept_below v_kept_face v_kept_worn v_kept_last v_kept_bend v_kept_tall v_wearing_size v_wearing_stepCount v_wearing_draftCount v_wearing_place v_wearing_fault v_wearing_stacked v_wearing_tape v_wearing_steps v_wearing_draft v_wearing_stack v_planned_size v_planned_trial_rows v_planned_trial_cols v_planned_trial_high v_planned_trial_wide v_planned_trial_folds v_planned_trial_wrong v_planned_trial_more v_planned_trial_rowOf v_planned_trial_colOf v_planned_trial_below v_planned_trial_face v_planned_trial_worn v_planned_trial_last v_planned_trial_bend v_planned_trial_tall v_planned_lines v_planned_ways v_search_found v_search_wrong v_search_more v_search_folds v_search_wanted v_search_levels0_rows v_search_levels0_cols v_search_levels0_high v_search_levels0_wide v_search_levels0_folds v_search_levels0_wrong v_search_levels0_more v_search_levels0_rowOf v_search_levels0_colOf v_search_levels0_below v_search_levels0_face v_search_levels0_worn v_search_levels0_last v_search_levels0_bend v_search_levels0_tall v_search_levels1_rows v_search_levels1_cols v_search_levels1_high v_search_levels1_wide v_search_levels1_folds v_search_levels1_wrong v_search_levels1_more v_search_levels1_rowOf v_search_levels1_colOf v_search_levels1_below v_search_levels1_face v_search_levels1_worn v_search_levels1_last v_search_levels1_bend v_search_levels1_tall v_search_levels2_rows v_search_levels2_cols v_search_levels2_high v_search_levels2_wide v_search_levels2_folds v_search_levels2_wrong v_search_levels2_more v_search_levels2_rowOf v_search_levels2_colOf v_search_levels2_below v_search_levels2_face v_search_levels2_worn v_search_levels2_last v_search_levels2_bend v_search_levels2_tall v_search_levels3_rows v_search_levels3_cols v_search_levels3_high v_search_levels3_wide v_search_levels3_folds v_search_levels3_wrong v_search_levels3_more v_search_levels3_rowOf v_search_levels3_colOf v_search_levels3_below v_search_levels3_face v_search_levels3_worn v_search_levels3_last v_search_levels3_bend v_search_levels3_tall v_search_path v_search_best v_strip_list v_strip_found v_strip_at v_changes_value v_changes_done v_changes_size v_changes_before v_changes_after v_foldings_size v_foldings_ran v_foldings_number v_foldings_kinds v_foldings_trace v_shelves0_holds v_shelves0_body v_shelves0_sort v_shelves0_size v_shelves0_items v_shelves1_holds v_shelves1_body v_shelves1_sort v_shelves1_size v_shelves1_items v_shelves2_holds v_shelves2_body v_shelves2_sort v_shelves2_size v_shelves2_items v_shelves3_holds v_shelves3_body v_shelves3_sort v_shelves3_size v_shelves3_items v_shelves4_holds v_shelves4_body v_shelves4_sort v_shelves4_size v_shelves4_items v_shelves5_holds v_shelves5_body v_shelves5_sort v_shelves5_size v_shelves5_items)) (rest := []) C0 lk_X8_200 (ctX5_fields (a := (fun k => a (k + 1))) (d := d - 1) (by omega) hc_3) (by omega) rfl hl.1 rfl (mm_cat rfl) dX8_count_44 hP hD hA hS rfl rfl [false, true, true, true, true, true, true, true, true, true, false, false, false, false, false, false, false, false, false, false, false, false, false, false, false, false, false, false, false, false, false, false, false, false, false, false, false, false, false, false, false, false, false, false, false, false, false, false, false, false, false, false, false, false, false, false, false, false, false, false, false, false, false, false, false, false, false, false, false, false, false, false, false, false, false, false, false, false, false, false, false, false, false, false, false, false, false, false, false, false, false, false, false, false, false, false, false, false, false] rfl rfl rfl rfl (fun H locs hP hD hS => ?_)
    refine W.eq (g2 := F0 m 47 ls [.int r_2]) rfl ?_
    obtain rfl := mm_inj1 hf
    exact mm_iret C0 hP hD hS dX8_count_47
  · have hf := mm_in hf c_1
    by_cases c_4 : x1 = (1 : Int32)
    · have hf := mm_ip hf c_4
      refine lv_tableIn (off := 47) (tgt := 48) hx hb dX8_count_1 (by rw [c_4]; decide) (by rw [c_4]; decide) (by rw [c_4]; first | done | rfl) (by decide) ?_
      refine lv_aload_n hx hb dX8_count_48 rfl (lv_at hl 0 rfl) ?_
      refine mm_get C0 hP iw_X8 0 rfl rfl 3 (by decide) fl_X8_29 rfl dX8_count_49 ?_
      refine mm_get C0 hP iw_X3 24 rfl rfl 0 (by decide) fl_X8_157 rfl dX8_count_52 ?_
      obtain rfl := mm_inj1 hf
      exact mm_iret C0 hP hD hS dX8_count_55
    · have hf := mm_in hf c_4
      by_cases c_5 : x1 = (2 : Int32)
      · have hf := mm_ip hf c_5
        refine lv_tableIn (off := 55) (tgt := 56) hx hb dX8_count_1 (by rw [c_5]; decide) (by rw [c_5]; decide) (by rw [c_5]; first | done | rfl) (by decide) ?_
        refine lv_aload_n hx hb dX8_count_56 rfl (lv_at hl 0 rfl) ?_
        refine mm_get C0 hP iw_X8 0 rfl rfl 2 (by decide) fl_X8_22 rfl dX8_count_57 ?_
        refine mm_get C0 hP iw_X2 19 rfl rfl 0 (by decide) fl_X8_90 rfl dX8_count_60 ?_
        obtain rfl := mm_inj1 hf
        exact mm_iret C0 hP hD hS dX8_count_63
      · have hf := mm_in hf c_5
        by_cases c_6 : x1 = (3 : Int32)
        · have hf := mm_ip hf c_6
          refine lv_tableIn (off := 63) (tgt := 64) hx hb dX8_count_1 (by rw [c_6]; decide) (by rw [c_6]; decide) (by rw [c_6]; first | done | rfl) (by decide) ?_
          refine lv_aload_n hx hb dX8_count_64 rfl (lv_at hl 0 rfl) ?_
          refine mm_get C0 hP iw_X8 0 rfl rfl 6 (by decide) fl_X8_50 rfl dX8_count_65 ?_
          refine mm_get C0 hP iw_X0 80 rfl rfl 1 (by decide) fl_X8_259 rfl dX8_count_68 ?_
          obtain rfl := mm_inj1 hf
          exact mm_iret C0 hP hD hS dX8_count_71
        · have hf := mm_in hf c_6
          by_cases c_7 : x1 = (4 : Int32)
          · have hf := mm_ip hf c_7
            refine lv_tableIn (off := 71) (tgt := 72) hx hb dX8_count_1 (by rw [c_7]; decide) (by rw [c_7]; decide) (by rw [c_7]; first | done | rfl) (by decide) ?_
            refine lv_aload_n hx hb dX8_count_72 rfl (lv_at hl 0 rfl) ?_
            refine mm_get C0 hP iw_X8 0 rfl rfl 7 (by decide) fl_X8_57 rfl dX8_count_73 ?_
            refine mm_get C0 hP iw_X1 83 rfl rfl 0 (by decide) fl_X8_272 rfl dX8_count_76 ?_
            obtain rfl := mm_inj1 hf
            exact mm_iret C0 hP hD hS dX8_count_79
          · have hf := mm_in hf c_7
            by_cases c_8 : x1 = (5 : Int32)
            · have hf := mm_ip hf c_8
              refine lv_tableIn (off := 79) (tgt := 80) hx hb dX8_count_1 (by rw [c_8]; decide) (by rw [c_8]; decide) (by rw [c_8]; first | done | rfl) (by decide) ?_
              refine lv_aload_n hx hb dX8_count_80 rfl (lv_at hl 0 rfl) ?_
              refine mm_get C0 hP iw_X8 0 rfl rfl 7 (by decide) fl_X8_57 rfl dX8_count_81 ?_
              refine mm_get C0 hP iw_X1 83 rfl rfl 1 (by decide) fl_X8_321 rfl dX8_count_84 ?_
              obtain rfl := mm_inj1 hf
              exact mm_iret C0 hP hD hS dX8_count_87
            · have hf := mm_in hf c_8
              refine lv_tableOut (tgt := 88) hx hb dX8_count_1 (by have nc_1 := lv_neT c_1 (a := 0) (by decide); have nc_4 := lv_neT c_4 (a := 1) (by decide); have nc_5 := lv_neT c_5 (a := 2) (by decide); have nc_6 := lv_neT c_6 (a := 3) (by decide); have nc_7 := lv_neT c_7 (a := 4) (by decide); have nc_8 := lv_neT c_8 (a := 5) (by decide); omega) (by decide) ?_
              refine lv_iconst (v := -1) hx hb dX8_count_88 (by decide) ?_
              obtain rfl := mm_inj1 hf
              exact mm_iret C0 hP hD hS dX8_count_89

