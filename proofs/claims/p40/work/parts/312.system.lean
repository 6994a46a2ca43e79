/-! system: X8_led, X8_plan, X8_isShelf, X8_plans -/
theorem dX8_led_0 : decode cX8_led 0 = .ok (.iload_n 1, 1) := by decide +kernel
theorem dX8_led_1 : decode cX8_led 1 = .ok (.tableswitch 58 0 2 #[27, 35, 43], 27) := by decide +kernel
theorem dX8_led_28 : decode cX8_led 28 = .ok (.aload_n 0, 1) := by decide +kernel
theorem dX8_led_29 : decode cX8_led 29 = .ok (.getfield 10, 3) := by decide +kernel
theorem dX8_led_32 : decode cX8_led 32 = .ok (.getfield 147, 3) := by decide +kernel
theorem dX8_led_35 : decode cX8_led 35 = .ok (.ireturn, 1) := by decide +kernel
theorem dX8_led_36 : decode cX8_led 36 = .ok (.aload_n 0, 1) := by decide +kernel
theorem dX8_led_37 : decode cX8_led 37 = .ok (.getfield 10, 3) := by decide +kernel
theorem dX8_led_40 : decode cX8_led 40 = .ok (.getfield 150, 3) := by decide +kernel
theorem dX8_led_43 : decode cX8_led 43 = .ok (.ireturn, 1) := by decide +kernel
theorem dX8_led_44 : decode cX8_led 44 = .ok (.aload_n 0, 1) := by decide +kernel
theorem dX8_led_45 : decode cX8_led 45 = .ok (.getfield 10, 3) := by decide +kernel
theorem dX8_led_48 : decode cX8_led 48 = .ok (.aload_n 0, 1) := by decide +kernel
theorem dX8_led_49 : decode cX8_led 49 = .ok (.getfield 50, 3) := by decide +kernel
theorem dX8_led_52 : decode cX8_led 52 = .ok (.getfield 79, 3) := by decide +kernel
theorem dX8_led_55 : decode cX8_led 55 = .ok (.invokevirtual 153, 3) := by decide +kernel
theorem dX8_led_58 : decode cX8_led 58 = .ok (.ireturn, 1) := by decide +kernel
theorem dX8_led_59 : decode cX8_led 59 = .ok (.iconst (-1), 1) := by decide +kernel
theorem dX8_led_60 : decode cX8_led 60 = .ok (.ireturn, 1) := by decide +kernel
def fX8_led (N : Nat) (x1 : Int32) (v_now_rows : Int32) (v_now_cols : Int32) (v_now_folds : Int32) (v_now_wrong : Int32) (v_now_worn : List Int32) (v_changes_value : Int32) : Option (Int32) :=
    if x1 = (0 : Int32) then
    (some (v_now_folds))
    else (if x1 = (1 : Int32) then
    (some (v_now_wrong))
    else (if x1 = (2 : Int32) then
    (mm_bd1 (fX5_torn N v_changes_value v_now_rows v_now_cols v_now_worn) (fun (r_4 : Int32) =>
    some (r_4)))
    else (some ((-1 : Int32)))))

set_option maxHeartbeats 4000000 in
set_option maxRecDepth 100000 in
theorem ctX8_led {l : Launch} {D : va_G} {cI cL cS cH : ClassId} {a : Nat → Nat} {x1 : Int32} {v_hasImage : Bool} {v_now_rows : Int32} {v_now_cols : Int32} {v_now_high : Int32} {v_now_wide : Int32} {v_now_folds : Int32} {v_now_wrong : Int32} {v_now_more : Int32} {v_now_rowOf : List Int32} {v_now_colOf : List Int32} {v_now_below : List Int32} {v_now_face : List Int32} {v_now_worn : List Int32} {v_now_last : List Int32} {v_now_bend : List Int32} {v_now_tall : List Int32} {v_kept_rows : Int32} {v_kept_cols : Int32} {v_kept_high : Int32} {v_kept_wide : Int32} {v_kept_folds : Int32} {v_kept_wrong : Int32} {v_kept_more : Int32} {v_kept_rowOf : List Int32} {v_kept_colOf : List Int32} {v_kept_below : List Int32} {v_kept_face : List Int32} {v_kept_worn : List Int32} {v_kept_last : List Int32} {v_kept_bend : List Int32} {v_kept_tall : List Int32} {v_wearing_size : Int32} {v_wearing_stepCount : Int32} {v_wearing_draftCount : Int32} {v_wearing_place : Int32} {v_wearing_fault : Int32} {v_wearing_stacked : Int32} {v_wearing_tape : List Int32} {v_wearing_steps : List Int32} {v_wearing_draft : List Int32} {v_wearing_stack : List Int32} {v_planned_size : Int32} {v_planned_trial_rows : Int32} {v_planned_trial_cols : Int32} {v_planned_trial_high : Int32} {v_planned_trial_wide : Int32} {v_planned_trial_folds : Int32} {v_planned_trial_wrong : Int32} {v_planned_trial_more : Int32} {v_planned_trial_rowOf : List Int32} {v_planned_trial_colOf : List Int32} {v_planned_trial_below : List Int32} {v_planned_trial_face : List Int32} {v_planned_trial_worn : List Int32} {v_planned_trial_last : List Int32} {v_planned_trial_bend : List Int32} {v_planned_trial_tall : List Int32} {v_planned_lines : List Int32} {v_planned_ways : List Int32} {v_search_found : Bool} {v_search_wrong : Int32} {v_search_more : Int32} {v_search_folds : Int32} {v_search_wanted : Int32} {v_search_levels0_rows : Int32} {v_search_levels0_cols : Int32} {v_search_levels0_high : Int32} {v_search_levels0_wide : Int32} {v_search_levels0_folds : Int32} {v_search_levels0_wrong : Int32} {v_search_levels0_more : Int32} {v_search_levels0_rowOf : List Int32} {v_search_levels0_colOf : List Int32} {v_search_levels0_below : List Int32} {v_search_levels0_face : List Int32} {v_search_levels0_worn : List Int32} {v_search_levels0_last : List Int32} {v_search_levels0_bend : List Int32} {v_search_levels0_tall : List Int32} {v_search_levels1_rows : Int32} {v_search_levels1_cols : Int32} {v_search_levels1_high : Int32} {v_search_levels1_wide : Int32} {v_search_levels1_folds : Int32} {v_search_levels1_wrong : Int32} {v_search_levels1_more : Int32} {v_search_levels1_rowOf : List Int32} {v_search_levels1_colOf : List Int32} {v_search_levels1_below : List Int32} {v_search_levels1_face : List Int32} {v_search_levels1_worn : List Int32} {v_search_levels1_last : List Int32} {v_search_levels1_bend : List Int32} {v_search_levels1_tall : List Int32} {v_search_levels2_rows : Int32} {v_search_levels2_cols : Int32} {v_search_levels2_high : Int32} {v_search_levels2_wide : Int32} {v_search_levels2_folds : Int32} {v_search_levels2_wrong : Int32} {v_search_levels2_more : Int32} {v_search_levels2_rowOf : List Int32} {v_search_levels2_colOf : List Int32} {v_search_levels2_below : List Int32} {v_search_levels2_face : List Int32} {v_search_levels2_worn : List Int32} {v_search_levels2_last : List Int32} {v_search_levels2_bend : List Int32} {v_search_levels2_tall : List Int32} {v_search_levels3_rows : Int32} {v_search_levels3_cols : Int32} {v_search_levels3_high : Int32} {v_search_levels3_wide : Int32} {v_search_levels3_folds : Int32} {v_search_levels3_wrong : Int32} {v_search_levels3_more : Int32} {v_search_levels3_rowOf : List Int32} {v_search_levels3_colOf : List Int32} {v_search_levels3_below : List Int32} {v_search_levels3_face : List Int32} {v_search_levels3_worn : List Int32} {v_search_levels3_last : List Int32} {v_search_levels3_bend : List Int32} {v_search_levels3_tall : List Int32} {v_search_path : List Int32} {v_search_best : List Int32} {v_strip_list : List Int32} {v_strip_found : List Int32} {v_strip_at : List Int32} {v_changes_value : Int32} {v_changes_done : Int32} {v_changes_size : Int32} {v_changes_before : List Int32} {v_changes_after : List Int32} {v_foldings_size : Int32} {v_foldings_ran : Int32} {v_foldings_number : Int32} {v_foldings_kinds : List Int32} {v_foldings_trace : List Int32} {v_shelves0_holds : Int32} {v_shelves0_body : Int32} {v_shelves0_sort : Int32} {v_shelves0_size : Int32} {v_shelves0_items : List Int64} {v_shelves1_holds : Int32} {v_shelves1_body : Int32} {v_shelves1_sort : Int32} {v_shelves1_size : Int32} {v_shelves1_items : List Int64} {v_shelves2_holds : Int32} {v_shelves2_body : Int32} {v_shelves2_sort : Int32} {v_shelves2_size : Int32} {v_shelves2_items : List Int64} {v_shelves3_holds : Int32} {v_shelves3_body : Int32} {v_shelves3_sort : Int32} {v_shelves3_size : Int32} {v_shelves3_items : List Int64} {v_shelves4_holds : Int32} {v_shelves4_body : Int32} {v_shelves4_sort : Int32} {v_shelves4_size : Int32} {v_shelves4_items : List Int64} {v_shelves5_holds : Int32} {v_shelves5_body : Int32} {v_shelves5_sort : Int32} {v_shelves5_size : Int32} {v_shelves5_items : List Int64} {r : Int32} {N d : Nat} (hd : 5 ≤ d) (hf : fX8_led N x1 v_now_rows v_now_cols v_now_folds v_now_wrong v_now_worn v_changes_value = some r) : mm_Ct l yX8_led cX8_led 2 (some .int) d D (mm_T cI cL cS cH) [.ref (a 0), .int x1] (wd_X8 cI cL cS cH a v_hasImage v_now_rows v_now_cols v_now_high v_now_wide v_now_folds v_now_wrong v_now_more v_now_rowOf v_now_colOf v_now_below v_now_face v_now_worn v_now_last v_now_bend v_now_tall v_kept_rows v_kept_cols v_kept_high v_kept_wide v_kept_folds v_kept_wrong v_kept_more v_kept_rowOf v_kept_colOf v_kept_below v_kept_face v_kept_worn v_kept_last v_kept_bend v_kept_tall v_wearing_size v_wearing_stepCount v_wearing_draftCount v_wearing_place v_wearing_fault v_wearing_stacked v_wearing_tape v_wearing_steps v_wearing_draft v_wearing_stack v_planned_size v_planned_trial_rows v_planned_trial_cols v_planned_trial_high v_planned_trial_wide v_planned_trial_folds v_planned_trial_wrong v_planned_trial_more v_planned_trial_rowOf v_planned_trial_colOf v_planned_trial_below v_planned_trial_face v_planned_trial_worn v_planned_trial_last v_planned_trial_bend v_planned_trial_tall v_planned_lines v_planned_ways v_search_found v_search_wrong v_search_more v_search_folds v_search_wanted v_search_levels0_rows v_search_levels0_cols v_search_levels0_high v_search_levels0_wide v_search_levels0_folds v_search_levels0_wrong v_search_levels0_more v_search_levels0_rowOf v_search_levels0_colOf v_search_levels0_below v_search_levels0_face v_search_levels0_worn v_search_levels0_last v_search_levels0_bend v_search_levels0_tall v_search_levels1_rows v_search_levels1_cols v_search_levels1_high v_search_levels1_wide v_search_levels1_folds v_search_levels1_wrong v_search_levels1_more v_search_levels1_rowOf v_search_levels1_colOf v_search_levels1_below v_search_levels1_face v_search_levels1_worn v_search_levels1_last v_search_levels1_bend v_search_levels1_tall v_search_levels2_rows v_search_levels2_cols v_search_levels2_high v_search_levels2_wide v_search_levels2_folds v_search_levels2_wrong v_search_levels2_more v_search_levels2_rowOf v_search_levels2_colOf v_search_levels2_below v_search_levels2_face v_search_levels2_worn v_search_levels2_last v_search_levels2_bend v_search_levels2_tall v_search_levels3_rows v_search_levels3_cols v_search_levels3_high v_search_levels3_wide v_search_levels3_folds v_search_levels3_wrong v_search_levels3_more v_search_levels3_rowOf v_search_levels3_colOf v_search_levels3_below v_search_levels3_face v_search_levels3_worn v_search_levels3_last v_search_levels3_bend v_search_levels3_tall v_search_path v_search_best v_strip_list v_strip_found v_strip_at v_changes_value v_changes_done v_changes_size v_changes_before v_changes_after v_foldings_size v_foldings_ran v_foldings_number v_foldings_kinds v_foldings_trace v_shelves0_holds v_shelves0_body v_shelves0_sort v_shelves0_size v_shelves0_items v_shelves1_holds v_shelves1_body v_shelves1_sort v_shelves1_size v_shelves1_items v_shelves2_holds v_shelves2_body v_shelves2_sort v_shelves2_size v_shelves2_items v_shelves3_holds v_shelves3_body v_shelves3_sort v_shelves3_size v_shelves3_items v_shelves4_holds v_shelves4_body v_shelves4_sort v_shelves4_size v_shelves4_items v_shelves5_holds v_shelves5_body v_shelves5_sort v_shelves5_size v_shelves5_items) (wd_X8 cI cL cS cH a v_hasImage v_now_rows v_now_cols v_now_high v_now_wide v_now_folds v_now_wrong v_now_more v_now_rowOf v_now_colOf v_now_below v_now_face v_now_worn v_now_last v_now_bend v_now_tall v_kept_rows v_kept_cols v_kept_high v_kept_wide v_kept_folds v_kept_wrong v_kept_more v_kept_rowOf v_kept_colOf v_kept_below v_kept_face v_kept_worn v_kept_last v_kept_bend v_kept_tall v_wearing_size v_wearing_stepCount v_wearing_draftCount v_wearing_place v_wearing_fault v_wearing_stacked v_wearing_tape v_wearing_steps v_wearing_draft v_wearing_stack v_planned_size v_planned_trial_rows v_planned_trial_cols v_planned_trial_high v_planned_trial_wide v_planned_trial_folds v_planned_trial_wrong v_planned_trial_more v_planned_trial_rowOf v_planned_trial_colOf v_planned_trial_below v_planned_trial_face v_planned_trial_worn v_planned_trial_last v_planned_trial_bend v_planned_trial_tall v_planned_lines v_planned_ways v_search_found v_search_wrong v_search_more v_search_folds v_search_wanted v_search_levels0_rows v_search_levels0_cols v_search_levels0_high v_search_levels0_wide v_search_levels0_folds v_search_levels0_wrong v_search_levels0_more v_search_levels0_rowOf v_search_levels0_colOf v_search_levels0_below v_search_levels0_face v_search_levels0_worn v_search_levels0_last v_search_levels0_bend v_search_levels0_tall v_search_levels1_rows v_search_levels1_cols v_search_levels1_high v_search_levels1_wide v_search_levels1_folds v_search_levels1_wrong v_search_levels1_more v_search_levels1_rowOf v_search_levels1_colOf v_search_levels1_below v_search_levels1_face v_search_levels1_worn v_search_levels1_last v_search_levels1_bend v_search_levels1_tall v_search_levels2_rows v_search_levels2_cols v_search_levels2_high v_search_levels2_wide v_search_levels2_folds v_search_levels2_wrong v_search_levels2_more v_search_levels2_rowOf v_search_levels2_colOf v_search_levels2_below v_search_levels2_face v_search_levels2_worn v_search_levels2_last v_search_levels2_bend v_search_levels2_tall v_search_levels3_rows v_search_levels3_cols v_search_levels3_high v_search_levels3_wide v_search_levels3_folds v_search_levels3_wrong v_search_levels3_more v_search_levels3_rowOf v_search_levels3_colOf v_search_levels3_below v_search_levels3_face v_search_levels3_worn v_search_levels3_last v_search_levels3_bend v_search_levels3_tall v_search_path v_search_best v_strip_list v_strip_found v_strip_at v_changes_value v_changes_done v_changes_size v_changes_before v_changes_after v_foldings_size v_foldings_ran v_foldings_number v_foldings_kinds v_foldings_trace v_shelves0_holds v_shelves0_body v_shelves0_sort v_shelves0_size v_shelves0_items v_shelves1_holds v_shelves1_body v_shelves1_sort v_shelves1_size v_shelves1_items v_shelves2_holds v_shelves2_body v_shelves2_sort v_shelves2_size v_shelves2_items v_shelves3_holds v_shelves3_body v_shelves3_sort v_shelves3_size v_shelves3_items v_shelves4_holds v_shelves4_body v_shelves4_sort v_shelves4_size v_shelves4_items v_shelves5_holds v_shelves5_body v_shelves5_sort v_shelves5_size v_shelves5_items) (some (.int r)) := by
  refine mm_of (by decide) (Nat.le_of_ble_eq_true rfl) ?_
  intro p e s m args below meth c A H locs ls C0 hP hD hA hS hl
  have C0 : mm_Cx p s m args meth c RX8 cX8_led 2 (some .int) D (mm_T cI cL cS cH) A := C0
  obtain ⟨hx, hb, hml, hown, hts, hr, hlocks, hK, hSt⟩ := id C0
  have hl : lv_has ls 2 [(0, .ref (a 0)), (1, .int x1)] := hl
  unfold fX8_led at hf
  refine lv_iload_n hx hb dX8_led_0 rfl (lv_at hl 1 rfl) ?_
  by_cases c_1 : x1 = (0 : Int32)
  · have hf := mm_ip hf c_1
    refine lv_tableIn (off := 27) (tgt := 28) hx hb dX8_led_1 (by rw [c_1]; decide) (by rw [c_1]; decide) (by rw [c_1]; first | done | rfl) (by decide) ?_
    refine lv_aload_n hx hb dX8_led_28 rfl (lv_at hl 0 rfl) ?_
    refine mm_get C0 hP iw_X8 0 rfl rfl 0 (by decide) fl_X8_10 rfl dX8_led_29 ?_
    refine mm_get C0 hP iw_X5 1 rfl rfl 4 (by decide) fl_X8_147 rfl dX8_led_32 ?_
    obtain rfl := mm_inj1 hf
    exact mm_iret C0 hP hD hS dX8_led_35
  · have hf := mm_in hf c_1
    by_cases c_2 : x1 = (1 : Int32)
    · have hf := mm_ip hf c_2
      refine lv_tableIn (off := 35) (tgt := 36) hx hb dX8_led_1 (by rw [c_2]; decide) (by rw [c_2]; decide) (by rw [c_2]; first | done | rfl) (by decide) ?_
      refine lv_aload_n hx hb dX8_led_36 rfl (lv_at hl 0 rfl) ?_
      refine mm_get C0 hP iw_X8 0 rfl rfl 0 (by decide) fl_X8_10 rfl dX8_led_37 ?_
      refine mm_get C0 hP iw_X5 1 rfl rfl 5 (by decide) fl_X8_150 rfl dX8_led_40 ?_
      obtain rfl := mm_inj1 hf
      exact mm_iret C0 hP hD hS dX8_led_43
    · have hf := mm_in hf c_2
      by_cases c_3 : x1 = (2 : Int32)
      · have hf := mm_ip hf c_3
        refine lv_tableIn (off := 43) (tgt := 44) hx hb dX8_led_1 (by rw [c_3]; decide) (by rw [c_3]; decide) (by rw [c_3]; first | done | rfl) (by decide) ?_
        refine lv_aload_n hx hb dX8_led_44 rfl (lv_at hl 0 rfl) ?_
        refine mm_get C0 hP iw_X8 0 rfl rfl 0 (by decide) fl_X8_10 rfl dX8_led_45 ?_
        refine lv_aload_n hx hb dX8_led_48 rfl (lv_at hl 0 rfl) ?_
        refine mm_get C0 hP iw_X8 0 rfl rfl 6 (by decide) fl_X8_50 rfl dX8_led_49 ?_
        refine mm_get C0 hP iw_X0 80 rfl rfl 0 (by decide) fl_X8_79 rfl dX8_led_52 ?_
        obtain ⟨r_4, hc_5, hf⟩ := mm_bd1s hf
        refine mm_callW (q0 := 1) (ci := 5) (w2 := (wd_X8 cI cL cS cH a v_hasImage v_now_rows v_now_cols v_now_high v_now_wide v_now_folds v_now_wrong v_now_more v_now_rowOf v_now_colOf v_now_below v_now_face v_now_worn v_now_last v_now_bend v_now_tall v_kept_rows v_kept_cols v_kept_high v_kept_wide v_kept_folds v_kept_wrong v_kept_more v_kept_rowOf v_kept_colOf v_kept_below v_kept_face v_kept_worn v_kept_last v_kept_bend v_kept_tall v_wearing_size v_wearing_stepCount v_wearing_draftCount v_wearing_place v_wearing_fault v_wearing_stacked v_wearing_tape v_wearing_steps v_wearing_draft v_wearing_stack v_planned_size v_planned_trial_rows v_planned_trial_cols v_planned_trial_high v_planned_trial_wide v_planned_trial_folds v_planned_trial_wrong v_planned_trial_more v_planned_trial_rowOf v_planned_trial_colOf v_planned_trial_below v_planned_trial_face v_planned_trial_worn v_planned_trial_last v_planned_trial_bend v_planned_trial_tall v_planned_lines v_planned_ways v_search_found v_search_wrong v_search_more v_search_folds v_search_wanted v_search_levels0_rows v_search_levels0_cols v_search_levels0_high v_search_levels0_wide v_search_levels0_folds v_search_levels0_wrong v_search_levels0_more v_search_levels0_rowOf v_search_levels0_colOf v_search_levels0_below v_search_levels0_face v_search_levels0_worn v_search_levels0_last v_search_levels0_bend v_search_levels0_tall v_search_levels1_rows v_search_levels1_cols v_search_levels1_high v_search_levels1_wide v_search_levels1_folds v_search_levels1_wrong v_search_levels1_more v_search_levels1_rowOf v_search_levels1_colOf v_search_levels1_below v_search_levels1_face v_search_levels1_worn v_search_levels1_last v_search_levels1_bend v_search_levels1_tall v_search_levels2_rows v_search_levels2_cols v_search_levels2_high v_search_levels2_wide v_search_levels2_folds v_search_levels2_wrong v_search_levels2_more v_search_levels2_rowOf v_search_levels2_colOf v_search_levels2_below v_search_levels2_face v_search_levels2_worn v_search_levels2_last v_search_levels2_bend v_search_levels2_tall v_search_levels3_rows v_search_levels3_cols v_search_levels3_high v_search_levels3_wide v_search_levels3_folds v_search_levels3_wrong v_search_levels3_more v_search_levels3_rowOf v_search_levels3_colOf v_search_levels3_below v_search_levels3_face v_search_levels3_worn v_search_levels3_last v_search_levels3_bend v_search_levels3_tall v_search_path v_search_best v_strip_list v_strip_found v_strip_at v_changes_value v_changes_done v_changes_size v_changes_before v_changes_after v_foldings_size v_foldings_ran v_foldings_number v_foldings_kinds v_foldings_trace v_shelves0_holds v_shelves0_body v_shelves0_sort v_shelves0_size v_shelves0_items v_shelves1_holds v_shelves1_body v_shelves1_sort v_shelves1_size v_shelves1_items v_shelves2_holds v_shelves2_body v_shelves2_sort v_shelves2_size v_shelves2_items v_shelves3_holds v_shelves3_body v_shelves3_sort v_shelves3_size v_shelves3_items v_shelves4_holds v_shelves4_body v_shelves4_sort v_shelves4_size v_shelves4_items v_shelves5_holds v_shelves5_body v_shelves5_sort v_shelves5_size v_shelves5_items)) (rest := []) C0 lk_X8_153 (ctX5_torn (a := (fun k => a (k + 1))) (d := d - 1) (by omega) hc_5) (by omega) rfl hl.1 rfl (mm_cat rfl) dX8_led_55 hP hD hA hS rfl rfl [false, true, true, true, true, true, true, true, true, true, false, false, false, false, false, false, false, false, false, false, false, false, false, false, false, false, false, false, false, false, false, false, false, false, false, false, false, false, false, false, false, false, false, false, false, false, false, false, false, false, false, false, false, false, false, false, false, false, false, false, false, false, false, false, false, false, false, false, false, false, false, false, false, false, false, false, false, false, false, false, false, false, false, false, false, false, false, false, false, false, false, false, false, false, false, false, false, false, false] rfl rfl rfl rfl (fun H locs hP hD hS => ?_)
        refine W.eq (g2 := F0 m 58 ls [.int r_4]) rfl ?_
        obtain rfl := mm_inj1 hf
        exact mm_iret C0 hP hD hS dX8_led_58
      · have hf := mm_in hf c_3
        refine lv_tableOut (tgt := 59) hx hb dX8_led_1 (by have nc_1 := lv_neT c_1 (a := 0) (by decide); have nc_2 := lv_neT c_2 (a := 1) (by decide); have nc_3 := lv_neT c_3 (a := 2) (by decide); omega) (by decide) ?_
        refine lv_iconst (v := -1) hx hb dX8_led_59 (by decide) ?_
        obtain rfl := mm_inj1 hf
        exact mm_iret C0 hP hD hS dX8_led_60

theorem dX8_plan_0 : decode cX8_plan 0 = .ok (.iload_n 1, 1) := by decide +kernel
theorem dX8_plan_1 : decode cX8_plan 1 = .ok (.ifCond .ne 13, 3) := by decide +kernel
theorem dX8_plan_4 : decode cX8_plan 4 = .ok (.aload_n 0, 1) := by decide +kernel
theorem dX8_plan_5 : decode cX8_plan 5 = .ok (.getfield 29, 3) := by decide +kernel
theorem dX8_plan_8 : decode cX8_plan 8 = .ok (.iconst 0, 1) := by decide +kernel
theorem dX8_plan_9 : decode cX8_plan 9 = .ok (.putfield 157, 3) := by decide +kernel
theorem dX8_plan_12 : decode cX8_plan 12 = .ok (.iconst 0, 1) := by decide +kernel
theorem dX8_plan_13 : decode cX8_plan 13 = .ok (.ireturn, 1) := by decide +kernel
theorem dX8_plan_14 : decode cX8_plan 14 = .ok (.iload_n 1, 1) := by decide +kernel
theorem dX8_plan_15 : decode cX8_plan 15 = .ok (.i2l, 1) := by decide +kernel
theorem dX8_plan_16 : decode cX8_plan 16 = .ok (.iload_n 2, 1) := by decide +kernel
theorem dX8_plan_17 : decode cX8_plan 17 = .ok (.i2l, 1) := by decide +kernel
theorem dX8_plan_18 : decode cX8_plan 18 = .ok (.invokestatic 158, 3) := by decide +kernel
theorem dX8_plan_21 : decode cX8_plan 21 = .ok (.ifCond .ne 5, 3) := by decide +kernel
theorem dX8_plan_24 : decode cX8_plan 24 = .ok (.iconst (-1), 1) := by decide +kernel
theorem dX8_plan_25 : decode cX8_plan 25 = .ok (.ireturn, 1) := by decide +kernel
theorem dX8_plan_26 : decode cX8_plan 26 = .ok (.aload_n 0, 1) := by decide +kernel
theorem dX8_plan_27 : decode cX8_plan 27 = .ok (.getfield 29, 3) := by decide +kernel
theorem dX8_plan_30 : decode cX8_plan 30 = .ok (.iload_n 1, 1) := by decide +kernel
theorem dX8_plan_31 : decode cX8_plan 31 = .ok (.iload_n 2, 1) := by decide +kernel
theorem dX8_plan_32 : decode cX8_plan 32 = .ok (.invokevirtual 162, 3) := by decide +kernel
theorem dX8_plan_35 : decode cX8_plan 35 = .ok (.ifCond .eq 13, 3) := by decide +kernel
theorem dX8_plan_38 : decode cX8_plan 38 = .ok (.aload_n 0, 1) := by decide +kernel
theorem dX8_plan_39 : decode cX8_plan 39 = .ok (.getfield 29, 3) := by decide +kernel
theorem dX8_plan_42 : decode cX8_plan 42 = .ok (.getfield 157, 3) := by decide +kernel
theorem dX8_plan_45 : decode cX8_plan 45 = .ok (.goto 5, 3) := by decide +kernel
theorem dX8_plan_48 : decode cX8_plan 48 = .ok (.bipush (-3), 2) := by decide +kernel
theorem dX8_plan_50 : decode cX8_plan 50 = .ok (.ireturn, 1) := by decide +kernel
def fX8_plan (N : Nat) (x1 : Int32) (x2 : Int32) (v_planned_size : Int32) (v_planned_lines : List Int32) (v_planned_ways : List Int32) : Option (Int32 × Int32 × List Int32 × List Int32) :=
    if x1 = 0 then
    (some ((0 : Int32), (0 : Int32), v_planned_lines, v_planned_ways))
    else (mm_bd1 (fX8_isPlannedFold N ((x1).toInt64) ((x2).toInt64)) (fun (r_2 : Bool) =>
    if r_2 = false then
    (some ((-1 : Int32), v_planned_size, v_planned_lines, v_planned_ways))
    else (mm_bd4 (fX3_append N x1 x2 v_planned_size v_planned_lines v_planned_ways) (fun (r_5 : Bool) (w_6 : Int32) (w_7 : List Int32) (w_8 : List Int32) =>
    if r_5 = false then
    (some ((-3 : Int32), w_6, w_7, w_8))
    else (some (w_6, w_6, w_7, w_8))))))

set_option maxHeartbeats 4000000 in
set_option maxRecDepth 100000 in
theorem ctX8_plan {l : Launch} {D : va_G} {cI cL cS cH : ClassId} {a : Nat → Nat} {x1 : Int32} {x2 : Int32} {v_hasImage : Bool} {v_now_rows : Int32} {v_now_cols : Int32} {v_now_high : Int32} {v_now_wide : Int32} {v_now_folds : Int32} {v_now_wrong : Int32} {v_now_more : Int32} {v_now_rowOf : List Int32} {v_now_colOf : List Int32} {v_now_below : List Int32} {v_now_face : List Int32} {v_now_worn : List Int32} {v_now_last : List Int32} {v_now_bend : List Int32} {v_now_tall : List Int32} {v_kept_rows : Int32} {v_kept_cols : Int32} {v_kept_high : Int32} {v_kept_wide : Int32} {v_kept_folds : Int32} {v_kept_wrong : Int32} {v_kept_more : Int32} {v_kept_rowOf : List Int32} {v_kept_colOf : List Int32} {v_kept_below : List Int32} {v_kept_face : List Int32} {v_kept_worn : List Int32} {v_kept_last : List Int32} {v_kept_bend : List Int32} {v_kept_tall : List Int32} {v_wearing_size : Int32} {v_wearing_stepCount : Int32} {v_wearing_draftCount : Int32} {v_wearing_place : Int32} {v_wearing_fault : Int32} {v_wearing_stacked : Int32} {v_wearing_tape : List Int32} {v_wearing_steps : List Int32} {v_wearing_draft : List Int32} {v_wearing_stack : List Int32} {v_planned_size : Int32} {v_planned_trial_rows : Int32} {v_planned_trial_cols : Int32} {v_planned_trial_high : Int32} {v_planned_trial_wide : Int32} {v_planned_trial_folds : Int32} {v_planned_trial_wrong : Int32} {v_planned_trial_more : Int32} {v_planned_trial_rowOf : List Int32} {v_planned_trial_colOf : List Int32} {v_planned_trial_below : List Int32} {v_planned_trial_face : List Int32} {v_planned_trial_worn : List Int32} {v_planned_trial_last : List Int32} {v_planned_trial_bend : List Int32} {v_planned_trial_tall : List Int32} {v_planned_lines : List Int32} {v_planned_ways : List Int32} {v_search_found : Bool} {v_search_wrong : Int32} {v_search_more : Int32} {v_search_folds : Int32} {v_search_wanted : Int32} {v_search_levels0_rows : Int32} {v_search_levels0_cols : Int32} {v_search_levels0_high : Int32} {v_search_levels0_wide : Int32} {v_search_levels0_folds : Int32} {v_search_levels0_wrong : Int32} {v_search_levels0_more : Int32} {v_search_levels0_rowOf : List Int32} {v_search_levels0_colOf : List Int32} {v_search_levels0_below : List Int32} {v_search_levels0_face : List Int32} {v_search_levels0_worn : List Int32} {v_search_levels0_last : List Int32} {v_search_levels0_bend : List Int32} {v_search_levels0_tall : List Int32} {v_search_levels1_rows : Int32} {v_search_levels1_cols : Int32} {v_search_levels1_high : Int32} {v_search_levels1_wide : Int32} {v_search_levels1_folds : Int32} {v_search_levels1_wrong : Int32} {v_search_levels1_more : Int32} {v_search_levels1_rowOf : List Int32} {v_search_levels1_colOf : List Int32} {v_search_levels1_below : List Int32} {v_search_levels1_face : List Int32} {v_search_levels1_worn : List Int32} {v_search_levels1_last : List Int32} {v_search_levels1_bend : List Int32} {v_search_levels1_tall : List Int32} {v_search_levels2_rows : Int32} {v_search_levels2_cols : Int32} {v_search_levels2_high : Int32} {v_search_levels2_wide : Int32} {v_search_levels2_folds : Int32} {v_search_levels2_wrong : Int32} {v_search_levels2_more : Int32} {v_search_levels2_rowOf : List Int32} {v_search_levels2_colOf : List Int32} {v_search_levels2_below : List Int32} {v_search_levels2_face : List Int32} {v_search_levels2_worn : List Int32} {v_search_levels2_last : List Int32} {v_search_levels2_bend : List Int32} {v_search_levels2_tall : List Int32} {v_search_levels3_rows : Int32} {v_search_levels3_cols : Int32} {v_search_levels3_high : Int32} {v_search_levels3_wide : Int32} {v_search_levels3_folds : Int32} {v_search_levels3_wrong : Int32} {v_search_levels3_more : Int32} {v_search_levels3_rowOf : List Int32} {v_search_levels3_colOf : List Int32} {v_search_levels3_below : List Int32} {v_search_levels3_face : List Int32} {v_search_levels3_worn : List Int32} {v_search_levels3_last : List Int32} {v_search_levels3_bend : List Int32} {v_search_levels3_tall : List Int32} {v_search_path : List Int32} {v_search_best : List Int32} {v_strip_list : List Int32} {v_strip_found : List Int32} {v_strip_at : List Int32} {v_changes_value : Int32} {v_changes_done : Int32} {v_changes_size : Int32} {v_changes_before : List Int32} {v_changes_after : List Int32} {v_foldings_size : Int32} {v_foldings_ran : Int32} {v_foldings_number : Int32} {v_foldings_kinds : List Int32} {v_foldings_trace : List Int32} {v_shelves0_holds : Int32} {v_shelves0_body : Int32} {v_shelves0_sort : Int32} {v_shelves0_size : Int32} {v_shelves0_items : List Int64} {v_shelves1_holds : Int32} {v_shelves1_body : Int32} {v_shelves1_sort : Int32} {v_shelves1_size : Int32} {v_shelves1_items : List Int64} {v_shelves2_holds : Int32} {v_shelves2_body : Int32} {v_shelves2_sort : Int32} {v_shelves2_size : Int32} {v_shelves2_items : List Int64} {v_shelves3_holds : Int32} {v_shelves3_body : Int32} {v_shelves3_sort : Int32} {v_shelves3_size : Int32} {v_shelves3_items : List Int64} {v_shelves4_holds : Int32} {v_shelves4_body : Int32} {v_shelves4_sort : Int32} {v_shelves4_size : Int32} {v_shelves4_items : List Int64} {v_shelves5_holds : Int32} {v_shelves5_body : Int32} {v_shelves5_sort : Int32} {v_shelves5_size : Int32} {v_shelves5_items : List Int64} {r : Int32} {w_planned_size : Int32} {w_planned_lines : List Int32} {w_planned_ways : List Int32} {N d : Nat} (hd : 2 ≤ d) (hf : fX8_plan N x1 x2 v_planned_size v_planned_lines v_planned_ways = some (r, w_planned_size, w_planned_lines, w_planned_ways)) : mm_Ct l yX8_plan cX8_plan 3 (some .int) d D (mm_T cI cL cS cH) [.ref (a 0), .int x1, .int x2] (wd_X8 cI cL cS cH a v_hasImage v_now_rows v_now_cols v_now_high v_now_wide v_now_folds v_now_wrong v_now_more v_now_rowOf v_now_colOf v_now_below v_now_face v_now_worn v_now_last v_now_bend v_now_tall v_kept_rows v_kept_cols v_kept_high v_kept_wide v_kept_folds v_kept_wrong v_kept_more v_kept_rowOf v_kept_colOf v_kept_below v_kept_face v_kept_worn v_kept_last v_kept_bend v_kept_tall v_wearing_size v_wearing_stepCount v_wearing_draftCount v_wearing_place v_wearing_fault v_wearing_stacked v_wearing_tape v_wearing_steps v_wearing_draft v_wearing_stack v_planned_size v_planned_trial_rows v_planned_trial_cols v_planned_trial_high v_planned_trial_wide v_planned_trial_folds v_planned_trial_wrong v_planned_trial_more v_planned_trial_rowOf v_planned_trial_colOf v_planned_trial_below v_planned_trial_face v_planned_trial_worn v_planned_trial_last v_planned_trial_bend v_planned_trial_tall v_planned_lines v_planned_ways v_search_found v_search_wrong v_search_more v_search_folds v_search_wanted v_search_levels0_rows v_search_levels0_cols v_search_levels0_high v_search_levels0_wide v_search_levels0_folds v_search_levels0_wrong v_search_levels0_more v_search_levels0_rowOf v_search_levels0_colOf v_search_levels0_below v_search_levels0_face v_search_levels0_worn v_search_levels0_last v_search_levels0_bend v_search_levels0_tall v_search_levels1_rows v_search_levels1_cols v_search_levels1_high v_search_levels1_wide v_search_levels1_folds v_search_levels1_wrong v_search_levels1_more v_search_levels1_rowOf v_search_levels1_colOf v_search_levels1_below v_search_levels1_face v_search_levels1_worn v_search_levels1_last v_search_levels1_bend v_search_levels1_tall v_search_levels2_rows v_search_levels2_cols v_search_levels2_high v_search_levels2_wide v_search_levels2_folds v_search_levels2_wrong v_search_levels2_more v_search_levels2_rowOf v_search_levels2_colOf v_search_levels2_below v_search_levels2_face v_search_levels2_worn v_search_levels2_last v_search_levels2_bend v_search_levels2_tall v_search_levels3_rows v_search_levels3_cols v_search_levels3_high v_search_levels3_wide v_search_levels3_folds v_search_levels3_wrong v_search_levels3_more v_search_levels3_rowOf v_search_levels3_colOf v_search_levels3_below v_search_levels3_face v_search_levels3_worn v_search_levels3_last v_search_levels3_bend v_search_levels3_tall v_search_path v_search_best v_strip_list v_strip_found v_strip_at v_changes_value v_changes_done v_changes_size v_changes_before v_changes_after v_foldings_size v_foldings_ran v_foldings_number v_foldings_kinds v_foldings_trace v_shelves0_holds v_shelves0_body v_shelves0_sort v_shelves0_size v_shelves0_items v_shelves1_holds v_shelves1_body v_shelves1_sort v_shelves1_size v_shelves1_items v_shelves2_holds v_shelves2_body v_shelves2_sort v_shelves2_size v_shelves2_items v_shelves3_holds v_shelves3_body v_shelves3_sort v_shelves3_size v_shelves3_items v_shelves4_holds v_shelves4_body v_shelves4_sort v_shelves4_size v_shelves4_items v_shelves5_holds v_shelves5_body v_shelves5_sort v_shelves5_size v_shelves5_items) (wd_X8 cI cL cS cH a v_hasImage v_now_rows v_now_cols v_now_high v_now_wide v_now_folds v_now_wrong v_now_more v_now_rowOf v_now_colOf v_now_below v_now_face v_now_worn v_now_last v_now_bend v_now_tall v_kept_rows v_kept_cols v_kept_high v_kept_wide v_kept_folds v_kept_wrong v_kept_more v_kept_rowOf v_kept_colOf v_kept_below v_kept_face v_kept_worn v_kept_last v_kept_bend v_kept_tall v_wearing_size v_wearing_stepCount v_wearing_draftCount v_wearing_place v_wearing_fault v_wearing_stacked v_wearing_tape v_wearing_steps v_wearing_draft v_wearing_stack w_planned_size v_planned_trial_rows v_planned_trial_cols v_planned_trial_high v_planned_trial_wide v_planned_trial_folds v_planned_trial_wrong v_planned_trial_more v_planned_trial_rowOf v_planned_trial_colOf v_planned_trial_below v_planned_trial_face v_planned_trial_worn v_planned_trial_last v_planned_trial_bend v_planned_trial_tall w_planned_lines w_planned_ways v_search_found v_search_wrong v_search_more v_search_folds v_search_wanted v_search_levels0_rows v_search_levels0_cols v_search_levels0_high v_search_levels0_wide v_search_levels0_folds v_search_levels0_wrong v_search_levels0_more v_search_levels0_rowOf v_search_levels0_colOf v_search_levels0_below v_search_levels0_face v_search_levels0_worn v_search_levels0_last v_search_levels0_bend v_search_levels0_tall v_search_levels1_rows v_search_levels1_cols v_search_levels1_high v_search_levels1_wide v_search_levels1_folds v_search_levels1_wrong v_search_levels1_more v_search_levels1_rowOf v_search_levels1_colOf v_search_levels1_below v_search_levels1_face v_search_levels1_worn v_search_levels1_last v_search_levels1_bend v_search_levels1_tall v_search_levels2_rows v_search_levels2_cols v_search_levels2_high v_search_levels2_wide v_search_levels2_folds v_search_levels2_wrong v_search_levels2_more v_search_levels2_rowOf v_search_levels2_colOf v_search_levels2_below v_search_levels2_face v_search_levels2_worn v_search_levels2_last v_search_levels2_bend v_search_levels2_tall v_search_levels3_rows v_search_levels3_cols v_search_levels3_high v_search_levels3_wide v_search_levels3_folds v_search_levels3_wrong v_search_levels3_more v_search_levels3_rowOf v_search_levels3_colOf v_search_levels3_below v_search_levels3_face v_search_levels3_worn v_search_levels3_last v_search_levels3_bend v_search_levels3_tall v_search_path v_search_best v_strip_list v_strip_found v_strip_at v_changes_value v_changes_done v_changes_size v_changes_before v_changes_after v_foldings_size v_foldings_ran v_foldings_number v_foldings_kinds v_foldings_trace v_shelves0_holds v_shelves0_body v_shelves0_sort v_shelves0_size v_shelves0_items v_shelves1_holds v_shelves1_body v_shelves1_sort v_shelves1_size v_shelves1_items v_shelves2_holds v_shelves2_body v_shelves2_sort v_shelves2_size v_shelves2_items v_shelves3_holds v_shelves3_body v_shelves3_sort v_shelves3_size v_shelves3_items v_shelves4_holds v_shelves4_body v_shelves4_sort v_shelves4_size v_shelves4_items v_shelves5_holds v_shelves5_body v_shelves5_sort v_shelves5_size v_shelves5_items) (some (.int r)) := by
  refine mm_of (by decide) (Nat.le_of_ble_eq_true rfl) ?_
  intro p e s m args below meth c A H locs ls C0 hP hD hA hS hl
  have C0 : mm_Cx p s m args meth c RX8 cX8_plan 3 (some .int) D (mm_T cI cL cS cH) A := C0
  obtain ⟨hx, hb, hml, hown, hts, hr, hlocks, hK, hSt⟩ := id C0
  have hl : lv_has ls 3 [(0, .ref (a 0)), (1, .int x1), (2, .int x2)] := hl
  unfold fX8_plan at hf
  refine lv_iload_n hx hb dX8_plan_0 rfl (lv_at hl 1 rfl) ?_
  refine lv_if_ne (tgt := 14) hx hb dX8_plan_1 (by decide) (fun c_1 => ?_) (fun c_1 => ?_)
  · have hf := mm_in hf c_1
    refine lv_iload_n hx hb dX8_plan_14 rfl (lv_at hl 1 rfl) ?_
    refine lv_i2l hx hb dX8_plan_15 rfl ?_
    refine lv_iload_n hx hb dX8_plan_16 rfl (lv_at hl 2 rfl) ?_
    refine lv_i2l hx hb dX8_plan_17 rfl ?_
    obtain ⟨r_2, hc_3, hf⟩ := mm_bd1s hf
    refine mm_callS0 (rest := []) C0 lk_X8_158 (ctX8_isPlannedFold (d := d - 1) (by omega) hc_3) (by omega) rfl hl.1 rfl (mm_cat rfl) dX8_plan_18 hP hD hA hS (fun H locs hP hS => ?_)
    refine W.eq (g2 := F0 m 21 ls [.int (mm_b r_2)]) rfl ?_
    refine lv_if_ne (tgt := 26) hx hb dX8_plan_21 (by decide) (fun c_4 => ?_) (fun c_4 => ?_)
    · have hf := mm_in hf (mm_b1 c_4)
      refine lv_aload_n hx hb dX8_plan_26 rfl (lv_at hl 0 rfl) ?_
      refine mm_get C0 hP iw_X8 0 rfl rfl 3 (by decide) fl_X8_29 rfl dX8_plan_27 ?_
      refine lv_iload_n hx hb dX8_plan_30 rfl (lv_at hl 1 rfl) ?_
      refine lv_iload_n hx hb dX8_plan_31 rfl (lv_at hl 2 rfl) ?_
      obtain ⟨r_5, w_6, w_7, w_8, hc_9, hf⟩ := mm_bd4s hf
      refine mm_callW (q0 := 24) (ci := 3) (w2 := (wd_X8 cI cL cS cH a v_hasImage v_now_rows v_now_cols v_now_high v_now_wide v_now_folds v_now_wrong v_now_more v_now_rowOf v_now_colOf v_now_below v_now_face v_now_worn v_now_last v_now_bend v_now_tall v_kept_rows v_kept_cols v_kept_high v_kept_wide v_kept_folds v_kept_wrong v_kept_more v_kept_rowOf v_kept_colOf v_kept_below v_kept_face v_kept_worn v_kept_last v_kept_bend v_kept_tall v_wearing_size v_wearing_stepCount v_wearing_draftCount v_wearing_place v_wearing_fault v_wearing_stacked v_wearing_tape v_wearing_steps v_wearing_draft v_wearing_stack w_6 v_planned_trial_rows v_planned_trial_cols v_planned_trial_high v_planned_trial_wide v_planned_trial_folds v_planned_trial_wrong v_planned_trial_more v_planned_trial_rowOf v_planned_trial_colOf v_planned_trial_below v_planned_trial_face v_planned_trial_worn v_planned_trial_last v_planned_trial_bend v_planned_trial_tall w_7 w_8 v_search_found v_search_wrong v_search_more v_search_folds v_search_wanted v_search_levels0_rows v_search_levels0_cols v_search_levels0_high v_search_levels0_wide v_search_levels0_folds v_search_levels0_wrong v_search_levels0_more v_search_levels0_rowOf v_search_levels0_colOf v_search_levels0_below v_search_levels0_face v_search_levels0_worn v_search_levels0_last v_search_levels0_bend v_search_levels0_tall v_search_levels1_rows v_search_levels1_cols v_search_levels1_high v_search_levels1_wide v_search_levels1_folds v_search_levels1_wrong v_search_levels1_more v_search_levels1_rowOf v_search_levels1_colOf v_search_levels1_below v_search_levels1_face v_search_levels1_worn v_search_levels1_last v_search_levels1_bend v_search_levels1_tall v_search_levels2_rows v_search_levels2_cols v_search_levels2_high v_search_levels2_wide v_search_levels2_folds v_search_levels2_wrong v_search_levels2_more v_search_levels2_rowOf v_search_levels2_colOf v_search_levels2_below v_search_levels2_face v_search_levels2_worn v_search_levels2_last v_search_levels2_bend v_search_levels2_tall v_search_levels3_rows v_search_levels3_cols v_search_levels3_high v_search_levels3_wide v_search_levels3_folds v_search_levels3_wrong v_search_levels3_more v_search_levels3_rowOf v_search_levels3_colOf v_search_levels3_below v_search_levels3_face v_search_levels3_worn v_search_levels3_last v_search_levels3_bend v_search_levels3_tall v_search_path v_search_best v_strip_list v_strip_found v_strip_at v_changes_value v_changes_done v_changes_size v_changes_before v_changes_after v_foldings_size v_foldings_ran v_foldings_number v_foldings_kinds v_foldings_trace v_shelves0_holds v_shelves0_body v_shelves0_sort v_shelves0_size v_shelves0_items v_shelves1_holds v_shelves1_body v_shelves1_sort v_shelves1_size v_shelves1_items v_shelves2_holds v_shelves2_body v_shelves2_sort v_shelves2_size v_shelves2_items v_shelves3_holds v_shelves3_body v_shelves3_sort v_shelves3_size v_shelves3_items v_shelves4_holds v_shelves4_body v_shelves4_sort v_shelves4_size v_shelves4_items v_shelves5_holds v_shelves5_body v_shelves5_sort v_shelves5_size v_shelves5_items)) (rest := []) C0 lk_X8_162 (ctX3_append (a := (fun k => a (k + 24))) (d := d - 1) (by omega) hc_9) (by omega) rfl hl.1 rfl (mm_cat rfl) dX8_plan_32 hP hD hA hS rfl rfl [false, false, false, false, false, false, false, false, false, false, false, false, false, false, false, false, false, false, false, false, false, false, false, false, true, true, true, true, true, true, true, true, true, true, true, true, false, false, false, false, false, false, false, false, false, false, false, false, false, false, false, false, false, false, false, false, false, false, false, false, false, false, false, false, false, false, false, false, false, false, false, false, false, false, false, false, false, false, false, false, false, false, false, false, false, false, false, false, false, false, false, false, false, false, false, false, false, false, false] rfl rfl rfl rfl (fun H locs hP hD hS => ?_)
      refine W.eq (g2 := F0 m 35 ls [.int (mm_b r_5)]) rfl ?_
      refine lv_if_eq (tgt := 48) hx hb dX8_plan_35 (by decide) (fun c_10 => ?_) (fun c_10 => ?_)
      · have hf := mm_ip hf (mm_b0 c_10)
        refine lv_bipush (v := -3) hx hb dX8_plan_48 (by decide) ?_
        apply mm_sub4 hf
        exact mm_iret C0 hP hD hS dX8_plan_50
      · have hf := mm_in hf (mm_b1 c_10)
        refine lv_aload_n hx hb dX8_plan_38 rfl (lv_at hl 0 rfl) ?_
        refine mm_get C0 hP iw_X8 0 rfl rfl 3 (by decide) fl_X8_29 rfl dX8_plan_39 ?_
        refine mm_get C0 hP iw_X3 24 rfl rfl 0 (by decide) fl_X8_157 rfl dX8_plan_42 ?_
        refine lv_goto (tgt := 50) hx hb dX8_plan_45 (by decide) ?_
        apply mm_sub4 hf
        exact mm_iret C0 hP hD hS dX8_plan_50
    · have hf := mm_ip hf (mm_b0 c_4)
      refine lv_iconst (v := -1) hx hb dX8_plan_24 (by decide) ?_
      apply mm_sub4 hf
      exact mm_iret C0 hP hD hS dX8_plan_25
  · have hf := mm_ip hf c_1
    refine lv_aload_n hx hb dX8_plan_4 rfl (lv_at hl 0 rfl) ?_
    refine mm_get C0 hP iw_X8 0 rfl rfl 3 (by decide) fl_X8_29 rfl dX8_plan_5 ?_
    refine lv_iconst (v := 0) hx hb dX8_plan_8 (by decide) ?_
    refine mm_put C0 hP hD hS iw_X3 tyX3 tyX3_ok nmX3 24 rfl rfl 0 (by decide) fl_X8_157 rfl rfl rfl (Nat.le_of_ble_eq_true rfl) dX8_plan_9 (w2 := (wd_X8 cI cL cS cH a v_hasImage v_now_rows v_now_cols v_now_high v_now_wide v_now_folds v_now_wrong v_now_more v_now_rowOf v_now_colOf v_now_below v_now_face v_now_worn v_now_last v_now_bend v_now_tall v_kept_rows v_kept_cols v_kept_high v_kept_wide v_kept_folds v_kept_wrong v_kept_more v_kept_rowOf v_kept_colOf v_kept_below v_kept_face v_kept_worn v_kept_last v_kept_bend v_kept_tall v_wearing_size v_wearing_stepCount v_wearing_draftCount v_wearing_place v_wearing_fault v_wearing_stacked v_wearing_tape v_wearing_steps v_wearing_draft v_wearing_stack (0 : Int32) v_planned_trial_rows v_planned_trial_cols v_planned_trial_high v_planned_trial_wide v_planned_trial_folds v_planned_trial_wrong v_planned_trial_more v_planned_trial_rowOf v_planned_trial_colOf v_planned_trial_below v_planned_trial_face v_planned_trial_worn v_planned_trial_last v_planned_trial_bend v_planned_trial_tall v_planned_lines v_planned_ways v_search_found v_search_wrong v_search_more v_search_folds v_search_wanted v_search_levels0_rows v_search_levels0_cols v_search_levels0_high v_search_levels0_wide v_search_levels0_folds v_search_levels0_wrong v_search_levels0_more v_search_levels0_rowOf v_search_levels0_colOf v_search_levels0_below v_search_levels0_face v_search_levels0_worn v_search_levels0_last v_search_levels0_bend v_search_levels0_tall v_search_levels1_rows v_search_levels1_cols v_search_levels1_high v_search_levels1_wide v_search_levels1_folds v_search_levels1_wrong v_search_levels1_more v_search_levels1_rowOf v_search_levels1_colOf v_search_levels1_below v_search_levels1_face v_search_levels1_worn v_search_levels1_last v_search_levels1_bend v_search_levels1_tall v_search_levels2_rows v_search_levels2_cols v_search_levels2_high v_search_levels2_wide v_search_levels2_folds v_search_levels2_wrong v_search_levels2_more v_search_levels2_rowOf v_search_levels2_colOf v_search_levels2_below v_search_levels2_face v_search_levels2_worn v_search_levels2_last v_search_levels2_bend v_search_levels2_tall v_search_levels3_rows v_search_levels3_cols v_search_levels3_high v_search_levels3_wide v_search_levels3_folds v_search_levels3_wrong v_search_levels3_more v_search_levels3_rowOf v_search_levels3_colOf v_search_levels3_below v_search_levels3_face v_search_levels3_worn v_search_levels3_last v_search_levels3_bend v_search_levels3_tall v_search_path v_search_best v_strip_list v_strip_found v_strip_at v_changes_value v_changes_done v_changes_size v_changes_before v_changes_after v_foldings_size v_foldings_ran v_foldings_number v_foldings_kinds v_foldings_trace v_shelves0_holds v_shelves0_body v_shelves0_sort v_shelves0_size v_shelves0_items v_shelves1_holds v_shelves1_body v_shelves1_sort v_shelves1_size v_shelves1_items v_shelves2_holds v_shelves2_body v_shelves2_sort v_shelves2_size v_shelves2_items v_shelves3_holds v_shelves3_body v_shelves3_sort v_shelves3_size v_shelves3_items v_shelves4_holds v_shelves4_body v_shelves4_sort v_shelves4_size v_shelves4_items v_shelves5_holds v_shelves5_body v_shelves5_sort v_shelves5_size v_shelves5_items)) rfl (fun H locs hP hD hS => ?_)
    refine lv_iconst (v := 0) hx hb dX8_plan_12 (by decide) ?_
    apply mm_sub4 hf
    exact mm_iret C0 hP hD hS dX8_plan_13

theorem dX8_isShelf_0 : decode cX8_isShelf 0 = .ok (.iload_n 0, 1) := by decide +kernel
theorem dX8_isShelf_1 : decode cX8_isShelf 1 = .ok (.ifCond .lt 13, 3) := by decide +kernel
theorem dX8_isShelf_4 : decode cX8_isShelf 4 = .ok (.iload_n 0, 1) := by decide +kernel
theorem dX8_isShelf_5 : decode cX8_isShelf 5 = .ok (.bipush 6, 2) := by decide +kernel
theorem dX8_isShelf_7 : decode cX8_isShelf 7 = .ok (.if_icmp .ge 7, 3) := by decide +kernel
theorem dX8_isShelf_10 : decode cX8_isShelf 10 = .ok (.iconst 1, 1) := by decide +kernel
theorem dX8_isShelf_11 : decode cX8_isShelf 11 = .ok (.goto 4, 3) := by decide +kernel
theorem dX8_isShelf_14 : decode cX8_isShelf 14 = .ok (.iconst 0, 1) := by decide +kernel
theorem dX8_isShelf_15 : decode cX8_isShelf 15 = .ok (.ireturn, 1) := by decide +kernel
def fX8_isShelf (N : Nat) (x0 : Int32) : Option (Bool) :=
    if x0 < 0 then
    (some (false))
    else (if (6 : Int32) ≤ x0 then
    (some (false))
    else (some (true)))

set_option maxHeartbeats 4000000 in
set_option maxRecDepth 100000 in
theorem ctX8_isShelf {l : Launch} {D : va_G} {cI cL cS cH : ClassId} {x0 : Int32}  {r : Bool} {N d : Nat} (hd : 1 ≤ d) (hf : fX8_isShelf N x0 = some r) : mm_Ct l yX8_isShelf cX8_isShelf 1 (some .boolean) d D (mm_T cI cL cS cH) [.int x0] ([] : va_W) ([] : va_W) (some (.int (mm_b r))) := by
  refine mm_of (by decide) (Nat.le_of_ble_eq_true rfl) ?_
  intro p e s m args below meth c A H locs ls C0 hP hD hA hS hl
  have C0 : mm_Cx p s m args meth c RX8 cX8_isShelf 1 (some .boolean) D (mm_T cI cL cS cH) A := C0
  obtain ⟨hx, hb, hml, hown, hts, hr, hlocks, hK, hSt⟩ := id C0
  have hl : lv_has ls 1 [(0, .int x0)] := hl
  unfold fX8_isShelf at hf
  refine lv_iload_n hx hb dX8_isShelf_0 rfl (lv_at hl 0 rfl) ?_
  refine lv_if_lt (tgt := 14) hx hb dX8_isShelf_1 (by decide) (fun c_1 => ?_) (fun c_1 => ?_)
  · have hf := mm_ip hf c_1
    refine lv_iconst (v := 0) hx hb dX8_isShelf_14 (by decide) ?_
    obtain rfl := mm_inj1 hf
    exact mm_zret (v := false) C0 hP hD hS dX8_isShelf_15 (by decide)
  · have hf := mm_in hf c_1
    refine lv_iload_n hx hb dX8_isShelf_4 rfl (lv_at hl 0 rfl) ?_
    refine lv_bipush (v := 6) hx hb dX8_isShelf_5 (by decide) ?_
    refine lv_icmp_ge (tgt := 14) hx hb dX8_isShelf_7 (by decide) (fun c_2 => ?_) (fun c_2 => ?_)
    · have hf := mm_ip hf c_2
      refine lv_iconst (v := 0) hx hb dX8_isShelf_14 (by decide) ?_
      obtain rfl := mm_inj1 hf
      exact mm_zret (v := false) C0 hP hD hS dX8_isShelf_15 (by decide)
    · have hf := mm_in hf c_2
      refine lv_iconst (v := 1) hx hb dX8_isShelf_10 (by decide) ?_
      refine lv_goto (tgt := 15) hx hb dX8_isShelf_11 (by decide) ?_
      obtain rfl := mm_inj1 hf
      exact mm_zret (v := true) C0 hP hD hS dX8_isShelf_15 (by decide)

theorem dX8_plans_0 : decode cX8_plans 0 = .ok (.iload_n 1, 1) := by decide +kernel
theorem dX8_plans_1 : decode cX8_plans 1 = .ok (.invokestatic 165, 3) := by decide +kernel
theorem dX8_plans_4 : decode cX8_plans 4 = .ok (.ifCond .eq 14, 3) := by decide +kernel
theorem dX8_plans_7 : decode cX8_plans 7 = .ok (.iload_n 3, 1) := by decide +kernel
theorem dX8_plans_8 : decode cX8_plans 8 = .ok (.iconst 1, 1) := by decide +kernel
theorem dX8_plans_9 : decode cX8_plans 9 = .ok (.if_icmp .lt 9, 3) := by decide +kernel
theorem dX8_plans_12 : decode cX8_plans 12 = .ok (.iload_n 3, 1) := by decide +kernel
theorem dX8_plans_13 : decode cX8_plans 13 = .ok (.bipush 12, 2) := by decide +kernel
theorem dX8_plans_15 : decode cX8_plans 15 = .ok (.if_icmp .le 5, 3) := by decide +kernel
theorem dX8_plans_18 : decode cX8_plans 18 = .ok (.iconst (-1), 1) := by decide +kernel
theorem dX8_plans_19 : decode cX8_plans 19 = .ok (.ireturn, 1) := by decide +kernel
theorem dX8_plans_20 : decode cX8_plans 20 = .ok (.aload_n 0, 1) := by decide +kernel
theorem dX8_plans_21 : decode cX8_plans 21 = .ok (.getfield 63, 3) := by decide +kernel
theorem dX8_plans_24 : decode cX8_plans 24 = .ok (.iload_n 1, 1) := by decide +kernel
theorem dX8_plans_25 : decode cX8_plans 25 = .ok (.aaload, 1) := by decide +kernel
theorem dX8_plans_26 : decode cX8_plans 26 = .ok (.astore 4, 2) := by decide +kernel
theorem dX8_plans_28 : decode cX8_plans 28 = .ok (.aload 4, 2) := by decide +kernel
theorem dX8_plans_30 : decode cX8_plans 30 = .ok (.getfield 168, 3) := by decide +kernel
theorem dX8_plans_33 : decode cX8_plans 33 = .ok (.ifCond .ne 5, 3) := by decide +kernel
theorem dX8_plans_36 : decode cX8_plans 36 = .ok (.iconst 0, 1) := by decide +kernel
theorem dX8_plans_37 : decode cX8_plans 37 = .ok (.ireturn, 1) := by decide +kernel
theorem dX8_plans_38 : decode cX8_plans 38 = .ok (.aload 4, 2) := by decide +kernel
theorem dX8_plans_40 : decode cX8_plans 40 = .ok (.getfield 168, 3) := by decide +kernel
theorem dX8_plans_43 : decode cX8_plans 43 = .ok (.iconst 2, 1) := by decide +kernel
theorem dX8_plans_44 : decode cX8_plans 44 = .ok (.if_icmp .ne 11, 3) := by decide +kernel
theorem dX8_plans_47 : decode cX8_plans 47 = .ok (.aload 4, 2) := by decide +kernel
theorem dX8_plans_49 : decode cX8_plans 49 = .ok (.getfield 171, 3) := by decide +kernel
theorem dX8_plans_52 : decode cX8_plans 52 = .ok (.ifCond .eq 6, 3) := by decide +kernel
theorem dX8_plans_55 : decode cX8_plans 55 = .ok (.bipush (-12), 2) := by decide +kernel
theorem dX8_plans_57 : decode cX8_plans 57 = .ok (.ireturn, 1) := by decide +kernel
theorem dX8_plans_58 : decode cX8_plans 58 = .ok (.iload_n 2, 1) := by decide +kernel
theorem dX8_plans_59 : decode cX8_plans 59 = .ok (.ifCond .ge 7, 3) := by decide +kernel
theorem dX8_plans_62 : decode cX8_plans 62 = .ok (.iconst 0, 1) := by decide +kernel
theorem dX8_plans_63 : decode cX8_plans 63 = .ok (.goto 14, 3) := by decide +kernel
theorem dX8_plans_66 : decode cX8_plans 66 = .ok (.aload_n 0, 1) := by decide +kernel
theorem dX8_plans_67 : decode cX8_plans 67 = .ok (.getfield 29, 3) := by decide +kernel
theorem dX8_plans_70 : decode cX8_plans 70 = .ok (.aload 4, 2) := by decide +kernel
theorem dX8_plans_72 : decode cX8_plans 72 = .ok (.iload_n 2, 1) := by decide +kernel
theorem dX8_plans_73 : decode cX8_plans 73 = .ok (.iload_n 3, 1) := by decide +kernel
theorem dX8_plans_74 : decode cX8_plans 74 = .ok (.invokevirtual 174, 3) := by decide +kernel
theorem dX8_plans_77 : decode cX8_plans 77 = .ok (.ireturn, 1) := by decide +kernel
def fX8_plans (N : Nat) (x1 : Int32) (x2 : Int32) (x3 : Int32) (v_planned_size : Int32) (v_planned_lines : List Int32) (v_planned_ways : List Int32) (v_shelves0_holds : Int32) (v_shelves0_sort : Int32) (v_shelves0_size : Int32) (v_shelves0_items : List Int64) (v_shelves1_holds : Int32) (v_shelves1_sort : Int32) (v_shelves1_size : Int32) (v_shelves1_items : List Int64) (v_shelves2_holds : Int32) (v_shelves2_sort : Int32) (v_shelves2_size : Int32) (v_shelves2_items : List Int64) (v_shelves3_holds : Int32) (v_shelves3_sort : Int32) (v_shelves3_size : Int32) (v_shelves3_items : List Int64) (v_shelves4_holds : Int32) (v_shelves4_sort : Int32) (v_shelves4_size : Int32) (v_shelves4_items : List Int64) (v_shelves5_holds : Int32) (v_shelves5_sort : Int32) (v_shelves5_size : Int32) (v_shelves5_items : List Int64) : Option (Int32 × Int32 × List Int32 × List Int32) :=
    mm_bd1 (fX8_isShelf N x1) (fun (r_1 : Bool) =>
    if r_1 = false then
    (some ((-1 : Int32), v_planned_size, v_planned_lines, v_planned_ways))
    else (if x3 < (1 : Int32) then
    (some ((-1 : Int32), v_planned_size, v_planned_lines, v_planned_ways))
    else (if x3 ≤ (12 : Int32) then
    (if x1 = (0 : Int32) then
    (if v_shelves0_holds = 0 then
    (some ((0 : Int32), v_planned_size, v_planned_lines, v_planned_ways))
    else (if v_shelves0_holds = (2 : Int32) then
    (if v_shelves0_sort = 0 then
    (if 0 ≤ x2 then
    (mm_bd4 (fX3_appendFrom N x2 x3 v_planned_size v_planned_lines v_planned_ways v_shelves0_size v_shelves0_items) (fun (r_11 : Int32) (w_12 : Int32) (w_13 : List Int32) (w_14 : List Int32) =>
    some (r_11, w_12, w_13, w_14)))
    else (some ((0 : Int32), v_planned_size, v_planned_lines, v_planned_ways)))
    else (some ((-12 : Int32), v_planned_size, v_planned_lines, v_planned_ways)))
    else (some ((-12 : Int32), v_planned_size, v_planned_lines, v_planned_ways))))
    else (if x1 = (1 : Int32) then
    (if v_shelves1_holds = 0 then
    (some ((0 : Int32), v_planned_size, v_planned_lines, v_planned_ways))
    else (if v_shelves1_holds = (2 : Int32) then
    (if v_shelves1_sort = 0 then
    (if 0 ≤ x2 then
    (mm_bd4 (fX3_appendFrom N x2 x3 v_planned_size v_planned_lines v_planned_ways v_shelves1_size v_shelves1_items) (fun (r_21 : Int32) (w_22 : Int32) (w_23 : List Int32) (w_24 : List Int32) =>
    some (r_21, w_22, w_23, w_24)))
    else (some ((0 : Int32), v_planned_size, v_planned_lines, v_planned_ways)))
    else (some ((-12 : Int32), v_planned_size, v_planned_lines, v_planned_ways)))
    else (some ((-12 : Int32), v_planned_size, v_planned_lines, v_planned_ways))))
    else (if x1 = (2 : Int32) then
    (if v_shelves2_holds = 0 then
    (some ((0 : Int32), v_planned_size, v_planned_lines, v_planned_ways))
    else (if v_shelves2_holds = (2 : Int32) then
    (if v_shelves2_sort = 0 then
    (if 0 ≤ x2 then
    (mm_bd4 (fX3_appendFrom N x2 x3 v_planned_size v_planned_lines v_planned_ways v_shelves2_size v_shelves2_items) (fun (r_31 : Int32) (w_32 : Int32) (w_33 : List Int32) (w_34 : List Int32) =>
    some (r_31, w_32, w_33, w_34)))
    else (some ((0 : Int32), v_planned_size, v_planned_lines, v_planned_ways)))
    else (some ((-12 : Int32), v_planned_size, v_planned_lines, v_planned_ways)))
    else (some ((-12 : Int32), v_planned_size, v_planned_lines, v_planned_ways))))
    else (if x1 = (3 : Int32) then
    (if v_shelves3_holds = 0 then
    (some ((0 : Int32), v_planned_size, v_planned_lines, v_planned_ways))
    else (if v_shelves3_holds = (2 : Int32) then
    (if v_shelves3_sort = 0 then
    (if 0 ≤ x2 then
    (mm_bd4 (fX3_appendFrom N x2 x3 v_planned_size v_planned_lines v_planned_ways v_shelves3_size v_shelves3_items) (fun (r_41 : Int32) (w_42 : Int32) (w_43 : List Int32) (w_44 : List Int32) =>
    some (r_41, w_42, w_43, w_44)))
    else (some ((0 : Int32), v_planned_size, v_planned_lines, v_planned_ways)))
    else (some ((-12 : Int32), v_planned_size, v_planned_lines, v_planned_ways)))
    else (some ((-12 : Int32), v_planned_size, v_planned_lines, v_planned_ways))))
    else (if x1 = (4 : Int32) then
    (if v_shelves4_holds = 0 then
    (some ((0 : Int32), v_planned_size, v_planned_lines, v_planned_ways))
    else (if v_shelves4_holds = (2 : Int32) then
    (if v_shelves4_sort = 0 then
    (if 0 ≤ x2 then
    (mm_bd4 (fX3_appendFrom N x2 x3 v_planned_size v_planned_lines v_planned_ways v_shelves4_size v_shelves4_items) (fun (r_51 : Int32) (w_52 : Int32) (w_53 : List Int32) (w_54 : List Int32) =>
    some (r_51, w_52, w_53, w_54)))
    else (some ((0 : Int32), v_planned_size, v_planned_lines, v_planned_ways)))
    else (some ((-12 : Int32), v_planned_size, v_planned_lines, v_planned_ways)))
    else (some ((-12 : Int32), v_planned_size, v_planned_lines, v_planned_ways))))
    else (if x1 = (5 : Int32) then
    (if v_shelves5_holds = 0 then
    (some ((0 : Int32), v_planned_size, v_planned_lines, v_planned_ways))
    else (if v_shelves5_holds = (2 : Int32) then
    (if v_shelves5_sort = 0 then
    (if 0 ≤ x2 then
    (mm_bd4 (fX3_appendFrom N x2 x3 v_planned_size v_planned_lines v_planned_ways v_shelves5_size v_shelves5_items) (fun (r_61 : Int32) (w_62 : Int32) (w_63 : List Int32) (w_64 : List Int32) =>
    some (r_61, w_62, w_63, w_64)))
    else (some ((0 : Int32), v_planned_size, v_planned_lines, v_planned_ways)))
    else (some ((-12 : Int32), v_planned_size, v_planned_lines, v_planned_ways)))
    else (some ((-12 : Int32), v_planned_size, v_planned_lines, v_planned_ways))))
    else (none)))))))
    else (some ((-1 : Int32), v_planned_size, v_planned_lines, v_planned_ways)))))

set_option maxHeartbeats 4000000 in
set_option maxRecDepth 100000 in
theorem ctX8_plans {l : Launch} {D : va_G} {cI cL cS cH : ClassId} {a : Nat → Nat} {x1 : Int32} {x2 : Int32} {x3 : Int32} {v_hasImage : Bool} {v_now_rows : Int32} {v_now_cols : Int32} {v_now_high : Int32} {v_now_wide : Int32} {v_now_folds : Int32} {v_now_wrong : Int32} {v_now_more : Int32} {v_now_rowOf : List Int32} {v_now_colOf : List Int32} {v_now_below : List Int32} {v_now_face : List Int32} {v_now_worn : List Int32} {v_now_last : List Int32} {v_now_bend : List Int32} {v_now_tall : List Int32} {v_kept_rows : Int32} {v_kept_cols : Int32} {v_kept_high : Int32} {v_kept_wide : Int32} {v_kept_folds : Int32} {v_kept_wrong : Int32} {v_kept_more : Int32} {v_kept_rowOf : List Int32} {v_kept_colOf : List Int32} {v_kept_below : List Int32} {v_kept_face : List Int32} {v_kept_worn : List Int32} {v_kept_last : List Int32} {v_kept_bend : List Int32} {v_kept_tall : List Int32} {v_wearing_size : Int32} {v_wearing_stepCount : Int32} {v_wearing_draftCount : Int32} {v_wearing_place : Int32} {v_wearing_fault : Int32} {v_wearing_stacked : Int32} {v_wearing_tape : List Int32} {v_wearing_steps : List Int32} {v_wearing_draft : List Int32} {v_wearing_stack : List Int32} {v_planned_size : Int32} {v_planned_trial_rows : Int32} {v_planned_trial_cols : Int32} {v_planned_trial_high : Int32} {v_planned_trial_wide : Int32} {v_planned_trial_folds : Int32} {v_planned_trial_wrong : Int32} {v_planned_trial_more : Int32} {v_planned_trial_rowOf : List Int32} {v_planned_trial_colOf : List Int32} {v_planned_trial_below : List Int32} {v_planned_trial_face : List Int32} {v_planned_trial_worn : List Int32} {v_planned_trial_last : List Int32} {v_planned_trial_bend : List Int32} {v_planned_trial_tall : List Int32} {v_planned_lines : List Int32} {v_planned_ways : List Int32} {v_search_found : Bool} {v_search_wrong : Int32} {v_search_more : Int32} {v_search_folds : Int32} {v_search_wanted : Int32} {v_search_levels0_rows : Int32} {v_search_levels0_cols : Int32} {v_search_levels0_high : Int32} {v_search_levels0_wide : Int32} {v_search_levels0_folds : Int32} {v_search_levels0_wrong : Int32} {v_search_levels0_more : Int32} {v_search_levels0_rowOf : List Int32} {v_search_levels0_colOf : List Int32} {v_search_levels0_below : List Int32} {v_search_levels0_face : List Int32} {v_search_levels0_worn : List Int32} {v_search_levels0_last : List Int32} {v_search_levels0_bend : List Int32} {v_search_levels0_tall : List Int32} {v_search_levels1_rows : Int32} {v_search_levels1_cols : Int32} {v_search_levels1_high : Int32} {v_search_levels1_wide : Int32} {v_search_levels1_folds : Int32} {v_search_levels1_wrong : Int32} {v_search_levels1_more : Int32} {v_search_levels1_rowOf : List Int32} {v_search_levels1_colOf : List Int32} {v_search_levels1_below : List Int32} {v_search_levels1_face : List Int32} {v_search_levels1_worn : List Int32} {v_search_levels1_last : List Int32} {v_search_levels1_bend : List Int32} {v_search_levels1_tall : List Int32} {v_search_levels2_rows : Int32} {v_search_levels2_cols : Int32} {v_search_levels2_high : Int32} {v_search_levels2_wide : Int32} {v_search_levels2_folds : Int32} {v_search_levels2_wrong : Int32} {v_search_levels2_more : Int32} {v_search_levels2_rowOf : List Int32} {v_search_levels2_colOf : List Int32} {v_search_levels2_below : List Int32} {v_search_levels2_face : List Int32} {v_search_levels2_worn : List Int32} {v_search_levels2_last : List Int32} {v_search_levels2_bend : List Int32} {v_search_levels2_tall : List Int32} {v_search_levels3_rows : Int32} {v_search_levels3_cols : Int32} {v_search_levels3_high : Int32} {v_search_levels3_wide : Int32} {v_search_levels3_folds : Int32} {v_search_levels3_wrong : Int32} {v_search_levels3_more : Int32} {v_search_levels3_rowOf : List Int32} {v_search_levels3_colOf : List Int32} {v_search_levels3_below : List Int32} {v_search_levels3_face : List Int32} {v_search_levels3_worn : List Int32} {v_search_levels3_last : List Int32} {v_search_levels3_bend : List Int32} {v_search_levels3_tall : List Int32} {v_search_path : List Int32} {v_search_best : List Int32} {v_strip_list : List Int32} {v_strip_found : List Int32} {v_strip_at : List Int32} {v_changes_value : Int32} {v_changes_done : Int32} {v_changes_size : Int32} {v_changes_before : List Int32} {v_changes_after : List Int32} {v_foldings_size : Int32} {v_foldings_ran : Int32} {v_foldings_number : Int32} {v_foldings_kinds : List Int32} {v_foldings_trace : List Int32} {v_shelves0_holds : Int32} {v_shelves0_body : Int32} {v_shelves0_sort : Int32} {v_shelves0_size : Int32} {v_shelves0_items : List Int64} {v_shelves1_holds : Int32} {v_shelves1_body : Int32} {v_shelves1_sort : Int32} {v_shelves1_size : Int32} {v_shelves1_items : List Int64} {v_shelves2_holds : Int32} {v_shelves2_body : Int32} {v_shelves2_sort : Int32} {v_shelves2_size : Int32} {v_shelves2_items : List Int64} {v_shelves3_holds : Int32} {v_shelves3_body : Int32} {v_shelves3_sort : Int32} {v_shelves3_size : Int32} {v_shelves3_items : List Int64} {v_shelves4_holds : Int32} {v_shelves4_body : Int32} {v_shelves4_sort : Int32} {v_shelves4_size : Int32} {v_shelves4_items : List Int64} {v_shelves5_holds : Int32} {v_shelves5_body : Int32} {v_shelves5_sort : Int32} {v_shelves5_size : Int32} {v_shelves5_items : List Int64} {r : Int32} {w_planned_size : Int32} {w_planned_lines : List Int32} {w_planned_ways : List Int32} {N d : Nat} (hd : 3 ≤ d) (hf : fX8_plans N x1 x2 x3 v_planned_size v_planned_lines v_planned_ways v_shelves0_holds v_shelves0_sort v_shelves0_size v_shelves0_items v_shelves1_holds v_shelves1_sort v_shelves1_size v_shelves1_items v_shelves2_holds v_shelves2_sort v_shelves2_size v_shelves2_items v_shelves3_holds v_shelves3_sort v_shelves3_size v_shelves3_items v_shelves4_holds v_shelves4_sort v_shelves4_size v_shelves4_items v_shelves5_holds v_shelves5_sort v_shelves5_size v_shelves5_items = some (r, w_planned_size, w_planned_lines, w_planned_ways)) : mm_Ct l yX8_plans cX8_plans 5 (some .int) d D (mm_T cI cL cS cH) [.ref (a 0), .int x1, .int x2, .int x3] (wd_X8 cI cL cS cH a v_hasImage v_now_rows v_now_cols v_now_high v_now_wide v_now_folds v_now_wrong v_now_more v_now_rowOf v_now_colOf v_now_below v_now_face v_now_worn v_now_last v_now_bend v_now_tall v_kept_rows v_kept_cols v_kept_high v_kept_wide v_kept_folds v_kept_wrong v_kept_more v_kept_rowOf v_kept_colOf v_kept_below v_kept_face v_kept_worn v_kept_last v_kept_bend v_kept_tall v_wearing_size v_wearing_stepCount v_wearing_draftCount v_wearing_place v_wearing_fault v_wearing_stacked v_wearing_tape v_wearing_steps v_wearing_draft v_wearing_stack v_planned_size v_planned_trial_rows v_planned_trial_cols v_planned_trial_high v_planned_trial_wide v_planned_trial_folds v_planned_trial_wrong v_planned_trial_more v_planned_trial_rowOf v_planned_trial_colOf v_planned_trial_below v_planned_trial_face v_planned_trial_worn v_planned_trial_last v_planned_trial_bend v_planned_trial_tall v_planned_lines v_planned_ways v_search_found v_search_wrong v_search_more v_search_folds v_search_wanted v_search_levels0_rows v_search_levels0_cols v_search_levels0_high v_search_levels0_wide v_search_levels0_folds v_search_levels0_wrong v_search_levels0_more v_search_levels0_rowOf v_search_levels0_colOf v_search_levels0_below v_search_levels0_face v_search_levels0_worn v_search_levels0_last v_search_levels0_bend v_search_levels0_tall v_search_levels1_rows v_search_levels1_cols v_search_levels1_high v_search_levels1_wide v_search_levels1_folds v_search_levels1_wrong v_search_levels1_more v_search_levels1_rowOf v_search_levels1_colOf v_search_levels1_below v_search_levels1_face v_search_levels1_worn v_search_levels1_last v_search_levels1_bend v_search_levels1_tall v_search_levels2_rows v_search_levels2_cols v_search_levels2_high v_search_levels2_wide v_search_levels2_folds v_search_levels2_wrong v_search_levels2_more v_search_levels2_rowOf v_search_levels2_colOf v_search_levels2_below v_search_levels2_face v_search_levels2_worn v_search_levels2_last v_search_levels2_bend v_search_levels2_tall v_search_levels3_rows v_search_levels3_cols v_search_levels3_high v_search_levels3_wide v_search_levels3_folds v_search_levels3_wrong v_search_levels3_more v_search_levels3_rowOf v_search_levels3_colOf v_search_levels3_below v_search_levels3_face v_search_levels3_worn v_search_levels3_last v_search_levels3_bend v_search_levels3_tall v_search_path v_search_best v_strip_list v_strip_found v_strip_at v_changes_value v_changes_done v_changes_size v_changes_before v_changes_after v_foldings_size v_foldings_ran v_foldings_number v_foldings_kinds v_foldings_trace v_shelves0_holds v_shelves0_body v_shelves0_sort v_shelves0_size v_shelves0_items v_shelves1_holds v_shelves1_body v_shelves1_sort v_shelves1_size v_shelves1_items v_shelves2_holds v_shelves2_body v_shelves2_sort v_shelves2_size v_shelves2_items v_shelves3_holds v_shelves3_body v_shelves3_sort v_shelves3_size v_shelves3_items v_shelves4_holds v_shelves4_body v_shelves4_sort v_shelves4_size v_shelves4_items v_shelves5_holds v_shelves5_body v_shelves5_sort v_shelves5_size v_shelves5_items) (wd_X8 cI cL cS cH a v_hasImage v_now_rows v_now_cols v_now_high v_now_wide v_now_folds v_now_wrong v_now_more v_now_rowOf v_now_colOf v_now_below v_now_face v_now_worn v_now_last v_now_bend v_now_tall v_kept_rows v_kept_cols v_kept_high v_kept_wide v_kept_folds v_kept_wrong v_kept_more v_kept_rowOf v_kept_colOf v_kept_below v_kept_face v_kept_worn v_kept_last v_kept_bend v_kept_tall v_wearing_size v_wearing_stepCount v_wearing_draftCount v_wearing_place v_wearing_fault v_wearing_stacked v_wearing_tape v_wearing_steps v_wearing_draft v_wearing_stack w_planned_size v_planned_trial_rows v_planned_trial_cols v_planned_trial_high v_planned_trial_wide v_planned_trial_folds v_planned_trial_wrong v_planned_trial_more v_planned_trial_rowOf v_planned_trial_colOf v_planned_trial_below v_planned_trial_face v_planned_trial_worn v_planned_trial_last v_planned_trial_bend v_planned_trial_tall w_planned_lines w_planned_ways v_search_found v_search_wrong v_search_more v_search_folds v_search_wanted v_search_levels0_rows v_search_levels0_cols v_search_levels0_high v_search_levels0_wide v_search_levels0_folds v_search_levels0_wrong v_search_levels0_more v_search_levels0_rowOf v_search_levels0_colOf v_search_levels0_below v_search_levels0_face v_search_levels0_worn v_search_levels0_last v_search_levels0_bend v_search_levels0_tall v_search_levels1_rows v_search_levels1_cols v_search_levels1_high v_search_levels1_wide v_search_levels1_folds v_search_levels1_wrong v_search_levels1_more v_search_levels1_rowOf v_search_levels1_colOf v_search_levels1_below v_search_levels1_face v_search_levels1_worn v_search_levels1_last v_search_levels1_bend v_search_levels1_tall v_search_levels2_rows v_search_levels2_cols v_search_levels2_high v_search_levels2_wide v_search_levels2_folds v_search_levels2_wrong v_search_levels2_more v_search_levels2_rowOf v_search_levels2_colOf v_search_levels2_below v_search_levels2_face v_search_levels2_worn v_search_levels2_last v_search_levels2_bend v_search_levels2_tall v_search_levels3_rows v_search_levels3_cols v_search_levels3_high v_search_levels3_wide v_search_levels3_folds v_search_levels3_wrong v_search_levels3_more v_search_levels3_rowOf v_search_levels3_colOf v_search_levels3_below v_search_levels3_face v_search_levels3_worn v_search_levels3_last v_search_levels3_bend v_search_levels3_tall v_search_path v_search_best v_strip_list v_strip_found v_strip_at v_changes_value v_changes_done v_changes_size v_changes_before v_changes_after v_foldings_size v_foldings_ran v_foldings_number v_foldings_kinds v_foldings_trace v_shelves0_holds v_shelves0_body v_shelves0_sort v_shelves0_size v_shelves0_items v_shelves1_holds v_shelves1_body v_shelves1_sort v_shelves1_size v_shelves1_items v_shelves2_holds v_shelves2_body v_shelves2_sort v_shelves2_size v_shelves2_items v_shelves3_holds v_shelves3_body v_shelves3_sort v_shelves3_size v_shelves3_items v_shelves4_holds v_shelves4_body v_shelves4_sort v_shelves4_size v_shelves4_items v_shelves5_holds v_shelves5_body v_shelves5_sort v_shelves5_size v_shelves5_items) (some (.int r)) := by
  refine mm_of (by decide) (Nat.le_of_ble_eq_true rfl) ?_
  intro p e s m args below meth c A H locs ls C0 hP hD hA hS hl
  have C0 : mm_Cx p s m args meth c RX8 cX8_plans 5 (some .int) D (mm_T cI cL cS cH) A := C0
  obtain ⟨hx, hb, hml, hown, hts, hr, hlocks, hK, hSt⟩ := id C0
  have hl : lv_has ls 5 [(0, .ref (a 0)), (1, .int x1), (2, .int x2), (3, .int x3)] := hl
  unfold fX8_plans at hf
  refine lv_iload_n hx hb dX8_plans_0 rfl (lv_at hl 1 rfl) ?_
  obtain ⟨r_1, hc_2, hf⟩ := mm_bd1s hf
  refine mm_callS0 (rest := []) C0 lk_X8_165 (ctX8_isShelf (d := d - 1) (by omega) hc_2) (by omega) rfl hl.1 rfl (mm_cat rfl) dX8_plans_1 hP hD hA hS (fun H locs hP hS => ?_)
  refine W.eq (g2 := F0 m 4 ls [.int (mm_b r_1)]) rfl ?_
  refine lv_if_eq (tgt := 18) hx hb dX8_plans_4 (by decide) (fun c_3 => ?_) (fun c_3 => ?_)
  · have hf := mm_ip hf (mm_b0 c_3)
    refine lv_iconst (v := -1) hx hb dX8_plans_18 (by decide) ?_
    apply mm_sub4 hf
    exact mm_iret C0 hP hD hS dX8_plans_19
  · have hf := mm_in hf (mm_b1 c_3)
    refine lv_iload_n hx hb dX8_plans_7 rfl (lv_at hl 3 rfl) ?_
    refine lv_iconst (v := 1) hx hb dX8_plans_8 (by decide) ?_
    refine lv_icmp_lt (tgt := 18) hx hb dX8_plans_9 (by decide) (fun c_4 => ?_) (fun c_4 => ?_)
    · have hf := mm_ip hf c_4
      refine lv_iconst (v := -1) hx hb dX8_plans_18 (by decide) ?_
      apply mm_sub4 hf
      exact mm_iret C0 hP hD hS dX8_plans_19
    · have hf := mm_in hf c_4
      refine lv_iload_n hx hb dX8_plans_12 rfl (lv_at hl 3 rfl) ?_
      refine lv_bipush (v := 12) hx hb dX8_plans_13 (by decide) ?_
      refine lv_icmp_le (tgt := 20) hx hb dX8_plans_15 (by decide) (fun c_5 => ?_) (fun c_5 => ?_)
      · have hf := mm_ip hf c_5
        refine lv_aload_n hx hb dX8_plans_20 rfl (lv_at hl 0 rfl) ?_
        refine mm_get C0 hP iw_X8 0 rfl rfl 8 (by decide) fl_X8_63 rfl dX8_plans_21 ?_
        refine lv_iload_n hx hb dX8_plans_24 rfl (lv_at hl 1 rfl) ?_
        by_cases c_6 : x1 = (0 : Int32)
        · have hf := mm_ip hf c_6
          refine mm_aald 3 rfl C0 hP 86 rfl (b := a 87) (by rw [c_6]; rfl) (by rw [c_6]; rfl) dX8_plans_25 ?_
          refine lv_astore (lv' := [(4, .ref (a 87)), (0, .ref (a 0)), (1, .int x1), (2, .int x2), (3, .int x3)]) hx hb dX8_plans_26 hl (by decide) rfl (fun ls hl => ?_)
          refine lv_aload hx hb dX8_plans_28 (lv_at hl 0 rfl) ?_
          refine mm_get C0 hP iw_X6 87 rfl rfl 0 (by decide) fl_X8_168 rfl dX8_plans_30 ?_
          refine lv_if_ne (tgt := 38) hx hb dX8_plans_33 (by decide) (fun c_7 => ?_) (fun c_7 => ?_)
          · have hf := mm_in hf c_7
            refine lv_aload hx hb dX8_plans_38 (lv_at hl 0 rfl) ?_
            refine mm_get C0 hP iw_X6 87 rfl rfl 0 (by decide) fl_X8_168 rfl dX8_plans_40 ?_
            refine lv_iconst (v := 2) hx hb dX8_plans_43 (by decide) ?_
            refine lv_icmp_ne (tgt := 55) hx hb dX8_plans_44 (by decide) (fun c_8 => ?_) (fun c_8 => ?_)
            · have hf := mm_in hf c_8
              refine lv_bipush (v := -12) hx hb dX8_plans_55 (by decide) ?_
              apply mm_sub4 hf
              exact mm_iret C0 hP hD hS dX8_plans_57
            · have hf := mm_ip hf c_8
              refine lv_aload hx hb dX8_plans_47 (lv_at hl 0 rfl) ?_
              refine mm_get C0 hP iw_X6 87 rfl rfl 2 (by decide) fl_X8_171 rfl dX8_plans_49 ?_
              refine lv_if_eq (tgt := 58) hx hb dX8_plans_52 (by decide) (fun c_9 => ?_) (fun c_9 => ?_)
              · have hf := mm_ip hf c_9
                refine lv_iload_n hx hb dX8_plans_58 rfl (lv_at hl 3 rfl) ?_
                refine lv_if_ge (tgt := 66) hx hb dX8_plans_59 (by decide) (fun c_10 => ?_) (fun c_10 => ?_)
                · have hf := mm_ip hf c_10
                  refine lv_aload_n hx hb dX8_plans_66 rfl (lv_at hl 1 rfl) ?_
                  refine mm_get C0 hP iw_X8 0 rfl rfl 3 (by decide) fl_X8_29 rfl dX8_plans_67 ?_
                  refine lv_aload hx hb dX8_plans_70 (lv_at hl 0 rfl) ?_
                  refine lv_iload_n hx hb dX8_plans_72 rfl (lv_at hl 3 rfl) ?_
                  refine lv_iload_n hx hb dX8_plans_73 rfl (lv_at hl 4 rfl) ?_
                  obtain ⟨r_11, w_12, w_13, w_14, hc_15, hf⟩ := mm_bd4s hf
                  refine mm_callW (q0 := 24) (ci := 3) (w2 := (wd_X8 cI cL cS cH a v_hasImage v_now_rows v_now_cols v_now_high v_now_wide v_now_folds v_now_wrong v_now_more v_now_rowOf v_now_colOf v_now_below v_now_face v_now_worn v_now_last v_now_bend v_now_tall v_kept_rows v_kept_cols v_kept_high v_kept_wide v_kept_folds v_kept_wrong v_kept_more v_kept_rowOf v_kept_colOf v_kept_below v_kept_face v_kept_worn v_kept_last v_kept_bend v_kept_tall v_wearing_size v_wearing_stepCount v_wearing_draftCount v_wearing_place v_wearing_fault v_wearing_stacked v_wearing_tape v_wearing_steps v_wearing_draft v_wearing_stack w_12 v_planned_trial_rows v_planned_trial_cols v_planned_trial_high v_planned_trial_wide v_planned_trial_folds v_planned_trial_wrong v_planned_trial_more v_planned_trial_rowOf v_planned_trial_colOf v_planned_trial_below v_planned_trial_face v_planned_trial_worn v_planned_trial_last v_planned_trial_bend v_planned_trial_tall w_13 w_14 v_search_found v_search_wrong v_search_more v_search_folds v_search_wanted v_search_levels0_rows v_search_levels0_cols v_search_levels0_high v_search_levels0_wide v_search_levels0_folds v_search_levels0_wrong v_search_levels0_more v_search_levels0_rowOf v_search_levels0_colOf v_search_levels0_below v_search_levels0_face v_search_levels0_worn v_search_levels0_last v_search_levels0_bend v_search_levels0_tall v_search_levels1_rows v_search_levels1_cols v_search_levels1_high v_search_levels1_wide v_search_levels1_folds v_search_levels1_wrong v_search_levels1_more v_search_levels1_rowOf v_search_levels1_colOf v_search_levels1_below v_search_levels1_face v_search_levels1_worn v_search_levels1_last v_search_levels1_bend v_search_levels1_tall v_search_levels2_rows v_search_levels2_cols v_search_levels2_high v_search_levels2_wide v_search_levels2_folds v_search_levels2_wrong v_search_levels2_more v_search_levels2_rowOf v_search_levels2_colOf v_search_levels2_below v_search_levels2_face v_search_levels2_worn v_search_levels2_last v_search_levels2_bend v_search_levels2_tall v_search_levels3_rows v_search_levels3_cols v_search_levels3_high v_search_levels3_wide v_search_levels3_folds v_search_levels3_wrong v_search_levels3_more v_search_levels3_rowOf v_search_levels3_colOf v_search_levels3_below v_search_levels3_face v_search_levels3_worn v_search_levels3_last v_search_levels3_bend v_search_levels3_tall v_search_path v_search_best v_strip_list v_strip_found v_strip_at v_changes_value v_changes_done v_changes_size v_changes_before v_changes_after v_foldings_size v_foldings_ran v_foldings_number v_foldings_kinds v_foldings_trace v_shelves0_holds v_shelves0_body v_shelves0_sort v_shelves0_size v_shelves0_items v_shelves1_holds v_shelves1_body v_shelves1_sort v_shelves1_size v_shelves1_items v_shelves2_holds v_shelves2_body v_shelves2_sort v_shelves2_size v_shelves2_items v_shelves3_holds v_shelves3_body v_shelves3_sort v_shelves3_size v_shelves3_items v_shelves4_holds v_shelves4_body v_shelves4_sort v_shelves4_size v_shelves4_items v_shelves5_holds v_shelves5_body v_shelves5_sort v_shelves5_size v_shelves5_items)) (rest := []) C0 lk_X8_174 (ctX3_appendFrom (a := (fun k => a ([24, 25, 26, 27, 28, 29, 30, 31, 32, 33, 34, 35, 87, 88].getD k 0))) (d := d - 1) (by omega) hc_15) (by omega) rfl hl.1 rfl (mm_cat rfl) dX8_plans_74 hP hD hA hS rfl rfl [false, false, false, false, false, false, false, false, false, false, false, false, false, false, false, false, false, false, false, false, false, false, false, false, true, true, true, true, true, true, true, true, true, true, true, true, false, false, false, false, false, false, false, false, false, false, false, false, false, false, false, false, false, false, false, false, false, false, false, false, false, false, false, false, false, false, false, false, false, false, false, false, false, false, false, false, false, false, false, false, false, false, false, false, false, false, false, true, true, false, false, false, false, false, false, false, false, false, false] rfl rfl rfl rfl (fun H locs hP hD hS => ?_)
                  refine W.eq (g2 := F0 m 77 ls [.int r_11]) rfl ?_
                  apply mm_sub4 hf
                  exact mm_iret C0 hP hD hS dX8_plans_77
                · have hf := mm_in hf c_10
                  refine lv_iconst (v := 0) hx hb dX8_plans_62 (by decide) ?_
                  refine lv_goto (tgt := 77) hx hb dX8_plans_63 (by decide) ?_
                  apply mm_sub4 hf
                  exact mm_iret C0 hP hD hS dX8_plans_77
              · have hf := mm_in hf c_9
                refine lv_bipush (v := -12) hx hb dX8_plans_55 (by decide) ?_
                apply mm_sub4 hf
                exact mm_iret C0 hP hD hS dX8_plans_57
          · have hf := mm_ip hf c_7
            refine lv_iconst (v := 0) hx hb dX8_plans_36 (by decide) ?_
            apply mm_sub4 hf
            exact mm_iret C0 hP hD hS dX8_plans_37
        · have hf := mm_in hf c_6
          by_cases c_16 : x1 = (1 : Int32)
          · have hf := mm_ip hf c_16
            refine mm_aald 3 rfl C0 hP 86 rfl (b := a 89) (by rw [c_16]; rfl) (by rw [c_16]; rfl) dX8_plans_25 ?_
            refine lv_astore (lv' := [(4, .ref (a 89)), (0, .ref (a 0)), (1, .int x1), (2, .int x2), (3, .int x3)]) hx hb dX8_plans_26 hl (by decide) rfl (fun ls hl => ?_)
            refine lv_aload hx hb dX8_plans_28 (lv_at hl 0 rfl) ?_
            refine mm_get C0 hP iw_X6 89 rfl rfl 0 (by decide) fl_X8_168 rfl dX8_plans_30 ?_
            refine lv_if_ne (tgt := 38) hx hb dX8_plans_33 (by decide) (fun c_17 => ?_) (fun c_17 => ?_)
            · have hf := mm_in hf c_17
              refine lv_aload hx hb dX8_plans_38 (lv_at hl 0 rfl) ?_
              refine mm_get C0 hP iw_X6 89 rfl rfl 0 (by decide) fl_X8_168 rfl dX8_plans_40 ?_
              refine lv_iconst (v := 2) hx hb dX8_plans_43 (by decide) ?_
              refine lv_icmp_ne (tgt := 55) hx hb dX8_plans_44 (by decide) (fun c_18 => ?_) (fun c_18 => ?_)
              · have hf := mm_in hf c_18
                refine lv_bipush (v := -12) hx hb dX8_plans_55 (by decide) ?_
                apply mm_sub4 hf
                exact mm_iret C0 hP hD hS dX8_plans_57
              · have hf := mm_ip hf c_18
                refine lv_aload hx hb dX8_plans_47 (lv_at hl 0 rfl) ?_
                refine mm_get C0 hP iw_X6 89 rfl rfl 2 (by decide) fl_X8_171 rfl dX8_plans_49 ?_
                refine lv_if_eq (tgt := 58) hx hb dX8_plans_52 (by decide) (fun c_19 => ?_) (fun c_19 => ?_)
                · have hf := mm_ip hf c_19
                  refine lv_iload_n hx hb dX8_plans_58 rfl (lv_at hl 3 rfl) ?_
                  refine lv_if_ge (tgt := 66) hx hb dX8_plans_59 (by decide) (fun c_20 => ?_) (fun c_20 => ?_)
                  · have hf := mm_ip hf c_20
                    refine lv_aload_n hx hb dX8_plans_66 rfl (lv_at hl 1 rfl) ?_
                    refine mm_get C0 hP iw_X8 0 rfl rfl 3 (by decide) fl_X8_29 rfl dX8_plans_67 ?_
                    refine lv_aload hx hb dX8_plans_70 (lv_at hl 0 rfl) ?_
                    refine lv_iload_n hx hb dX8_plans_72 rfl (lv_at hl 3 rfl) ?_
                    refine lv_iload_n hx hb dX8_plans_73 rfl (lv_at hl 4 rfl) ?_
                    obtain ⟨r_21, w_22, w_23, w_24, hc_25, hf⟩ := mm_bd4s hf
                    refine mm_callW (q0 := 24) (ci := 3) (w2 := (wd_X8 cI cL cS cH a v_hasImage v_now_rows v_now_cols v_now_high v_now_wide v_now_folds v_now_wrong v_now_more v_now_rowOf v_now_colOf v_now_below v_now_face v_now_worn v_now_last v_now_bend v_now_tall v_kept_rows v_kept_cols v_kept_high v_kept_wide v_kept_folds v_kept_wrong v_kept_more v_kept_rowOf v_kept_colOf v_kept_below v_kept_face v_kept_worn v_kept_last v_kept_bend v_kept_tall v_wearing_size v_wearing_stepCount v_wearing_draftCount v_wearing_place v_wearing_fault v_wearing_stacked v_wearing_tape v_wearing_steps v_wearing_draft v_wearing_stack w_22 v_planned_trial_rows v_planned_trial_cols v_planned_trial_high v_planned_trial_wide v_planned_trial_folds v_planned_trial_wrong v_planned_trial_more v_planned_trial_rowOf v_planned_trial_colOf v_planned_trial_below v_planned_trial_face v_planned_trial_worn v_planned_trial_last v_planned_trial_bend v_planned_trial_tall w_23 w_24 v_search_found v_search_wrong v_search_more v_search_folds v_search_wanted v_search_levels0_rows v_search_levels0_cols v_search_levels0_high v_search_levels0_wide v_search_levels0_folds v_search_levels0_wrong v_search_levels0_more v_search_levels0_rowOf v_search_levels0_colOf v_search_levels0_below v_search_levels0_face v_search_levels0_worn v_search_levels0_last v_search_levels0_bend v_search_levels0_tall v_search_levels1_rows v_search_levels1_cols v_search_levels1_high v_search_levels1_wide v_search_levels1_folds v_search_levels1_wrong v_search_levels1_more v_search_levels1_rowOf v_search_levels1_colOf v_search_levels1_below v_search_levels1_face v_search_levels1_worn v_search_levels1_last v_search_levels1_bend v_search_levels1_tall v_search_levels2_rows v_search_levels2_cols v_search_levels2_high v_search_levels2_wide v_search_levels2_folds v_search_levels2_wrong v_search_levels2_more v_search_levels2_rowOf v_search_levels2_colOf v_search_levels2_below v_search_levels2_face v_search_levels2_worn v_search_levels2_last v_search_levels2_bend v_search_levels2_tall v_search_levels3_rows v_search_levels3_cols v_search_levels3_high v_search_levels3_wide v_search_levels3_folds v_search_levels3_wrong v_search_levels3_more v_search_levels3_rowOf v_search_levels3_colOf v_search_levels3_below v_search_levels3_face v_search_levels3_worn v_search_levels3_last v_search_levels3_bend v_search_levels3_tall v_search_path v_search_best v_strip_list v_strip_found v_strip_at v_changes_value v_changes_done v_changes_size v_changes_before v_changes_after v_foldings_size v_foldings_ran v_foldings_number v_foldings_kinds v_foldings_trace v_shelves0_holds v_shelves0_body v_shelves0_sort v_shelves0_size v_shelves0_items v_shelves1_holds v_shelves1_body v_shelves1_sort v_shelves1_size v_shelves1_items v_shelves2_holds v_shelves2_body v_shelves2_sort v_shelves2_size v_shelves2_items v_shelves3_holds v_shelves3_body v_shelves3_sort v_shelves3_size v_shelves3_items v_shelves4_holds v_shelves4_body v_shelves4_sort v_shelves4_size v_shelves4_items v_shelves5_holds v_shelves5_body v_shelves5_sort v_shelves5_size v_shelves5_items)) (rest := []) C0 lk_X8_174 (ctX3_appendFrom (a := (fun k => a ([24, 25, 26, 27, 28, 29, 30, 31, 32, 33, 34, 35, 89, 90].getD k 0))) (d := d - 1) (by omega) hc_25) (by omega) rfl hl.1 rfl (mm_cat rfl) dX8_plans_74 hP hD hA hS rfl rfl [false, false, false, false, false, false, false, false, false, false, false, false, false, false, false, false, false, false, false, false, false, false, false, false, true, true, true, true, true, true, true, true, true, true, true, true, false, false, false, false, false, false, false, false, false, false, false, false, false, false, false, false, false, false, false, false, false, false, false, false, false, false, false, false, false, false, false, false, false, false, false, false, false, false, false, false, false, false, false, false, false, false, false, false, false, false, false, false, false, true, true, false, false, false, false, false, false, false, false] rfl rfl rfl rfl (fun H locs hP hD hS => ?_)
                    refine W.eq (g2 := F0 m 77 ls [.int r_21]) rfl ?_
                    apply mm_sub4 hf
                    exact mm_iret C0 hP hD hS dX8_plans_77
                  · have hf := mm_in hf c_20
                    refine lv_iconst (v := 0) hx hb dX8_plans_62 (by decide) ?_
                    refine lv_goto (tgt := 77) hx hb dX8_plans_63 (by decide) ?_
                    apply mm_sub4 hf
                    exact mm_iret C0 hP hD hS dX8_plans_77
                · have hf := mm_in hf c_19
                  refine lv_bipush (v := -12) hx hb dX8_plans_55 (by decide) ?_
                  apply mm_sub4 hf
                  exact mm_iret C0 hP hD hS dX8_plans_57
            · have hf := mm_ip hf c_17
              refine lv_iconst (v := 0) hx hb dX8_plans_36 (by decide) ?_
              apply mm_sub4 hf
              exact mm_iret C0 hP hD hS dX8_plans_37
          · have hf := mm_in hf c_16
            by_cases c_26 : x1 = (2 : Int32)
            · have hf := mm_ip hf c_26
              refine mm_aald 3 rfl C0 hP 86 rfl (b := a 91) (by rw [c_26]; rfl) (by rw [c_26]; rfl) dX8_plans_25 ?_
              refine lv_astore (lv' := [(4, .ref (a 91)), (0, .ref (a 0)), (1, .int x1), (2, .int x2), (3, .int x3)]) hx hb dX8_plans_26 hl (by decide) rfl (fun ls hl => ?_)
              refine lv_aload hx hb dX8_plans_28 (lv_at hl 0 rfl) ?_
              refine mm_get C0 hP iw_X6 91 rfl rfl 0 (by decide) fl_X8_168 rfl dX8_plans_30 ?_
              refine lv_if_ne (tgt := 38) hx hb dX8_plans_33 (by decide) (fun c_27 => ?_) (fun c_27 => ?_)
              · have hf := mm_in hf c_27
                refine lv_aload hx hb dX8_plans_38 (lv_at hl 0 rfl) ?_
                refine mm_get C0 hP iw_X6 91 rfl rfl 0 (by decide) fl_X8_168 rfl dX8_plans_40 ?_
                refine lv_iconst (v := 2) hx hb dX8_plans_43 (by decide) ?_
                refine lv_icmp_ne (tgt := 55) hx hb dX8_plans_44 (by decide) (fun c_28 => ?_) (fun c_28 => ?_)
                · have hf := mm_in hf c_28
                  refine lv_bipush (v := -12) hx hb dX8_plans_55 (by decide) ?_
                  apply mm_sub4 hf
                  exact mm_iret C0 hP hD hS dX8_plans_57
                · have hf := mm_ip hf c_28
                  refine lv_aload hx hb dX8_plans_47 (lv_at hl 0 rfl) ?_
                  refine mm_get C0 hP iw_X6 91 rfl rfl 2 (by decide) fl_X8_171 rfl dX8_plans_49 ?_
                  refine lv_if_eq (tgt := 58) hx hb dX8_plans_52 (by decide) (fun c_29 => ?_) (fun c_29 => ?_)
                  · have hf := mm_ip hf c_29
                    refine lv_iload_n hx hb dX8_plans_58 rfl (lv_at hl 3 rfl) ?_
                    refine lv_if_ge (tgt := 66) hx hb dX8_plans_59 (by decide) (fun c_30 => ?_) (fun c_30 => ?_)
                    · have hf := mm_ip hf c_30
                      refine lv_aload_n hx hb dX8_plans_66 rfl (lv_at hl 1 rfl) ?_
                      refine mm_get C0 hP iw_X8 0 rfl rfl 3 (by decide) fl_X8_29 rfl dX8_plans_67 ?_
                      refine lv_aload hx hb dX8_plans_70 (lv_at hl 0 rfl) ?_
                      refine lv_iload_n hx hb dX8_plans_72 rfl (lv_at hl 3 rfl) ?_
                      refine lv_iload_n hx hb dX8_plans_73 rfl (lv_at hl 4 rfl) ?_
                      obtain ⟨r_31, w_32, w_33, w_34, hc_35, hf⟩ := mm_bd4s hf
                      refine mm_callW (q0 := 24) (ci := 3) (w2 := (wd_X8 cI cL cS cH a v_hasImage v_now_rows v_now_cols v_now_high v_now_wide v_now_folds v_now_wrong v_now_more v_now_rowOf v_now_colOf v_now_below v_now_face v_now_worn v_now_last v_now_bend v_now_tall v_kept_rows v_kept_cols v_kept_high v_kept_wide v_kept_folds v_kept_wrong v_kept_more v_kept_rowOf v_kept_colOf v_kept_below v_kept_face v_kept_worn v_kept_last v_kept_bend v_kept_tall v_wearing_size v_wearing_stepCount v_wearing_draftCount v_wearing_place v_wearing_fault v_wearing_stacked v_wearing_tape v_wearing_steps v_wearing_draft v_wearing_stack w_32 v_planned_trial_rows v_planned_trial_cols v_planned_trial_high v_planned_trial_wide v_planned_trial_folds v_planned_trial_wrong v_planned_trial_more v_planned_trial_rowOf v_planned_trial_colOf v_planned_trial_below v_planned_trial_face v_planned_trial_worn v_planned_trial_last v_planned_trial_bend v_planned_trial_tall w_33 w_34 v_search_found v_search_wrong v_search_more v_search_folds v_search_wanted v_search_levels0_rows v_search_levels0_cols v_search_levels0_high v_search_levels0_wide v_search_levels0_folds v_search_levels0_wrong v_search_levels0_more v_search_levels0_rowOf v_search_levels0_colOf v_search_levels0_below v_search_levels0_face v_search_levels0_worn v_search_levels0_last v_search_levels0_bend v_search_levels0_tall v_search_levels1_rows v_search_levels1_cols v_search_levels1_high v_search_levels1_wide v_search_levels1_folds v_search_levels1_wrong v_search_levels1_more v_search_levels1_rowOf v_search_levels1_colOf v_search_levels1_below v_search_levels1_face v_search_levels1_worn v_search_levels1_last v_search_levels1_bend v_search_levels1_tall v_search_levels2_rows v_search_levels2_cols v_search_levels2_high v_search_levels2_wide v_search_levels2_folds v_search_levels2_wrong v_search_levels2_more v_search_levels2_rowOf v_search_levels2_colOf v_search_levels2_below v_search_levels2_face v_search_levels2_worn v_search_levels2_last v_search_levels2_bend v_search_levels2_tall v_search_levels3_rows v_search_levels3_cols v_search_levels3_high v_search_levels3_wide v_search_levels3_folds v_search_levels3_wrong v_search_levels3_more v_search_levels3_rowOf v_search_levels3_colOf v_search_levels3_below v_search_levels3_face v_search_levels3_worn v_search_levels3_last v_search_levels3_bend v_search_levels3_tall v_search_path v_search_best v_strip_list v_strip_found v_strip_at v_changes_value v_changes_done v_changes_size v_changes_before v_changes_after v_foldings_size v_foldings_ran v_foldings_number v_foldings_kinds v_foldings_trace v_shelves0_holds v_shelves0_body v_shelves0_sort v_shelves0_size v_shelves0_items v_shelves1_holds v_shelves1_body v_shelves1_sort v_shelves1_size v_shelves1_items v_shelves2_holds v_shelves2_body v_shelves2_sort v_shelves2_size v_shelves2_items v_shelves3_holds v_shelves3_body v_shelves3_sort v_shelves3_size v_shelves3_items v_shelves4_holds v_shelves4_body v_shelves4_sort v_shelves4_size v_shelves4_items v_shelves5_holds v_shelves5_body v_shelves5_sort v_shelves5_size v_shelves5_items)) (rest := []) C0 lk_X8_174 (ctX3_appendFrom (a := (fun k => a ([24, 25, 26, 27, 28, 29, 30, 31, 32, 33, 34, 35, 91, 92].getD k 0))) (d := d - 1) (by omega) hc_35) (by omega) rfl hl.1 rfl (mm_cat rfl) dX8_plans_74 hP hD hA hS rfl rfl [false, false, false, false, false, false, false, false, false, false, false, false, false, false, false, false, false, false, false, false, false, false, false, false, true, true, true, true, true, true, true, true, true, true, true, true, false, false, false, false, false, false, false, false, false, false, false, false, false, false, false, false, false, false, false, false, false, false, false, false, false, false, false, false, false, false, false, false, false, false, false, false, false, false, false, false, false, false, false, false, false, false, false, false, false, false, false, false, false, false, false, true, true, false, false, false, false, false, false] rfl rfl rfl rfl (fun H locs hP hD hS => ?_)
                      refine W.eq (g2 := F0 m 77 ls [.int r_31]) rfl ?_
                      apply mm_sub4 hf
                      exact mm_iret C0 hP hD hS dX8_plans_77
                    · have hf := mm_in hf c_30
                      refine lv_iconst (v := 0) hx hb dX8_plans_62 (by decide) ?_
                      refine lv_goto (tgt := 77) hx hb dX8_plans_63 (by decide) ?_
                      apply mm_sub4 hf
                      exact mm_iret C0 hP hD hS dX8_plans_77
                  · have hf := mm_in hf c_29
                    refine lv_bipush (v := -12) hx hb dX8_plans_55 (by decide) ?_
                    apply mm_sub4 hf
                    exact mm_iret C0 hP hD hS dX8_plans_57
              · have hf := mm_ip hf c_27
                refine lv_iconst (v := 0) hx hb dX8_plans_36 (by decide) ?_
                apply mm_sub4 hf
                exact mm_iret C0 hP hD hS dX8_plans_37
            · have hf := mm_in hf c_26
              by_cases c_36 : x1 = (3 : Int32)
              · have hf := mm_ip hf c_36
                refine mm_aald 3 rfl C0 hP 86 rfl (b := a 93) (by rw [c_36]; rfl) (by rw [c_36]; rfl) dX8_plans_25 ?_
                refine lv_astore (lv' := [(4, .ref (a 93)), (0, .ref (a 0)), (1, .int x1), (2, .int x2), (3, .int x3)]) hx hb dX8_plans_26 hl (by decide) rfl (fun ls hl => ?_)
                refine lv_aload hx hb dX8_plans_28 (lv_at hl 0 rfl) ?_
                refine mm_get C0 hP iw_X6 93 rfl rfl 0 (by decide) fl_X8_168 rfl dX8_plans_30 ?_
                refine lv_if_ne (tgt := 38) hx hb dX8_plans_33 (by decide) (fun c_37 => ?_) (fun c_37 => ?_)
                · have hf := mm_in hf c_37
                  refine lv_aload hx hb dX8_plans_38 (lv_at hl 0 rfl) ?_
                  refine mm_get C0 hP iw_X6 93 rfl rfl 0 (by decide) fl_X8_168 rfl dX8_plans_40 ?_
                  refine lv_iconst (v := 2) hx hb dX8_plans_43 (by decide) ?_
                  refine lv_icmp_ne (tgt := 55) hx hb dX8_plans_44 (by decide) (fun c_38 => ?_) (fun c_38 => ?_)
                  · have hf := mm_in hf c_38
                    refine lv_bipush (v := -12) hx hb dX8_plans_55 (by decide) ?_
                    apply mm_sub4 hf
                    exact mm_iret C0 hP hD hS dX8_plans_57
                  · have hf := mm_ip hf c_38
                    refine lv_aload hx hb dX8_plans_47 (lv_at hl 0 rfl) ?_
                    refine mm_get C0 hP iw_X6 93 rfl rfl 2 (by decide) fl_X8_171 rfl dX8_plans_49 ?_
                    refine lv_if_eq (tgt := 58) hx hb dX8_plans_52 (by decide) (fun c_39 => ?_) (fun c_39 => ?_)
                    · have hf := mm_ip hf c_39
                      refine lv_iload_n hx hb dX8_plans_58 rfl (lv_at hl 3 rfl) ?_
                      refine lv_if_ge (tgt := 66) hx hb dX8_plans_59 (by decide) (fun c_40 => ?_) (fun c_40 => ?_)
                      · have hf := mm_ip hf c_40
                        refine lv_aload_n hx hb dX8_plans_66 rfl (lv_at hl 1 rfl) ?_
                        refine mm_get C0 hP iw_X8 0 rfl rfl 3 (by decide) fl_X8_29 rfl dX8_plans_67 ?_
                        refine lv_aload hx hb dX8_plans_70 (lv_at hl 0 rfl) ?_
                        refine lv_iload_n hx hb dX8_plans_72 rfl (lv_at hl 3 rfl) ?_
                        refine lv_iload_n hx hb dX8_plans_73 rfl (lv_at hl 4 rfl) ?_
                        obtain ⟨r_41, w_42, w_43, w_44, hc_45, hf⟩ := mm_bd4s hf
                        refine mm_callW (q0 := 24) (ci := 3) (w2 := (wd_X8 cI cL cS cH a v_hasImage v_now_rows v_now_cols v_now_high v_now_wide v_now_folds v_now_wrong v_now_more v_now_rowOf v_now_colOf v_now_below v_now_face v_now_worn v_now_last v_now_bend v_now_tall v_kept_rows v_kept_cols v_kept_high v_kept_wide v_kept_folds v_kept_wrong v_kept_more v_kept_rowOf v_kept_colOf v_kept_below v_kept_face v_kept_worn v_kept_last v_kept_bend v_kept_tall v_wearing_size v_wearing_stepCount v_wearing_draftCount v_wearing_place v_wearing_fault v_wearing_stacked v_wearing_tape v_wearing_steps v_wearing_draft v_wearing_stack w_42 v_planned_trial_rows v_planned_trial_cols v_planned_trial_high v_planned_trial_wide v_planned_trial_folds v_planned_trial_wrong v_planned_trial_more v_planned_trial_rowOf v_planned_trial_colOf v_planned_trial_below v_planned_trial_face v_planned_trial_worn v_planned_trial_last v_planned_trial_bend v_planned_trial_tall w_43 w_44 v_search_found v_search_wrong v_search_more v_search_folds v_search_wanted v_search_levels0_rows v_search_levels0_cols v_search_levels0_high v_search_levels0_wide v_search_levels0_folds v_search_levels0_wrong v_search_levels0_more v_search_levels0_rowOf v_search_levels0_colOf v_search_levels0_below v_search_levels0_face v_search_levels0_worn v_search_levels0_last v_search_levels0_bend v_search_levels0_tall v_search_levels1_rows v_search_levels1_cols v_search_levels1_high v_search_levels1_wide v_search_levels1_folds v_search_levels1_wrong v_search_levels1_more v_search_levels1_rowOf v_search_levels1_colOf v_search_levels1_below v_search_levels1_face v_search_levels1_worn v_search_levels1_last v_search_levels1_bend v_search_levels1_tall v_search_levels2_rows v_search_levels2_cols v_search_levels2_high v_search_levels2_wide v_search_levels2_folds v_search_levels2_wrong v_search_levels2_more v_search_levels2_rowOf v_search_levels2_colOf v_search_levels2_below v_search_levels2_face v_search_levels2_worn v_search_levels2_last v_search_levels2_bend v_search_levels2_tall v_search_levels3_rows v_search_levels3_cols v_search_levels3_high v_search_levels3_wide v_search_levels3_folds v_search_levels3_wrong v_search_levels3_more v_search_levels3_rowOf v_search_levels3_colOf v_search_levels3_below v_search_levels3_face v_search_levels3_worn v_search_levels3_last v_search_levels3_bend v_search_levels3_tall v_search_path v_search_best v_strip_list v_strip_found v_strip_at v_changes_value v_changes_done v_changes_size v_changes_before v_changes_after v_foldings_size v_foldings_ran v_foldings_number v_foldings_kinds v_foldings_trace v_shelves0_holds v_shelves0_body v_shelves0_sort v_shelves0_size v_shelves0_items v_shelves1_holds v_shelves1_body v_shelves1_sort v_shelves1_size v_shelves1_items v_shelves2_holds v_shelves2_body v_shelves2_sort v_shelves2_size v_shelves2_items v_shelves3_holds v_shelves3_body v_shelves3_sort v_shelves3_size v_shelves3_items v_shelves4_holds v_shelves4_body v_shelves4_sort v_shelves4_size v_shelves4_items v_shelves5_holds v_shelves5_body v_shelves5_sort v_shelves5_size v_shelves5_items)) (rest := []) C0 lk_X8_174 (ctX3_appendFrom (a := (fun k => a ([24, 25, 26, 27, 28, 29, 30, 31, 32, 33, 34, 35, 93, 94].getD k 0))) (d := d - 1) (by omega) hc_45) (by omega) rfl hl.1 rfl (mm_cat rfl) dX8_plans_74 hP hD hA hS rfl rfl [false, false, false, false, false, false, false, false, false, false, false, false, false, false, false, false, false, false, false, false, false, false, false, false, true, true, true, true, true, true, true, true, true, true, true, true, false, false, false, false, false, false, false, false, false, false, false, false, false, false, false, false, false, false, false, false, false, false, false, false, false, false, false, false, false, false, false, false, false, false, false, false, false, false, false, false, false, false, false, false, false, false, false, false, false, false, false, false, false, false, false, false, false, true, true, false, false, false, false] rfl rfl rfl rfl (fun H locs hP hD hS => ?_)
                        refine W.eq (g2 := F0 m 77 ls [.int r_41]) rfl ?_
                        apply mm_sub4 hf
                        exact mm_iret C0 hP hD hS dX8_plans_77
                      · have hf := mm_in hf c_40
                        refine lv_iconst (v := 0) hx hb dX8_plans_62 (by decide) ?_
                        refine lv_goto (tgt := 77) hx hb dX8_plans_63 (by decide) ?_
                        apply mm_sub4 hf
                        exact mm_iret C0 hP hD hS dX8_plans_77
                    · have hf := mm_in hf c_39
                      refine lv_bipush (v := -12) hx hb dX8_plans_55 (by decide) ?_
                      apply mm_sub4 hf
                      exact mm_iret C0 hP hD hS dX8_plans_57
                · have hf := mm_ip hf c_37
                  refine lv_iconst (v := 0) hx hb dX8_plans_36 (by decide) ?_
                  apply mm_sub4 hf
                  exact mm_iret C0 hP hD hS dX8_plans_37
              · have hf := mm_in hf c_36
                by_cases c_46 : x1 = (4 : Int32)
                · have hf := mm_ip hf c_46
                  refine mm_aald 3 rfl C0 hP 86 rfl (b := a 95) (by rw [c_46]; rfl) (by rw [c_46]; rfl) dX8_plans_25 ?_
                  refine lv_astore (lv' := [(4, .ref (a 95)), (0, .ref (a 0)), (1, .int x1), (2, .int x2), (3, .int x3)]) hx hb dX8_plans_26 hl (by decide) rfl (fun ls hl => ?_)
                  refine lv_aload hx hb dX8_plans_28 (lv_at hl 0 rfl) ?_
                  refine mm_get C0 hP iw_X6 95 rfl rfl 0 (by decide) fl_X8_168 rfl dX8_plans_30 ?_
                  refine lv_if_ne (tgt := 38) hx hb dX8_plans_33 (by decide) (fun c_47 => ?_) (fun c_47 => ?_)
                  · have hf := mm_in hf c_47
                    refine lv_aload hx hb dX8_plans_38 (lv_at hl 0 rfl) ?_
                    refine mm_get C0 hP iw_X6 95 rfl rfl 0 (by decide) fl_X8_168 rfl dX8_plans_40 ?_
                    refine lv_iconst (v := 2) hx hb dX8_plans_43 (by decide) ?_
                    refine lv_icmp_ne (tgt := 55) hx hb dX8_plans_44 (by decide) (fun c_48 => ?_) (fun c_48 => ?_)
                    · have hf := mm_in hf c_48
                      refine lv_bipush (v := -12) hx hb dX8_plans_55 (by decide) ?_
                      apply mm_sub4 hf
                      exact mm_iret C0 hP hD hS dX8_plans_57
                    · have hf := mm_ip hf c_48
                      refine lv_aload hx hb dX8_plans_47 (lv_at hl 0 rfl) ?_
                      refine mm_get C0 hP iw_X6 95 rfl rfl 2 (by decide) fl_X8_171 rfl dX8_plans_49 ?_
                      refine lv_if_eq (tgt := 58) hx hb dX8_plans_52 (by decide) (fun c_49 => ?_) (fun c_49 => ?_)
                      · have hf := mm_ip hf c_49
                        refine lv_iload_n hx hb dX8_plans_58 rfl (lv_at hl 3 rfl) ?_
                        refine lv_if_ge (tgt := 66) hx hb dX8_plans_59 (by decide) (fun c_50 => ?_) (fun c_50 => ?_)
                        · have hf := mm_ip hf c_50
                          refine lv_aload_n hx hb dX8_plans_66 rfl (lv_at hl 1 rfl) ?_
                          refine mm_get C0 hP iw_X8 0 rfl rfl 3 (by decide) fl_X8_29 rfl dX8_plans_67 ?_
                          refine lv_aload hx hb dX8_plans_70 (lv_at hl 0 rfl) ?_
                          refine lv_iload_n hx hb dX8_plans_72 rfl (lv_at hl 3 rfl) ?_
                          refine lv_iload_n hx hb dX8_plans_73 rfl (lv_at hl 4 rfl) ?_
                          obtain ⟨r_51, w_52, w_53, w_54, hc_55, hf⟩ := mm_bd4s hf
                          refine mm_callW (q0 := 24) (ci := 3) (w2 := (wd_X8 cI cL cS cH a v_hasImage v_now_rows v_now_cols v_now_high v_now_wide v_now_folds v_now_wrong v_now_more v_now_rowOf v_now_colOf v_now_below v_now_face v_now_worn v_now_last v_now_bend v_now_tall v_kept_rows v_kept_cols v_kept_high v_kept_wide v_kept_folds v_kept_wrong v_kept_more v_kept_rowOf v_kept_colOf v_kept_below v_kept_face v_kept_worn v_kept_last v_kept_bend v_kept_tall v_wearing_size v_wearing_stepCount v_wearing_draftCount v_wearing_place v_wearing_fault v_wearing_stacked v_wearing_tape v_wearing_steps v_wearing_draft v_wearing_stack w_52 v_planned_trial_rows v_planned_trial_cols v_planned_trial_high v_planned_trial_wide v_planned_trial_folds v_planned_trial_wrong v_planned_trial_more v_planned_trial_rowOf v_planned_trial_colOf v_planned_trial_below v_planned_trial_face v_planned_trial_worn v_planned_trial_last v_planned_trial_bend v_planned_trial_tall w_53 w_54 v_search_found v_search_wrong v_search_more v_search_folds v_search_wanted v_search_levels0_rows v_search_levels0_cols v_search_levels0_high v_search_levels0_wide v_search_levels0_folds v_search_levels0_wrong v_search_levels0_more v_search_levels0_rowOf v_search_levels0_colOf v_search_levels0_below v_search_levels0_face v_search_levels0_worn v_search_levels0_last v_search_levels0_bend v_search_levels0_tall v_search_levels1_rows v_search_levels1_cols v_search_levels1_high v_search_levels1_wide v_search_levels1_folds v_search_levels1_wrong v_search_levels1_more v_search_levels1_rowOf v_search_levels1_colOf v_search_levels1_below v_search_levels1_face v_search_levels1_worn v_search_levels1_last v_search_levels1_bend v_search_levels1_tall v_search_levels2_rows v_search_levels2_cols v_search_levels2_high v_search_levels2_wide v_search_levels2_folds v_search_levels2_wrong v_search_levels2_more v_search_levels2_rowOf v_search_levels2_colOf v_search_levels2_below v_search_levels2_face v_search_levels2_worn v_search_levels2_last v_search_levels2_bend v_search_levels2_tall v_search_levels3_rows v_search_levels3_cols v_search_levels3_high v_search_levels3_wide v_search_levels3_folds v_search_levels3_wrong v_search_levels3_more v_search_levels3_rowOf v_search_levels3_colOf v_search_levels3_below v_search_levels3_face v_search_levels3_worn v_search_levels3_last v_search_levels3_bend v_search_levels3_tall v_search_path v_search_best v_strip_list v_strip_found v_strip_at v_changes_value v_changes_done v_changes_size v_changes_before v_changes_after v_foldings_size v_foldings_ran v_foldings_number v_foldings_kinds v_foldings_trace v_shelves0_holds v_shelves0_body v_shelves0_sort v_shelves0_size v_shelves0_items v_shelves1_holds v_shelves1_body v_shelves1_sort v_shelves1_size v_shelves1_items v_shelves2_holds v_shelves2_body v_shelves2_sort v_shelves2_size v_shelves2_items v_shelves3_holds v_shelves3_body v_shelves3_sort v_shelves3_size v_shelves3_items v_shelves4_holds v_shelves4_body v_shelves4_sort v_shelves4_size v_shelves4_items v_shelves5_holds v_shelves5_body v_shelves5_sort v_shelves5_size v_shelves5_items)) (rest := []) C0 lk_X8_174 (ctX3_appendFrom (a := (fun k => a ([24, 25, 26, 27, 28, 29, 30, 31, 32, 33, 34, 35, 95, 96].getD k 0))) (d := d - 1) (by omega) hc_55) (by omega) rfl hl.1 rfl (mm_cat rfl) dX8_plans_74 hP hD hA hS rfl rfl [false, false, false, false, false, false, false, false, false, false, false, false, false, false, false, false, false, false, false, false, false, false, false, false, true, true, true, true, true, true, true, true, true, true, true, true, false, false, false, false, false, false, false, false, false, false, false, false, false, false, false, false, false, false, false, false, false, false, false, false, false, false, false, false, false, false, false, false, false, false, false, false, false, false, false, false, false, false, false, false, false, false, false, false, false, false, false, false, false, false, false, false, false, false, false, true, true, false, false] rfl rfl rfl rfl (fun H locs hP hD hS => ?_)
                          refine W.eq (g2 := F0 m 77 ls [.int r_51]) rfl ?_
                          apply mm_sub4 hf
                          exact mm_iret C0 hP hD hS dX8_plans_77
                        · have hf := mm_in hf c_50
                          refine lv_iconst (v := 0) hx hb dX8_plans_62 (by decide) ?_
                          refine lv_goto (tgt := 77) hx hb dX8_plans_63 (by decide) ?_
                          apply mm_sub4 hf
                          exact mm_iret C0 hP hD hS dX8_plans_77
                      · have hf := mm_in hf c_49
                        refine lv_bipush (v := -12) hx hb dX8_plans_55 (by decide) ?_
                        apply mm_sub4 hf
                        exact mm_iret C0 hP hD hS dX8_plans_57
                  · have hf := mm_ip hf c_47
                    refine lv_iconst (v := 0) hx hb dX8_plans_36 (by decide) ?_
                    apply mm_sub4 hf
                    exact mm_iret C0 hP hD hS dX8_plans_37
                · have hf := mm_in hf c_46
                  by_cases c_56 : x1 = (5 : Int32)
                  · have hf := mm_ip hf c_56
                    refine mm_aald 3 rfl C0 hP 86 rfl (b := a 97) (by rw [c_56]; rfl) (by rw [c_56]; rfl) dX8_plans_25 ?_
                    refine lv_astore (lv' := [(4, .ref (a 97)), (0, .ref (a 0)), (1, .int x1), (2, .int x2), (3, .int x3)]) hx hb dX8_plans_26 hl (by decide) rfl (fun ls hl => ?_)
                    refine lv_aload hx hb dX8_plans_28 (lv_at hl 0 rfl) ?_
                    refine mm_get C0 hP iw_X6 97 rfl rfl 0 (by decide) fl_X8_168 rfl dX8_plans_30 ?_
                    refine lv_if_ne (tgt := 38) hx hb dX8_plans_33 (by decide) (fun c_57 => ?_) (fun c_57 => ?_)
                    · have hf := mm_in hf c_57
                      refine lv_aload hx hb dX8_plans_38 (lv_at hl 0 rfl) ?_
                      refine mm_get C0 hP iw_X6 97 rfl rfl 0 (by decide) fl_X8_168 rfl dX8_plans_40 ?_
                      refine lv_iconst (v := 2) hx hb dX8_plans_43 (by decide) ?_
                      refine lv_icmp_ne (tgt := 55) hx hb dX8_plans_44 (by decide) (fun c_58 => ?_) (fun c_58 => ?_)
                      · have hf := mm_in hf c_58
                        refine lv_bipush (v := -12) hx hb dX8_plans_55 (by decide) ?_
                        apply mm_sub4 hf
                        exact mm_iret C0 hP hD hS dX8_plans_57
                      · have hf := mm_ip hf c_58
                        refine lv_aload hx hb dX8_plans_47 (lv_at hl 0 rfl) ?_
                        refine mm_get C0 hP iw_X6 97 rfl rfl 2 (by decide) fl_X8_171 rfl dX8_plans_49 ?_
                        refine lv_if_eq (tgt := 58) hx hb dX8_plans_52 (by decide) (fun c_59 => ?_) (fun c_59 => ?_)
                        · have hf := mm_ip hf c_59
                          refine lv_iload_n hx hb dX8_plans_58 rfl (lv_at hl 3 rfl) ?_
                          refine lv_if_ge (tgt := 66) hx hb dX8_plans_59 (by decide) (fun c_60 => ?_) (fun c_60 => ?_)
                          · have hf := mm_ip hf c_60
                            refine lv_aload_n hx hb dX8_plans_66 rfl (lv_at hl 1 rfl) ?_
                            refine mm_get C0 hP iw_X8 0 rfl rfl 3 (by decide) fl_X8_29 rfl dX8_plans_67 ?_
                            refine lv_aload hx hb dX8_plans_70 (lv_at hl 0 rfl) ?_
                            refine lv_iload_n hx hb dX8_plans_72 rfl (lv_at hl 3 rfl) ?_
                            refine lv_iload_n hx hb dX8_plans_73 rfl (lv_at hl 4 rfl) ?_
                            obtain ⟨r_61, w_62, w_63, w_64, hc_65, hf⟩ := mm_bd4s hf
                            refine mm_callW (q0 := 24) (ci := 3) (w2 := (wd_X8 cI cL cS cH a v_hasImage v_now_rows v_now_cols v_now_high v_now_wide v_now_folds v_now_wrong v_now_more v_now_rowOf v_now_colOf v_now_below v_now_face v_now_worn v_now_last v_now_bend v_now_tall v_kept_rows v_kept_cols v_kept_high v_kept_wide v_kept_folds v_kept_wrong v_kept_more v_kept_rowOf v_kept_colOf v_kept_below v_kept_face v_kept_worn v_kept_last v_kept_bend v_kept_tall v_wearing_size v_wearing_stepCount v_wearing_draftCount v_wearing_place v_wearing_fault v_wearing_stacked v_wearing_tape v_wearing_steps v_wearing_draft v_wearing_stack w_62 v_planned_trial_rows v_planned_trial_cols v_planned_trial_high v_planned_trial_wide v_planned_trial_folds v_planned_trial_wrong v_planned_trial_more v_planned_trial_rowOf v_planned_trial_colOf v_planned_trial_below v_planned_trial_face v_planned_trial_worn v_planned_trial_last v_planned_trial_bend v_planned_trial_tall w_63 w_64 v_search_found v_search_wrong v_search_more v_search_folds v_search_wanted v_search_levels0_rows v_search_levels0_cols v_search_levels0_high v_search_levels0_wide v_search_levels0_folds v_search_levels0_wrong v_search_levels0_more v_search_levels0_rowOf v_search_levels0_colOf v_search_levels0_below v_search_levels0_face v_search_levels0_worn v_search_levels0_last v_search_levels0_bend v_search_levels0_tall v_search_levels1_rows v_search_levels1_cols v_search_levels1_high v_search_levels1_wide v_search_levels1_folds v_search_levels1_wrong v_search_levels1_more v_search_levels1_rowOf v_search_levels1_colOf v_search_levels1_below v_search_levels1_face v_search_levels1_worn v_search_levels1_last v_search_levels1_bend v_search_levels1_tall v_search_levels2_rows v_search_levels2_cols v_search_levels2_high v_search_levels2_wide v_search_levels2_folds v_search_levels2_wrong v_search_levels2_more v_search_levels2_rowOf v_search_levels2_colOf v_search_levels2_below v_search_levels2_face v_search_levels2_worn v_search_levels2_last v_search_levels2_bend v_search_levels2_tall v_search_levels3_rows v_search_levels3_cols v_search_levels3_high v_search_levels3_wide v_search_levels3_folds v_search_levels3_wrong v_search_levels3_more v_search_levels3_rowOf v_search_levels3_colOf v_search_levels3_below v_search_levels3_face v_search_levels3_worn v_search_levels3_last v_search_levels3_bend v_search_levels3_tall v_search_path v_search_best v_strip_list v_strip_found v_strip_at v_changes_value v_changes_done v_changes_size v_changes_before v_changes_after v_foldings_size v_foldings_ran v_foldings_number v_foldings_kinds v_foldings_trace v_shelves0_holds v_shelves0_body v_shelves0_sort v_shelves0_size v_shelves0_items v_shelves1_holds v_shelves1_body v_shelves1_sort v_shelves1_size v_shelves1_items v_shelves2_holds v_shelves2_body v_shelves2_sort v_shelves2_size v_shelves2_items v_shelves3_holds v_shelves3_body v_shelves3_sort v_shelves3_size v_shelves3_items v_shelves4_holds v_shelves4_body v_shelves4_sort v_shelves4_size v_shelves4_items v_shelves5_holds v_shelves5_body v_shelves5_sort v_shelves5_size v_shelves5_items)) (rest := []) C0 lk_X8_174 (ctX3_appendFrom (a := (fun k => a ([24, 25, 26, 27, 28, 29, 30, 31, 32, 33, 34, 35, 97, 98].getD k 0))) (d := d - 1) (by omega) hc_65) (by omega) rfl hl.1 rfl (mm_cat rfl) dX8_plans_74 hP hD hA hS rfl rfl [false, false, false, false, false, false, false, false, false, false, false, false, false, false, false, false, false, false, false, false, false, false, false, false, true, true, true, true, true, true, true, true, true, true, true, true, false, false, false, false, false, false, false, false, false, false, false, false, false, false, false, false, false, false, false, false, false, false, false, false, false, false, false, false, false, false, false, false, false, false, false, false, false, false, false, false, false, false, false, false, false, false, false, false, false, false, false, false, false, false, false, false, false, false, false, false, false, true, true] rfl rfl rfl rfl (fun H locs hP hD hS => ?_)
                            refine W.eq (g2 := F0 m 77 ls [.int r_61]) rfl ?_
                            apply mm_sub4 hf
                            exact mm_iret C0 hP hD hS dX8_plans_77
                          · have hf := mm_in hf c_60
                            refine lv_iconst (v := 0) hx hb dX8_plans_62 (by decide) ?_
                            refine lv_goto (tgt := 77) hx hb dX8_plans_63 (by decide) ?_
                            apply mm_sub4 hf
                            exact mm_iret C0 hP hD hS dX8_plans_77
                        · have hf := mm_in hf c_59
                          refine lv_bipush (v := -12) hx hb dX8_plans_55 (by decide) ?_
                          apply mm_sub4 hf
                          exact mm_iret C0 hP hD hS dX8_plans_57
                    · have hf := mm_ip hf c_57
                      refine lv_iconst (v := 0) hx hb dX8_plans_36 (by decide) ?_
                      apply mm_sub4 hf
                      exact mm_iret C0 hP hD hS dX8_plans_37
                  · have hf := mm_in hf c_56
                    cases hf
      · have hf := mm_in hf c_5
        refine lv_iconst (v := -1) hx hb dX8_plans_18 (by decide) ?_
        apply mm_sub4 hf
        exact mm_iret C0 hP hD hS dX8_plans_19

