section
/-! The law: its cases -/
set_option maxHeartbeats 8000000 in
set_option maxRecDepth 100000 in
theorem lc_32 {p : Program} {l : Launch} {e : Env} {s : State} {m : MethodId} {below : List Frame} {meth : Method} {c : Code} {D : va_G} {cI cL cS cH : ClassId} {bb L N : Nat} {xs : Nat → Int32} {x3 : Int32} {a b : Nat → Nat} {v_hasImage : Bool} {v_now_rows : Int32} {v_now_cols : Int32} {v_now_high : Int32} {v_now_wide : Int32} {v_now_folds : Int32} {v_now_wrong : Int32} {v_now_more : Int32} {v_now_rowOf : List Int32} {v_now_colOf : List Int32} {v_now_below : List Int32} {v_now_face : List Int32} {v_now_worn : List Int32} {v_now_last : List Int32} {v_now_bend : List Int32} {v_now_tall : List Int32} {v_kept_rows : Int32} {v_kept_cols : Int32} {v_kept_high : Int32} {v_kept_wide : Int32} {v_kept_folds : Int32} {v_kept_wrong : Int32} {v_kept_more : Int32} {v_kept_rowOf : List Int32} {v_kept_colOf : List Int32} {v_kept_below : List Int32} {v_kept_face : List Int32} {v_kept_worn : List Int32} {v_kept_last : List Int32} {v_kept_bend : List Int32} {v_kept_tall : List Int32} {v_wearing_size : Int32} {v_wearing_stepCount : Int32} {v_wearing_draftCount : Int32} {v_wearing_place : Int32} {v_wearing_fault : Int32} {v_wearing_stacked : Int32} {v_wearing_tape : List Int32} {v_wearing_steps : List Int32} {v_wearing_draft : List Int32} {v_wearing_stack : List Int32} {v_planned_size : Int32} {v_planned_trial_rows : Int32} {v_planned_trial_cols : Int32} {v_planned_trial_high : Int32} {v_planned_trial_wide : Int32} {v_planned_trial_folds : Int32} {v_planned_trial_wrong : Int32} {v_planned_trial_more : Int32} {v_planned_trial_rowOf : List Int32} {v_planned_trial_colOf : List Int32} {v_planned_trial_below : List Int32} {v_planned_trial_face : List Int32} {v_planned_trial_worn : List Int32} {v_planned_trial_last : List Int32} {v_planned_trial_bend : List Int32} {v_planned_trial_tall : List Int32} {v_planned_lines : List Int32} {v_planned_ways : List Int32} {v_search_found : Bool} {v_search_wrong : Int32} {v_search_more : Int32} {v_search_folds : Int32} {v_search_wanted : Int32} {v_search_levels0_rows : Int32} {v_search_levels0_cols : Int32} {v_search_levels0_high : Int32} {v_search_levels0_wide : Int32} {v_search_levels0_folds : Int32} {v_search_levels0_wrong : Int32} {v_search_levels0_more : Int32} {v_search_levels0_rowOf : List Int32} {v_search_levels0_colOf : List Int32} {v_search_levels0_below : List Int32} {v_search_levels0_face : List Int32} {v_search_levels0_worn : List Int32} {v_search_levels0_last : List Int32} {v_search_levels0_bend : List Int32} {v_search_levels0_tall : List Int32} {v_search_levels1_rows : Int32} {v_search_levels1_cols : Int32} {v_search_levels1_high : Int32} {v_search_levels1_wide : Int32} {v_search_levels1_folds : Int32} {v_search_levels1_wrong : Int32} {v_search_levels1_more : Int32} {v_search_levels1_rowOf : List Int32} {v_search_levels1_colOf : List Int32} {v_search_levels1_below : List Int32} {v_search_levels1_face : List Int32} {v_search_levels1_worn : List Int32} {v_search_levels1_last : List Int32} {v_search_levels1_bend : List Int32} {v_search_levels1_tall : List Int32} {v_search_levels2_rows : Int32} {v_search_levels2_cols : Int32} {v_search_levels2_high : Int32} {v_search_levels2_wide : Int32} {v_search_levels2_folds : Int32} {v_search_levels2_wrong : Int32} {v_search_levels2_more : Int32} {v_search_levels2_rowOf : List Int32} {v_search_levels2_colOf : List Int32} {v_search_levels2_below : List Int32} {v_search_levels2_face : List Int32} {v_search_levels2_worn : List Int32} {v_search_levels2_last : List Int32} {v_search_levels2_bend : List Int32} {v_search_levels2_tall : List Int32} {v_search_levels3_rows : Int32} {v_search_levels3_cols : Int32} {v_search_levels3_high : Int32} {v_search_levels3_wide : Int32} {v_search_levels3_folds : Int32} {v_search_levels3_wrong : Int32} {v_search_levels3_more : Int32} {v_search_levels3_rowOf : List Int32} {v_search_levels3_colOf : List Int32} {v_search_levels3_below : List Int32} {v_search_levels3_face : List Int32} {v_search_levels3_worn : List Int32} {v_search_levels3_last : List Int32} {v_search_levels3_bend : List Int32} {v_search_levels3_tall : List Int32} {v_search_path : List Int32} {v_search_best : List Int32} {v_strip_list : List Int32} {v_strip_found : List Int32} {v_strip_at : List Int32} {v_changes_value : Int32} {v_changes_done : Int32} {v_changes_size : Int32} {v_changes_before : List Int32} {v_changes_after : List Int32} {v_foldings_size : Int32} {v_foldings_ran : Int32} {v_foldings_number : Int32} {v_foldings_kinds : List Int32} {v_foldings_trace : List Int32} {v_shelves0_holds : Int32} {v_shelves0_body : Int32} {v_shelves0_sort : Int32} {v_shelves0_size : Int32} {v_shelves0_items : List Int64} {v_shelves1_holds : Int32} {v_shelves1_body : Int32} {v_shelves1_sort : Int32} {v_shelves1_size : Int32} {v_shelves1_items : List Int64} {v_shelves2_holds : Int32} {v_shelves2_body : Int32} {v_shelves2_sort : Int32} {v_shelves2_size : Int32} {v_shelves2_items : List Int64} {v_shelves3_holds : Int32} {v_shelves3_body : Int32} {v_shelves3_sort : Int32} {v_shelves3_size : Int32} {v_shelves3_items : List Int64} {v_shelves4_holds : Int32} {v_shelves4_body : Int32} {v_shelves4_sort : Int32} {v_shelves4_size : Int32} {v_shelves4_items : List Int64} {v_shelves5_holds : Int32} {v_shelves5_body : Int32} {v_shelves5_sort : Int32} {v_shelves5_size : Int32} {v_shelves5_items : List Int64} {m_keptMany : Int32} {m_done : Int32} {m_rowsOf : Int32} {m_columnsOf : Int32} {m_folded : Int32} {m_wronged : Int32} {m_tapeMany : Int32} {m_textMany : Int32} {m_base : Int32} {m_at : Int32} {m_ends : Int32} {m_fault : Int32} {m_opened : Int32} {m_bentMany : Int32} {m_bentWrong : Int32} {m_moreWorn : Int32} {m_planned : Int32} {m_allWrong : Int32} {m_allWorn : Int32} {m_z : Int32} {m_wishedField : Int32} {m_isFound : Bool} {m_bestWrong : Int32} {m_bestWorn : Int32} {m_bestMany : Int32} {m_soughtBy : Int32} {m_sought : Int32} {m_soughtAt : Int32} {m_foundMany : Int32} {m_foundOrder : Int32} {m_isKept : Bool} {m_imageRows : Int32} {m_imageColumns : Int32} {m_imageFolded : Int32} {m_imageWronged : Int32} {m_bodies : Int32} {m_ran : Int32} {m_ownKind : Int32} {m_ownNumber : Int32} {m_limit : List Int32} {m_changeWas : List Int32} {m_changeIs : List Int32} {m_shapeRows : List Int32} {m_shapeColumns : List Int32} {m_row : List Int32} {m_column : List Int32} {m_below : List Int32} {m_face : List Int32} {m_worn : List Int32} {m_lastBend : List Int32} {m_tape : List Int32} {m_text : List Int32} {m_names : List Int32} {m_bends : List Int32} {m_high : List Int32} {m_to : List Int32} {m_pileSize : List Int32} {m_planLine : List Int32} {m_planWay : List Int32} {m_way1 : List Int32} {m_bestWay : List Int32} {m_order1 : List Int32} {m_placeIn : List Int32} {m_bodyKind : List Int32} {m_trace : List Int32} {m_shelf : List Int32} {m_many : List Int32} {m_items : List Int64} {m_carried : List Int64}  {r8 : Int32} {p_shelves0_holds : Int32} {p_shelves0_body : Int32} {p_shelves1_holds : Int32} {p_shelves1_body : Int32} {p_shelves2_holds : Int32} {p_shelves2_body : Int32} {p_shelves3_holds : Int32} {p_shelves3_body : Int32} {p_shelves4_holds : Int32} {p_shelves4_body : Int32} {p_shelves5_holds : Int32} {p_shelves5_body : Int32} {r9 : Int32} {q_shelf : List Int32} {q_many : List Int32} (C0 : mm_Cx p s m #[Value.ref bb] meth c RL code 4 ret D (mm_T cI cL cS cH) (fun q => s.heap.size ≤ q)) (hX : va_X bb L xs s s.heap) (hbl : bb < s.heap.size) {y1 : Int32} (hi_1 : vp_in (x3 + (1 : Int32)) L) (ey_1 : xs (x3 + (1 : Int32)).toNatClampNeg = y1) {y2 : Int32} (hi_2 : vp_in (x3 + (2 : Int32)) L) (ey_2 : xs (x3 + (2 : Int32)).toNatClampNeg = y2) (h8 : fX8_keep N y1 y2 v_foldings_size v_shelves0_holds v_shelves0_body v_shelves1_holds v_shelves1_body v_shelves2_holds v_shelves2_body v_shelves3_holds v_shelves3_body v_shelves4_holds v_shelves4_body v_shelves5_holds v_shelves5_body = some (r8, p_shelves0_holds, p_shelves0_body, p_shelves1_holds, p_shelves1_body, p_shelves2_holds, p_shelves2_body, p_shelves3_holds, p_shelves3_body, p_shelves4_holds, p_shelves4_body, p_shelves5_holds, p_shelves5_body)) (h9 : fX9_keep N y1 y2 m_bodies m_shelf m_many = some (r9, q_shelf, q_many)) {cells slots : Nat} {Q : State → Prop} (hc1 : cells ≤ room_1.cells) (hc2 : slots ≤ room_1.slots) {H : Heap} {locs : List Loc} {ls : Array Slot}
    (hP : va_P D mm_cl (wd_X8 cI cL cS cH a v_hasImage v_now_rows v_now_cols v_now_high v_now_wide v_now_folds v_now_wrong v_now_more v_now_rowOf v_now_colOf v_now_below v_now_face v_now_worn v_now_last v_now_bend v_now_tall v_kept_rows v_kept_cols v_kept_high v_kept_wide v_kept_folds v_kept_wrong v_kept_more v_kept_rowOf v_kept_colOf v_kept_below v_kept_face v_kept_worn v_kept_last v_kept_bend v_kept_tall v_wearing_size v_wearing_stepCount v_wearing_draftCount v_wearing_place v_wearing_fault v_wearing_stacked v_wearing_tape v_wearing_steps v_wearing_draft v_wearing_stack v_planned_size v_planned_trial_rows v_planned_trial_cols v_planned_trial_high v_planned_trial_wide v_planned_trial_folds v_planned_trial_wrong v_planned_trial_more v_planned_trial_rowOf v_planned_trial_colOf v_planned_trial_below v_planned_trial_face v_planned_trial_worn v_planned_trial_last v_planned_trial_bend v_planned_trial_tall v_planned_lines v_planned_ways v_search_found v_search_wrong v_search_more v_search_folds v_search_wanted v_search_levels0_rows v_search_levels0_cols v_search_levels0_high v_search_levels0_wide v_search_levels0_folds v_search_levels0_wrong v_search_levels0_more v_search_levels0_rowOf v_search_levels0_colOf v_search_levels0_below v_search_levels0_face v_search_levels0_worn v_search_levels0_last v_search_levels0_bend v_search_levels0_tall v_search_levels1_rows v_search_levels1_cols v_search_levels1_high v_search_levels1_wide v_search_levels1_folds v_search_levels1_wrong v_search_levels1_more v_search_levels1_rowOf v_search_levels1_colOf v_search_levels1_below v_search_levels1_face v_search_levels1_worn v_search_levels1_last v_search_levels1_bend v_search_levels1_tall v_search_levels2_rows v_search_levels2_cols v_search_levels2_high v_search_levels2_wide v_search_levels2_folds v_search_levels2_wrong v_search_levels2_more v_search_levels2_rowOf v_search_levels2_colOf v_search_levels2_below v_search_levels2_face v_search_levels2_worn v_search_levels2_last v_search_levels2_bend v_search_levels2_tall v_search_levels3_rows v_search_levels3_cols v_search_levels3_high v_search_levels3_wide v_search_levels3_folds v_search_levels3_wrong v_search_levels3_more v_search_levels3_rowOf v_search_levels3_colOf v_search_levels3_below v_search_levels3_face v_search_levels3_worn v_search_levels3_last v_search_levels3_bend v_search_levels3_tall v_search_path v_search_best v_strip_list v_strip_found v_strip_at v_changes_value v_changes_done v_changes_size v_changes_before v_changes_after v_foldings_size v_foldings_ran v_foldings_number v_foldings_kinds v_foldings_trace v_shelves0_holds v_shelves0_body v_shelves0_sort v_shelves0_size v_shelves0_items v_shelves1_holds v_shelves1_body v_shelves1_sort v_shelves1_size v_shelves1_items v_shelves2_holds v_shelves2_body v_shelves2_sort v_shelves2_size v_shelves2_items v_shelves3_holds v_shelves3_body v_shelves3_sort v_shelves3_size v_shelves3_items v_shelves4_holds v_shelves4_body v_shelves4_sort v_shelves4_size v_shelves4_items v_shelves5_holds v_shelves5_body v_shelves5_sort v_shelves5_size v_shelves5_items ++ wd_X9 cI cL cS cH b m_keptMany m_done m_rowsOf m_columnsOf m_folded m_wronged m_tapeMany m_textMany m_base m_at m_ends m_fault m_opened m_bentMany m_bentWrong m_moreWorn m_planned m_allWrong m_allWorn m_z m_wishedField m_isFound m_bestWrong m_bestWorn m_bestMany m_soughtBy m_sought m_soughtAt m_foundMany m_foundOrder m_isKept m_imageRows m_imageColumns m_imageFolded m_imageWronged m_bodies m_ran m_ownKind m_ownNumber m_limit m_changeWas m_changeIs m_shapeRows m_shapeColumns m_row m_column m_below m_face m_worn m_lastBend m_tape m_text m_names m_bends m_high m_to m_pileSize m_planLine m_planWay m_way1 m_bestWay m_order1 m_placeIn m_bodyKind m_trace m_shelf m_many m_items m_carried) H) (hD : va_D (fun q => s.heap.size ≤ q) (wd_X8 cI cL cS cH a v_hasImage v_now_rows v_now_cols v_now_high v_now_wide v_now_folds v_now_wrong v_now_more v_now_rowOf v_now_colOf v_now_below v_now_face v_now_worn v_now_last v_now_bend v_now_tall v_kept_rows v_kept_cols v_kept_high v_kept_wide v_kept_folds v_kept_wrong v_kept_more v_kept_rowOf v_kept_colOf v_kept_below v_kept_face v_kept_worn v_kept_last v_kept_bend v_kept_tall v_wearing_size v_wearing_stepCount v_wearing_draftCount v_wearing_place v_wearing_fault v_wearing_stacked v_wearing_tape v_wearing_steps v_wearing_draft v_wearing_stack v_planned_size v_planned_trial_rows v_planned_trial_cols v_planned_trial_high v_planned_trial_wide v_planned_trial_folds v_planned_trial_wrong v_planned_trial_more v_planned_trial_rowOf v_planned_trial_colOf v_planned_trial_below v_planned_trial_face v_planned_trial_worn v_planned_trial_last v_planned_trial_bend v_planned_trial_tall v_planned_lines v_planned_ways v_search_found v_search_wrong v_search_more v_search_folds v_search_wanted v_search_levels0_rows v_search_levels0_cols v_search_levels0_high v_search_levels0_wide v_search_levels0_folds v_search_levels0_wrong v_search_levels0_more v_search_levels0_rowOf v_search_levels0_colOf v_search_levels0_below v_search_levels0_face v_search_levels0_worn v_search_levels0_last v_search_levels0_bend v_search_levels0_tall v_search_levels1_rows v_search_levels1_cols v_search_levels1_high v_search_levels1_wide v_search_levels1_folds v_search_levels1_wrong v_search_levels1_more v_search_levels1_rowOf v_search_levels1_colOf v_search_levels1_below v_search_levels1_face v_search_levels1_worn v_search_levels1_last v_search_levels1_bend v_search_levels1_tall v_search_levels2_rows v_search_levels2_cols v_search_levels2_high v_search_levels2_wide v_search_levels2_folds v_search_levels2_wrong v_search_levels2_more v_search_levels2_rowOf v_search_levels2_colOf v_search_levels2_below v_search_levels2_face v_search_levels2_worn v_search_levels2_last v_search_levels2_bend v_search_levels2_tall v_search_levels3_rows v_search_levels3_cols v_search_levels3_high v_search_levels3_wide v_search_levels3_folds v_search_levels3_wrong v_search_levels3_more v_search_levels3_rowOf v_search_levels3_colOf v_search_levels3_below v_search_levels3_face v_search_levels3_worn v_search_levels3_last v_search_levels3_bend v_search_levels3_tall v_search_path v_search_best v_strip_list v_strip_found v_strip_at v_changes_value v_changes_done v_changes_size v_changes_before v_changes_after v_foldings_size v_foldings_ran v_foldings_number v_foldings_kinds v_foldings_trace v_shelves0_holds v_shelves0_body v_shelves0_sort v_shelves0_size v_shelves0_items v_shelves1_holds v_shelves1_body v_shelves1_sort v_shelves1_size v_shelves1_items v_shelves2_holds v_shelves2_body v_shelves2_sort v_shelves2_size v_shelves2_items v_shelves3_holds v_shelves3_body v_shelves3_sort v_shelves3_size v_shelves3_items v_shelves4_holds v_shelves4_body v_shelves4_sort v_shelves4_size v_shelves4_items v_shelves5_holds v_shelves5_body v_shelves5_sort v_shelves5_size v_shelves5_items ++ wd_X9 cI cL cS cH b m_keptMany m_done m_rowsOf m_columnsOf m_folded m_wronged m_tapeMany m_textMany m_base m_at m_ends m_fault m_opened m_bentMany m_bentWrong m_moreWorn m_planned m_allWrong m_allWorn m_z m_wishedField m_isFound m_bestWrong m_bestWorn m_bestMany m_soughtBy m_sought m_soughtAt m_foundMany m_foundOrder m_isKept m_imageRows m_imageColumns m_imageFolded m_imageWronged m_bodies m_ran m_ownKind m_ownNumber m_limit m_changeWas m_changeIs m_shapeRows m_shapeColumns m_row m_column m_below m_face m_worn m_lastBend m_tape m_text m_names m_bends m_high m_to m_pileSize m_planLine m_planWay m_way1 m_bestWay m_order1 m_placeIn m_bodyKind m_trace m_shelf m_many m_items m_carried)) (hS : va_S (fun q => s.heap.size ≤ q) s.heap H locs) (hl : lv_has ls 4 [(0, .ref bb), (1, .ref (a 0)), (2, .ref (b 0)), (3, .int x3)])
    (kk : ∀ (H : Heap) (locs : List Loc), va_P D mm_cl (wd_X8 cI cL cS cH a v_hasImage v_now_rows v_now_cols v_now_high v_now_wide v_now_folds v_now_wrong v_now_more v_now_rowOf v_now_colOf v_now_below v_now_face v_now_worn v_now_last v_now_bend v_now_tall v_kept_rows v_kept_cols v_kept_high v_kept_wide v_kept_folds v_kept_wrong v_kept_more v_kept_rowOf v_kept_colOf v_kept_below v_kept_face v_kept_worn v_kept_last v_kept_bend v_kept_tall v_wearing_size v_wearing_stepCount v_wearing_draftCount v_wearing_place v_wearing_fault v_wearing_stacked v_wearing_tape v_wearing_steps v_wearing_draft v_wearing_stack v_planned_size v_planned_trial_rows v_planned_trial_cols v_planned_trial_high v_planned_trial_wide v_planned_trial_folds v_planned_trial_wrong v_planned_trial_more v_planned_trial_rowOf v_planned_trial_colOf v_planned_trial_below v_planned_trial_face v_planned_trial_worn v_planned_trial_last v_planned_trial_bend v_planned_trial_tall v_planned_lines v_planned_ways v_search_found v_search_wrong v_search_more v_search_folds v_search_wanted v_search_levels0_rows v_search_levels0_cols v_search_levels0_high v_search_levels0_wide v_search_levels0_folds v_search_levels0_wrong v_search_levels0_more v_search_levels0_rowOf v_search_levels0_colOf v_search_levels0_below v_search_levels0_face v_search_levels0_worn v_search_levels0_last v_search_levels0_bend v_search_levels0_tall v_search_levels1_rows v_search_levels1_cols v_search_levels1_high v_search_levels1_wide v_search_levels1_folds v_search_levels1_wrong v_search_levels1_more v_search_levels1_rowOf v_search_levels1_colOf v_search_levels1_below v_search_levels1_face v_search_levels1_worn v_search_levels1_last v_search_levels1_bend v_search_levels1_tall v_search_levels2_rows v_search_levels2_cols v_search_levels2_high v_search_levels2_wide v_search_levels2_folds v_search_levels2_wrong v_search_levels2_more v_search_levels2_rowOf v_search_levels2_colOf v_search_levels2_below v_search_levels2_face v_search_levels2_worn v_search_levels2_last v_search_levels2_bend v_search_levels2_tall v_search_levels3_rows v_search_levels3_cols v_search_levels3_high v_search_levels3_wide v_search_levels3_folds v_search_levels3_wrong v_search_levels3_more v_search_levels3_rowOf v_search_levels3_colOf v_search_levels3_below v_search_levels3_face v_search_levels3_worn v_search_levels3_last v_search_levels3_bend v_search_levels3_tall v_search_path v_search_best v_strip_list v_strip_found v_strip_at v_changes_value v_changes_done v_changes_size v_changes_before v_changes_after v_foldings_size v_foldings_ran v_foldings_number v_foldings_kinds v_foldings_trace p_shelves0_holds p_shelves0_body v_shelves0_sort v_shelves0_size v_shelves0_items p_shelves1_holds p_shelves1_body v_shelves1_sort v_shelves1_size v_shelves1_items p_shelves2_holds p_shelves2_body v_shelves2_sort v_shelves2_size v_shelves2_items p_shelves3_holds p_shelves3_body v_shelves3_sort v_shelves3_size v_shelves3_items p_shelves4_holds p_shelves4_body v_shelves4_sort v_shelves4_size v_shelves4_items p_shelves5_holds p_shelves5_body v_shelves5_sort v_shelves5_size v_shelves5_items ++ wd_X9 cI cL cS cH b m_keptMany m_done m_rowsOf m_columnsOf m_folded m_wronged m_tapeMany m_textMany m_base m_at m_ends m_fault m_opened m_bentMany m_bentWrong m_moreWorn m_planned m_allWrong m_allWorn m_z m_wishedField m_isFound m_bestWrong m_bestWorn m_bestMany m_soughtBy m_sought m_soughtAt m_foundMany m_foundOrder m_isKept m_imageRows m_imageColumns m_imageFolded m_imageWronged m_bodies m_ran m_ownKind m_ownNumber m_limit m_changeWas m_changeIs m_shapeRows m_shapeColumns m_row m_column m_below m_face m_worn m_lastBend m_tape m_text m_names m_bends m_high m_to m_pileSize m_planLine m_planWay m_way1 m_bestWay m_order1 m_placeIn m_bodyKind m_trace q_shelf q_many m_items m_carried) H → va_D (fun q => s.heap.size ≤ q) (wd_X8 cI cL cS cH a v_hasImage v_now_rows v_now_cols v_now_high v_now_wide v_now_folds v_now_wrong v_now_more v_now_rowOf v_now_colOf v_now_below v_now_face v_now_worn v_now_last v_now_bend v_now_tall v_kept_rows v_kept_cols v_kept_high v_kept_wide v_kept_folds v_kept_wrong v_kept_more v_kept_rowOf v_kept_colOf v_kept_below v_kept_face v_kept_worn v_kept_last v_kept_bend v_kept_tall v_wearing_size v_wearing_stepCount v_wearing_draftCount v_wearing_place v_wearing_fault v_wearing_stacked v_wearing_tape v_wearing_steps v_wearing_draft v_wearing_stack v_planned_size v_planned_trial_rows v_planned_trial_cols v_planned_trial_high v_planned_trial_wide v_planned_trial_folds v_planned_trial_wrong v_planned_trial_more v_planned_trial_rowOf v_planned_trial_colOf v_planned_trial_below v_planned_trial_face v_planned_trial_worn v_planned_trial_last v_planned_trial_bend v_planned_trial_tall v_planned_lines v_planned_ways v_search_found v_search_wrong v_search_more v_search_folds v_search_wanted v_search_levels0_rows v_search_levels0_cols v_search_levels0_high v_search_levels0_wide v_search_levels0_folds v_search_levels0_wrong v_search_levels0_more v_search_levels0_rowOf v_search_levels0_colOf v_search_levels0_below v_search_levels0_face v_search_levels0_worn v_search_levels0_last v_search_levels0_bend v_search_levels0_tall v_search_levels1_rows v_search_levels1_cols v_search_levels1_high v_search_levels1_wide v_search_levels1_folds v_search_levels1_wrong v_search_levels1_more v_search_levels1_rowOf v_search_levels1_colOf v_search_levels1_below v_search_levels1_face v_search_levels1_worn v_search_levels1_last v_search_levels1_bend v_search_levels1_tall v_search_levels2_rows v_search_levels2_cols v_search_levels2_high v_search_levels2_wide v_search_levels2_folds v_search_levels2_wrong v_search_levels2_more v_search_levels2_rowOf v_search_levels2_colOf v_search_levels2_below v_search_levels2_face v_search_levels2_worn v_search_levels2_last v_search_levels2_bend v_search_levels2_tall v_search_levels3_rows v_search_levels3_cols v_search_levels3_high v_search_levels3_wide v_search_levels3_folds v_search_levels3_wrong v_search_levels3_more v_search_levels3_rowOf v_search_levels3_colOf v_search_levels3_below v_search_levels3_face v_search_levels3_worn v_search_levels3_last v_search_levels3_bend v_search_levels3_tall v_search_path v_search_best v_strip_list v_strip_found v_strip_at v_changes_value v_changes_done v_changes_size v_changes_before v_changes_after v_foldings_size v_foldings_ran v_foldings_number v_foldings_kinds v_foldings_trace p_shelves0_holds p_shelves0_body v_shelves0_sort v_shelves0_size v_shelves0_items p_shelves1_holds p_shelves1_body v_shelves1_sort v_shelves1_size v_shelves1_items p_shelves2_holds p_shelves2_body v_shelves2_sort v_shelves2_size v_shelves2_items p_shelves3_holds p_shelves3_body v_shelves3_sort v_shelves3_size v_shelves3_items p_shelves4_holds p_shelves4_body v_shelves4_sort v_shelves4_size v_shelves4_items p_shelves5_holds p_shelves5_body v_shelves5_sort v_shelves5_size v_shelves5_items ++ wd_X9 cI cL cS cH b m_keptMany m_done m_rowsOf m_columnsOf m_folded m_wronged m_tapeMany m_textMany m_base m_at m_ends m_fault m_opened m_bentMany m_bentWrong m_moreWorn m_planned m_allWrong m_allWorn m_z m_wishedField m_isFound m_bestWrong m_bestWorn m_bestMany m_soughtBy m_sought m_soughtAt m_foundMany m_foundOrder m_isKept m_imageRows m_imageColumns m_imageFolded m_imageWronged m_bodies m_ran m_ownKind m_ownNumber m_limit m_changeWas m_changeIs m_shapeRows m_shapeColumns m_row m_column m_below m_face m_worn m_lastBend m_tape m_text m_names m_bends m_high m_to m_pileSize m_planLine m_planWay m_way1 m_bestWay m_order1 m_placeIn m_bodyKind m_trace q_shelf q_many m_items m_carried) → va_S (fun q => s.heap.size ≤ q) s.heap H locs → W p l e room_1 s m #[Value.ref bb] below meth c H locs cells slots Q (F0 m 1391 ls [])) : W p l e room_1 s m #[Value.ref bb] below meth c H locs cells slots Q (F0 m 1090 ls []) := by
  obtain ⟨hx, hb, hml, hown, hts, hr, hlocks, hK, hSt⟩ := id C0
  have hA : ∀ q : Nat, s.heap.size ≤ q → (fun q : Nat => s.heap.size ≤ q) q := fun _ h => h
  have hbA : ¬ (fun q : Nat => s.heap.size ≤ q) bb := Nat.not_le.mpr hbl
  refine lv_aload_n hx hb dL_law_1090 rfl (lv_at hl 1 rfl) ?_
  refine lv_aload_n hx hb dL_law_1091 rfl (lv_at hl 0 rfl) ?_
  refine lv_iload_n hx hb dL_law_1092 rfl (lv_at hl 3 rfl) ?_
  refine lv_iconst (v := 1) hx hb dL_law_1093 (by decide) ?_
  refine lv_iadd hx hb dL_law_1094 ?_
  refine va_sld hx hb hX hbl hbA hS hi_1 dL_law_1095 ?_
  refine W.eq (g2 := F0 m 1096 ls [.int y1, .ref (a 0)]) (by rw [ey_1]) ?_
  refine lv_aload_n hx hb dL_law_1096 rfl (lv_at hl 0 rfl) ?_
  refine lv_iload_n hx hb dL_law_1097 rfl (lv_at hl 3 rfl) ?_
  refine lv_iconst (v := 2) hx hb dL_law_1098 (by decide) ?_
  refine lv_iadd hx hb dL_law_1099 ?_
  refine va_sld hx hb hX hbl hbA hS hi_2 dL_law_1100 ?_
  refine W.eq (g2 := F0 m 1101 ls [.int y2, .int y1, .ref (a 0)]) (by rw [ey_2]) ?_
  refine mm_callA (ci := 8) (rest := []) C0 lk_L_145 (ctX8_keep (a := a) (d := 2) (Nat.le_refl _) h8) (by decide) rfl hl.1 rfl (mm_cat rfl) dL_law_1101 hc1 hc2 hP hD hA hS rfl rfl (fun H locs hP hD hS => ?_)
  refine W.eq (g2 := F0 m 1104 ls [.int r8]) rfl ?_
  refine lv_pop hx hb dL_law_1104 rfl ?_
  refine lv_aload_n hx hb dL_law_1105 rfl (lv_at hl 2 rfl) ?_
  refine lv_aload_n hx hb dL_law_1106 rfl (lv_at hl 0 rfl) ?_
  refine lv_iload_n hx hb dL_law_1107 rfl (lv_at hl 3 rfl) ?_
  refine lv_iconst (v := 1) hx hb dL_law_1108 (by decide) ?_
  refine lv_iadd hx hb dL_law_1109 ?_
  refine va_sld hx hb hX hbl hbA hS hi_1 dL_law_1110 ?_
  refine W.eq (g2 := F0 m 1111 ls [.int y1, .ref (b 0)]) (by rw [ey_1]) ?_
  refine lv_aload_n hx hb dL_law_1111 rfl (lv_at hl 0 rfl) ?_
  refine lv_iload_n hx hb dL_law_1112 rfl (lv_at hl 3 rfl) ?_
  refine lv_iconst (v := 2) hx hb dL_law_1113 (by decide) ?_
  refine lv_iadd hx hb dL_law_1114 ?_
  refine va_sld hx hb hX hbl hbA hS hi_2 dL_law_1115 ?_
  refine W.eq (g2 := F0 m 1116 ls [.int y2, .int y1, .ref (b 0)]) (by rw [ey_2]) ?_
  refine mm_callB (q0 := 99) (ci := 9) (rest := []) C0 lk_L_148 (ctX9_keep (a := b) (d := 3) (Nat.le_refl _) h9) (by decide) rfl hl.1 rfl (mm_cat rfl) dL_law_1116 hc1 hc2 hP hD hA hS rfl rfl (fun H locs hP hD hS => ?_)
  refine W.eq (g2 := F0 m 1119 ls [.int r9]) rfl ?_
  refine lv_pop hx hb dL_law_1119 rfl ?_
  refine lv_goto (tgt := 1391) hx hb dL_law_1120 (by decide) ?_
  exact kk H locs hP hD hS

set_option maxHeartbeats 8000000 in
set_option maxRecDepth 100000 in
theorem lc_33 {p : Program} {l : Launch} {e : Env} {s : State} {m : MethodId} {below : List Frame} {meth : Method} {c : Code} {D : va_G} {cI cL cS cH : ClassId} {bb L N : Nat} {xs : Nat → Int32} {x3 : Int32} {a b : Nat → Nat} {v_hasImage : Bool} {v_now_rows : Int32} {v_now_cols : Int32} {v_now_high : Int32} {v_now_wide : Int32} {v_now_folds : Int32} {v_now_wrong : Int32} {v_now_more : Int32} {v_now_rowOf : List Int32} {v_now_colOf : List Int32} {v_now_below : List Int32} {v_now_face : List Int32} {v_now_worn : List Int32} {v_now_last : List Int32} {v_now_bend : List Int32} {v_now_tall : List Int32} {v_kept_rows : Int32} {v_kept_cols : Int32} {v_kept_high : Int32} {v_kept_wide : Int32} {v_kept_folds : Int32} {v_kept_wrong : Int32} {v_kept_more : Int32} {v_kept_rowOf : List Int32} {v_kept_colOf : List Int32} {v_kept_below : List Int32} {v_kept_face : List Int32} {v_kept_worn : List Int32} {v_kept_last : List Int32} {v_kept_bend : List Int32} {v_kept_tall : List Int32} {v_wearing_size : Int32} {v_wearing_stepCount : Int32} {v_wearing_draftCount : Int32} {v_wearing_place : Int32} {v_wearing_fault : Int32} {v_wearing_stacked : Int32} {v_wearing_tape : List Int32} {v_wearing_steps : List Int32} {v_wearing_draft : List Int32} {v_wearing_stack : List Int32} {v_planned_size : Int32} {v_planned_trial_rows : Int32} {v_planned_trial_cols : Int32} {v_planned_trial_high : Int32} {v_planned_trial_wide : Int32} {v_planned_trial_folds : Int32} {v_planned_trial_wrong : Int32} {v_planned_trial_more : Int32} {v_planned_trial_rowOf : List Int32} {v_planned_trial_colOf : List Int32} {v_planned_trial_below : List Int32} {v_planned_trial_face : List Int32} {v_planned_trial_worn : List Int32} {v_planned_trial_last : List Int32} {v_planned_trial_bend : List Int32} {v_planned_trial_tall : List Int32} {v_planned_lines : List Int32} {v_planned_ways : List Int32} {v_search_found : Bool} {v_search_wrong : Int32} {v_search_more : Int32} {v_search_folds : Int32} {v_search_wanted : Int32} {v_search_levels0_rows : Int32} {v_search_levels0_cols : Int32} {v_search_levels0_high : Int32} {v_search_levels0_wide : Int32} {v_search_levels0_folds : Int32} {v_search_levels0_wrong : Int32} {v_search_levels0_more : Int32} {v_search_levels0_rowOf : List Int32} {v_search_levels0_colOf : List Int32} {v_search_levels0_below : List Int32} {v_search_levels0_face : List Int32} {v_search_levels0_worn : List Int32} {v_search_levels0_last : List Int32} {v_search_levels0_bend : List Int32} {v_search_levels0_tall : List Int32} {v_search_levels1_rows : Int32} {v_search_levels1_cols : Int32} {v_search_levels1_high : Int32} {v_search_levels1_wide : Int32} {v_search_levels1_folds : Int32} {v_search_levels1_wrong : Int32} {v_search_levels1_more : Int32} {v_search_levels1_rowOf : List Int32} {v_search_levels1_colOf : List Int32} {v_search_levels1_below : List Int32} {v_search_levels1_face : List Int32} {v_search_levels1_worn : List Int32} {v_search_levels1_last : List Int32} {v_search_levels1_bend : List Int32} {v_search_levels1_tall : List Int32} {v_search_levels2_rows : Int32} {v_search_levels2_cols : Int32} {v_search_levels2_high : Int32} {v_search_levels2_wide : Int32} {v_search_levels2_folds : Int32} {v_search_levels2_wrong : Int32} {v_search_levels2_more : Int32} {v_search_levels2_rowOf : List Int32} {v_search_levels2_colOf : List Int32} {v_search_levels2_below : List Int32} {v_search_levels2_face : List Int32} {v_search_levels2_worn : List Int32} {v_search_levels2_last : List Int32} {v_search_levels2_bend : List Int32} {v_search_levels2_tall : List Int32} {v_search_levels3_rows : Int32} {v_search_levels3_cols : Int32} {v_search_levels3_high : Int32} {v_search_levels3_wide : Int32} {v_search_levels3_folds : Int32} {v_search_levels3_wrong : Int32} {v_search_levels3_more : Int32} {v_search_levels3_rowOf : List Int32} {v_search_levels3_colOf : List Int32} {v_search_levels3_below : List Int32} {v_search_levels3_face : List Int32} {v_search_levels3_worn : List Int32} {v_search_levels3_last : List Int32} {v_search_levels3_bend : List Int32} {v_search_levels3_tall : List Int32} {v_search_path : List Int32} {v_search_best : List Int32} {v_strip_list : List Int32} {v_strip_found : List Int32} {v_strip_at : List Int32} {v_changes_value : Int32} {v_changes_done : Int32} {v_changes_size : Int32} {v_changes_before : List Int32} {v_changes_after : List Int32} {v_foldings_size : Int32} {v_foldings_ran : Int32} {v_foldings_number : Int32} {v_foldings_kinds : List Int32} {v_foldings_trace : List Int32} {v_shelves0_holds : Int32} {v_shelves0_body : Int32} {v_shelves0_sort : Int32} {v_shelves0_size : Int32} {v_shelves0_items : List Int64} {v_shelves1_holds : Int32} {v_shelves1_body : Int32} {v_shelves1_sort : Int32} {v_shelves1_size : Int32} {v_shelves1_items : List Int64} {v_shelves2_holds : Int32} {v_shelves2_body : Int32} {v_shelves2_sort : Int32} {v_shelves2_size : Int32} {v_shelves2_items : List Int64} {v_shelves3_holds : Int32} {v_shelves3_body : Int32} {v_shelves3_sort : Int32} {v_shelves3_size : Int32} {v_shelves3_items : List Int64} {v_shelves4_holds : Int32} {v_shelves4_body : Int32} {v_shelves4_sort : Int32} {v_shelves4_size : Int32} {v_shelves4_items : List Int64} {v_shelves5_holds : Int32} {v_shelves5_body : Int32} {v_shelves5_sort : Int32} {v_shelves5_size : Int32} {v_shelves5_items : List Int64} {m_keptMany : Int32} {m_done : Int32} {m_rowsOf : Int32} {m_columnsOf : Int32} {m_folded : Int32} {m_wronged : Int32} {m_tapeMany : Int32} {m_textMany : Int32} {m_base : Int32} {m_at : Int32} {m_ends : Int32} {m_fault : Int32} {m_opened : Int32} {m_bentMany : Int32} {m_bentWrong : Int32} {m_moreWorn : Int32} {m_planned : Int32} {m_allWrong : Int32} {m_allWorn : Int32} {m_z : Int32} {m_wishedField : Int32} {m_isFound : Bool} {m_bestWrong : Int32} {m_bestWorn : Int32} {m_bestMany : Int32} {m_soughtBy : Int32} {m_sought : Int32} {m_soughtAt : Int32} {m_foundMany : Int32} {m_foundOrder : Int32} {m_isKept : Bool} {m_imageRows : Int32} {m_imageColumns : Int32} {m_imageFolded : Int32} {m_imageWronged : Int32} {m_bodies : Int32} {m_ran : Int32} {m_ownKind : Int32} {m_ownNumber : Int32} {m_limit : List Int32} {m_changeWas : List Int32} {m_changeIs : List Int32} {m_shapeRows : List Int32} {m_shapeColumns : List Int32} {m_row : List Int32} {m_column : List Int32} {m_below : List Int32} {m_face : List Int32} {m_worn : List Int32} {m_lastBend : List Int32} {m_tape : List Int32} {m_text : List Int32} {m_names : List Int32} {m_bends : List Int32} {m_high : List Int32} {m_to : List Int32} {m_pileSize : List Int32} {m_planLine : List Int32} {m_planWay : List Int32} {m_way1 : List Int32} {m_bestWay : List Int32} {m_order1 : List Int32} {m_placeIn : List Int32} {m_bodyKind : List Int32} {m_trace : List Int32} {m_shelf : List Int32} {m_many : List Int32} {m_items : List Int64} {m_carried : List Int64}  {r8 : Int32} {p_shelves0_holds : Int32} {p_shelves0_sort : Int32} {p_shelves0_size : Int32} {p_shelves0_items : List Int64} {p_shelves1_holds : Int32} {p_shelves1_sort : Int32} {p_shelves1_size : Int32} {p_shelves1_items : List Int64} {p_shelves2_holds : Int32} {p_shelves2_sort : Int32} {p_shelves2_size : Int32} {p_shelves2_items : List Int64} {p_shelves3_holds : Int32} {p_shelves3_sort : Int32} {p_shelves3_size : Int32} {p_shelves3_items : List Int64} {p_shelves4_holds : Int32} {p_shelves4_sort : Int32} {p_shelves4_size : Int32} {p_shelves4_items : List Int64} {p_shelves5_holds : Int32} {p_shelves5_sort : Int32} {p_shelves5_size : Int32} {p_shelves5_items : List Int64} {r9 : Int32} {q_shelf : List Int32} {q_many : List Int32} {q_items : List Int64} (C0 : mm_Cx p s m #[Value.ref bb] meth c RL code 4 ret D (mm_T cI cL cS cH) (fun q => s.heap.size ≤ q)) (hX : va_X bb L xs s s.heap) (hbl : bb < s.heap.size) {y1 : Int32} (hi_1 : vp_in (x3 + (1 : Int32)) L) (ey_1 : xs (x3 + (1 : Int32)).toNatClampNeg = y1) {y2 : Int32} (hi_2 : vp_in (x3 + (2 : Int32)) L) (ey_2 : xs (x3 + (2 : Int32)).toNatClampNeg = y2) {y3 : Int32} (hi_3 : vp_in (x3 + (3 : Int32)) L) (ey_3 : xs (x3 + (3 : Int32)).toNatClampNeg = y3) (h8 : fX8_row N y1 y2 y3 v_shelves0_holds v_shelves0_sort v_shelves0_size v_shelves0_items v_shelves1_holds v_shelves1_sort v_shelves1_size v_shelves1_items v_shelves2_holds v_shelves2_sort v_shelves2_size v_shelves2_items v_shelves3_holds v_shelves3_sort v_shelves3_size v_shelves3_items v_shelves4_holds v_shelves4_sort v_shelves4_size v_shelves4_items v_shelves5_holds v_shelves5_sort v_shelves5_size v_shelves5_items = some (r8, p_shelves0_holds, p_shelves0_sort, p_shelves0_size, p_shelves0_items, p_shelves1_holds, p_shelves1_sort, p_shelves1_size, p_shelves1_items, p_shelves2_holds, p_shelves2_sort, p_shelves2_size, p_shelves2_items, p_shelves3_holds, p_shelves3_sort, p_shelves3_size, p_shelves3_items, p_shelves4_holds, p_shelves4_sort, p_shelves4_size, p_shelves4_items, p_shelves5_holds, p_shelves5_sort, p_shelves5_size, p_shelves5_items)) (h9 : fX9_row N y1 y2 y3 m_shelf m_many m_items = some (r9, q_shelf, q_many, q_items)) {cells slots : Nat} {Q : State → Prop} (hc1 : cells ≤ room_1.cells) (hc2 : slots ≤ room_1.slots) {H : Heap} {locs : List Loc} {ls : Array Slot}
    (hP : va_P D mm_cl (wd_X8 cI cL cS cH a v_hasImage v_now_rows v_now_cols v_now_high v_now_wide v_now_folds v_now_wrong v_now_more v_now_rowOf v_now_colOf v_now_below v_now_face v_now_worn v_now_last v_now_bend v_now_tall v_kept_rows v_kept_cols v_kept_high v_kept_wide v_kept_folds v_kept_wrong v_kept_more v_kept_rowOf v_kept_colOf v_kept_below v_kept_face v_kept_worn v_kept_last v_kept_bend v_kept_tall v_wearing_size v_wearing_stepCount v_wearing_draftCount v_wearing_place v_wearing_fault v_wearing_stacked v_wearing_tape v_wearing_steps v_wearing_draft v_wearing_stack v_planned_size v_planned_trial_rows v_planned_trial_cols v_planned_trial_high v_planned_trial_wide v_planned_trial_folds v_planned_trial_wrong v_planned_trial_more v_planned_trial_rowOf v_planned_trial_colOf v_planned_trial_below v_planned_trial_face v_planned_trial_worn v_planned_trial_last v_planned_trial_bend v_planned_trial_tall v_planned_lines v_planned_ways v_search_found v_search_wrong v_search_more v_search_folds v_search_wanted v_search_levels0_rows v_search_levels0_cols v_search_levels0_high v_search_levels0_wide v_search_levels0_folds v_search_levels0_wrong v_search_levels0_more v_search_levels0_rowOf v_search_levels0_colOf v_search_levels0_below v_search_levels0_face v_search_levels0_worn v_search_levels0_last v_search_levels0_bend v_search_levels0_tall v_search_levels1_rows v_search_levels1_cols v_search_levels1_high v_search_levels1_wide v_search_levels1_folds v_search_levels1_wrong v_search_levels1_more v_search_levels1_rowOf v_search_levels1_colOf v_search_levels1_below v_search_levels1_face v_search_levels1_worn v_search_levels1_last v_search_levels1_bend v_search_levels1_tall v_search_levels2_rows v_search_levels2_cols v_search_levels2_high v_search_levels2_wide v_search_levels2_folds v_search_levels2_wrong v_search_levels2_more v_search_levels2_rowOf v_search_levels2_colOf v_search_levels2_below v_search_levels2_face v_search_levels2_worn v_search_levels2_last v_search_levels2_bend v_search_levels2_tall v_search_levels3_rows v_search_levels3_cols v_search_levels3_high v_search_levels3_wide v_search_levels3_folds v_search_levels3_wrong v_search_levels3_more v_search_levels3_rowOf v_search_levels3_colOf v_search_levels3_below v_search_levels3_face v_search_levels3_worn v_search_levels3_last v_search_levels3_bend v_search_levels3_tall v_search_path v_search_best v_strip_list v_strip_found v_strip_at v_changes_value v_changes_done v_changes_size v_changes_before v_changes_after v_foldings_size v_foldings_ran v_foldings_number v_foldings_kinds v_foldings_trace v_shelves0_holds v_shelves0_body v_shelves0_sort v_shelves0_size v_shelves0_items v_shelves1_holds v_shelves1_body v_shelves1_sort v_shelves1_size v_shelves1_items v_shelves2_holds v_shelves2_body v_shelves2_sort v_shelves2_size v_shelves2_items v_shelves3_holds v_shelves3_body v_shelves3_sort v_shelves3_size v_shelves3_items v_shelves4_holds v_shelves4_body v_shelves4_sort v_shelves4_size v_shelves4_items v_shelves5_holds v_shelves5_body v_shelves5_sort v_shelves5_size v_shelves5_items ++ wd_X9 cI cL cS cH b m_keptMany m_done m_rowsOf m_columnsOf m_folded m_wronged m_tapeMany m_textMany m_base m_at m_ends m_fault m_opened m_bentMany m_bentWrong m_moreWorn m_planned m_allWrong m_allWorn m_z m_wishedField m_isFound m_bestWrong m_bestWorn m_bestMany m_soughtBy m_sought m_soughtAt m_foundMany m_foundOrder m_isKept m_imageRows m_imageColumns m_imageFolded m_imageWronged m_bodies m_ran m_ownKind m_ownNumber m_limit m_changeWas m_changeIs m_shapeRows m_shapeColumns m_row m_column m_below m_face m_worn m_lastBend m_tape m_text m_names m_bends m_high m_to m_pileSize m_planLine m_planWay m_way1 m_bestWay m_order1 m_placeIn m_bodyKind m_trace m_shelf m_many m_items m_carried) H) (hD : va_D (fun q => s.heap.size ≤ q) (wd_X8 cI cL cS cH a v_hasImage v_now_rows v_now_cols v_now_high v_now_wide v_now_folds v_now_wrong v_now_more v_now_rowOf v_now_colOf v_now_below v_now_face v_now_worn v_now_last v_now_bend v_now_tall v_kept_rows v_kept_cols v_kept_high v_kept_wide v_kept_folds v_kept_wrong v_kept_more v_kept_rowOf v_kept_colOf v_kept_below v_kept_face v_kept_worn v_kept_last v_kept_bend v_kept_tall v_wearing_size v_wearing_stepCount v_wearing_draftCount v_wearing_place v_wearing_fault v_wearing_stacked v_wearing_tape v_wearing_steps v_wearing_draft v_wearing_stack v_planned_size v_planned_trial_rows v_planned_trial_cols v_planned_trial_high v_planned_trial_wide v_planned_trial_folds v_planned_trial_wrong v_planned_trial_more v_planned_trial_rowOf v_planned_trial_colOf v_planned_trial_below v_planned_trial_face v_planned_trial_worn v_planned_trial_last v_planned_trial_bend v_planned_trial_tall v_planned_lines v_planned_ways v_search_found v_search_wrong v_search_more v_search_folds v_search_wanted v_search_levels0_rows v_search_levels0_cols v_search_levels0_high v_search_levels0_wide v_search_levels0_folds v_search_levels0_wrong v_search_levels0_more v_search_levels0_rowOf v_search_levels0_colOf v_search_levels0_below v_search_levels0_face v_search_levels0_worn v_search_levels0_last v_search_levels0_bend v_search_levels0_tall v_search_levels1_rows v_search_levels1_cols v_search_levels1_high v_search_levels1_wide v_search_levels1_folds v_search_levels1_wrong v_search_levels1_more v_search_levels1_rowOf v_search_levels1_colOf v_search_levels1_below v_search_levels1_face v_search_levels1_worn v_search_levels1_last v_search_levels1_bend v_search_levels1_tall v_search_levels2_rows v_search_levels2_cols v_search_levels2_high v_search_levels2_wide v_search_levels2_folds v_search_levels2_wrong v_search_levels2_more v_search_levels2_rowOf v_search_levels2_colOf v_search_levels2_below v_search_levels2_face v_search_levels2_worn v_search_levels2_last v_search_levels2_bend v_search_levels2_tall v_search_levels3_rows v_search_levels3_cols v_search_levels3_high v_search_levels3_wide v_search_levels3_folds v_search_levels3_wrong v_search_levels3_more v_search_levels3_rowOf v_search_levels3_colOf v_search_levels3_below v_search_levels3_face v_search_levels3_worn v_search_levels3_last v_search_levels3_bend v_search_levels3_tall v_search_path v_search_best v_strip_list v_strip_found v_strip_at v_changes_value v_changes_done v_changes_size v_changes_before v_changes_after v_foldings_size v_foldings_ran v_foldings_number v_foldings_kinds v_foldings_trace v_shelves0_holds v_shelves0_body v_shelves0_sort v_shelves0_size v_shelves0_items v_shelves1_holds v_shelves1_body v_shelves1_sort v_shelves1_size v_shelves1_items v_shelves2_holds v_shelves2_body v_shelves2_sort v_shelves2_size v_shelves2_items v_shelves3_holds v_shelves3_body v_shelves3_sort v_shelves3_size v_shelves3_items v_shelves4_holds v_shelves4_body v_shelves4_sort v_shelves4_size v_shelves4_items v_shelves5_holds v_shelves5_body v_shelves5_sort v_shelves5_size v_shelves5_items ++ wd_X9 cI cL cS cH b m_keptMany m_done m_rowsOf m_columnsOf m_folded m_wronged m_tapeMany m_textMany m_base m_at m_ends m_fault m_opened m_bentMany m_bentWrong m_moreWorn m_planned m_allWrong m_allWorn m_z m_wishedField m_isFound m_bestWrong m_bestWorn m_bestMany m_soughtBy m_sought m_soughtAt m_foundMany m_foundOrder m_isKept m_imageRows m_imageColumns m_imageFolded m_imageWronged m_bodies m_ran m_ownKind m_ownNumber m_limit m_changeWas m_changeIs m_shapeRows m_shapeColumns m_row m_column m_below m_face m_worn m_lastBend m_tape m_text m_names m_bends m_high m_to m_pileSize m_planLine m_planWay m_way1 m_bestWay m_order1 m_placeIn m_bodyKind m_trace m_shelf m_many m_items m_carried)) (hS : va_S (fun q => s.heap.size ≤ q) s.heap H locs) (hl : lv_has ls 4 [(0, .ref bb), (1, .ref (a 0)), (2, .ref (b 0)), (3, .int x3)])
    (kk : ∀ (H : Heap) (locs : List Loc), va_P D mm_cl (wd_X8 cI cL cS cH a v_hasImage v_now_rows v_now_cols v_now_high v_now_wide v_now_folds v_now_wrong v_now_more v_now_rowOf v_now_colOf v_now_below v_now_face v_now_worn v_now_last v_now_bend v_now_tall v_kept_rows v_kept_cols v_kept_high v_kept_wide v_kept_folds v_kept_wrong v_kept_more v_kept_rowOf v_kept_colOf v_kept_below v_kept_face v_kept_worn v_kept_last v_kept_bend v_kept_tall v_wearing_size v_wearing_stepCount v_wearing_draftCount v_wearing_place v_wearing_fault v_wearing_stacked v_wearing_tape v_wearing_steps v_wearing_draft v_wearing_stack v_planned_size v_planned_trial_rows v_planned_trial_cols v_planned_trial_high v_planned_trial_wide v_planned_trial_folds v_planned_trial_wrong v_planned_trial_more v_planned_trial_rowOf v_planned_trial_colOf v_planned_trial_below v_planned_trial_face v_planned_trial_worn v_planned_trial_last v_planned_trial_bend v_planned_trial_tall v_planned_lines v_planned_ways v_search_found v_search_wrong v_search_more v_search_folds v_search_wanted v_search_levels0_rows v_search_levels0_cols v_search_levels0_high v_search_levels0_wide v_search_levels0_folds v_search_levels0_wrong v_search_levels0_more v_search_levels0_rowOf v_search_levels0_colOf v_search_levels0_below v_search_levels0_face v_search_levels0_worn v_search_levels0_last v_search_levels0_bend v_search_levels0_tall v_search_levels1_rows v_search_levels1_cols v_search_levels1_high v_search_levels1_wide v_search_levels1_folds v_search_levels1_wrong v_search_levels1_more v_search_levels1_rowOf v_search_levels1_colOf v_search_levels1_below v_search_levels1_face v_search_levels1_worn v_search_levels1_last v_search_levels1_bend v_search_levels1_tall v_search_levels2_rows v_search_levels2_cols v_search_levels2_high v_search_levels2_wide v_search_levels2_folds v_search_levels2_wrong v_search_levels2_more v_search_levels2_rowOf v_search_levels2_colOf v_search_levels2_below v_search_levels2_face v_search_levels2_worn v_search_levels2_last v_search_levels2_bend v_search_levels2_tall v_search_levels3_rows v_search_levels3_cols v_search_levels3_high v_search_levels3_wide v_search_levels3_folds v_search_levels3_wrong v_search_levels3_more v_search_levels3_rowOf v_search_levels3_colOf v_search_levels3_below v_search_levels3_face v_search_levels3_worn v_search_levels3_last v_search_levels3_bend v_search_levels3_tall v_search_path v_search_best v_strip_list v_strip_found v_strip_at v_changes_value v_changes_done v_changes_size v_changes_before v_changes_after v_foldings_size v_foldings_ran v_foldings_number v_foldings_kinds v_foldings_trace p_shelves0_holds v_shelves0_body p_shelves0_sort p_shelves0_size p_shelves0_items p_shelves1_holds v_shelves1_body p_shelves1_sort p_shelves1_size p_shelves1_items p_shelves2_holds v_shelves2_body p_shelves2_sort p_shelves2_size p_shelves2_items p_shelves3_holds v_shelves3_body p_shelves3_sort p_shelves3_size p_shelves3_items p_shelves4_holds v_shelves4_body p_shelves4_sort p_shelves4_size p_shelves4_items p_shelves5_holds v_shelves5_body p_shelves5_sort p_shelves5_size p_shelves5_items ++ wd_X9 cI cL cS cH b m_keptMany m_done m_rowsOf m_columnsOf m_folded m_wronged m_tapeMany m_textMany m_base m_at m_ends m_fault m_opened m_bentMany m_bentWrong m_moreWorn m_planned m_allWrong m_allWorn m_z m_wishedField m_isFound m_bestWrong m_bestWorn m_bestMany m_soughtBy m_sought m_soughtAt m_foundMany m_foundOrder m_isKept m_imageRows m_imageColumns m_imageFolded m_imageWronged m_bodies m_ran m_ownKind m_ownNumber m_limit m_changeWas m_changeIs m_shapeRows m_shapeColumns m_row m_column m_below m_face m_worn m_lastBend m_tape m_text m_names m_bends m_high m_to m_pileSize m_planLine m_planWay m_way1 m_bestWay m_order1 m_placeIn m_bodyKind m_trace q_shelf q_many q_items m_carried) H → va_D (fun q => s.heap.size ≤ q) (wd_X8 cI cL cS cH a v_hasImage v_now_rows v_now_cols v_now_high v_now_wide v_now_folds v_now_wrong v_now_more v_now_rowOf v_now_colOf v_now_below v_now_face v_now_worn v_now_last v_now_bend v_now_tall v_kept_rows v_kept_cols v_kept_high v_kept_wide v_kept_folds v_kept_wrong v_kept_more v_kept_rowOf v_kept_colOf v_kept_below v_kept_face v_kept_worn v_kept_last v_kept_bend v_kept_tall v_wearing_size v_wearing_stepCount v_wearing_draftCount v_wearing_place v_wearing_fault v_wearing_stacked v_wearing_tape v_wearing_steps v_wearing_draft v_wearing_stack v_planned_size v_planned_trial_rows v_planned_trial_cols v_planned_trial_high v_planned_trial_wide v_planned_trial_folds v_planned_trial_wrong v_planned_trial_more v_planned_trial_rowOf v_planned_trial_colOf v_planned_trial_below v_planned_trial_face v_planned_trial_worn v_planned_trial_last v_planned_trial_bend v_planned_trial_tall v_planned_lines v_planned_ways v_search_found v_search_wrong v_search_more v_search_folds v_search_wanted v_search_levels0_rows v_search_levels0_cols v_search_levels0_high v_search_levels0_wide v_search_levels0_folds v_search_levels0_wrong v_search_levels0_more v_search_levels0_rowOf v_search_levels0_colOf v_search_levels0_below v_search_levels0_face v_search_levels0_worn v_search_levels0_last v_search_levels0_bend v_search_levels0_tall v_search_levels1_rows v_search_levels1_cols v_search_levels1_high v_search_levels1_wide v_search_levels1_folds v_search_levels1_wrong v_search_levels1_more v_search_levels1_rowOf v_search_levels1_colOf v_search_levels1_below v_search_levels1_face v_search_levels1_worn v_search_levels1_last v_search_levels1_bend v_search_levels1_tall v_search_levels2_rows v_search_levels2_cols v_search_levels2_high v_search_levels2_wide v_search_levels2_folds v_search_levels2_wrong v_search_levels2_more v_search_levels2_rowOf v_search_levels2_colOf v_search_levels2_below v_search_levels2_face v_search_levels2_worn v_search_levels2_last v_search_levels2_bend v_search_levels2_tall v_search_levels3_rows v_search_levels3_cols v_search_levels3_high v_search_levels3_wide v_search_levels3_folds v_search_levels3_wrong v_search_levels3_more v_search_levels3_rowOf v_search_levels3_colOf v_search_levels3_below v_search_levels3_face v_search_levels3_worn v_search_levels3_last v_search_levels3_bend v_search_levels3_tall v_search_path v_search_best v_strip_list v_strip_found v_strip_at v_changes_value v_changes_done v_changes_size v_changes_before v_changes_after v_foldings_size v_foldings_ran v_foldings_number v_foldings_kinds v_foldings_trace p_shelves0_holds v_shelves0_body p_shelves0_sort p_shelves0_size p_shelves0_items p_shelves1_holds v_shelves1_body p_shelves1_sort p_shelves1_size p_shelves1_items p_shelves2_holds v_shelves2_body p_shelves2_sort p_shelves2_size p_shelves2_items p_shelves3_holds v_shelves3_body p_shelves3_sort p_shelves3_size p_shelves3_items p_shelves4_holds v_shelves4_body p_shelves4_sort p_shelves4_size p_shelves4_items p_shelves5_holds v_shelves5_body p_shelves5_sort p_shelves5_size p_shelves5_items ++ wd_X9 cI cL cS cH b m_keptMany m_done m_rowsOf m_columnsOf m_folded m_wronged m_tapeMany m_textMany m_base m_at m_ends m_fault m_opened m_bentMany m_bentWrong m_moreWorn m_planned m_allWrong m_allWorn m_z m_wishedField m_isFound m_bestWrong m_bestWorn m_bestMany m_soughtBy m_sought m_soughtAt m_foundMany m_foundOrder m_isKept m_imageRows m_imageColumns m_imageFolded m_imageWronged m_bodies m_ran m_ownKind m_ownNumber m_limit m_changeWas m_changeIs m_shapeRows m_shapeColumns m_row m_column m_below m_face m_worn m_lastBend m_tape m_text m_names m_bends m_high m_to m_pileSize m_planLine m_planWay m_way1 m_bestWay m_order1 m_placeIn m_bodyKind m_trace q_shelf q_many q_items m_carried) → va_S (fun q => s.heap.size ≤ q) s.heap H locs → W p l e room_1 s m #[Value.ref bb] below meth c H locs cells slots Q (F0 m 1391 ls [])) : W p l e room_1 s m #[Value.ref bb] below meth c H locs cells slots Q (F0 m 1123 ls []) := by
  obtain ⟨hx, hb, hml, hown, hts, hr, hlocks, hK, hSt⟩ := id C0
  have hA : ∀ q : Nat, s.heap.size ≤ q → (fun q : Nat => s.heap.size ≤ q) q := fun _ h => h
  have hbA : ¬ (fun q : Nat => s.heap.size ≤ q) bb := Nat.not_le.mpr hbl
  refine lv_aload_n hx hb dL_law_1123 rfl (lv_at hl 1 rfl) ?_
  refine lv_aload_n hx hb dL_law_1124 rfl (lv_at hl 0 rfl) ?_
  refine lv_iload_n hx hb dL_law_1125 rfl (lv_at hl 3 rfl) ?_
  refine lv_iconst (v := 1) hx hb dL_law_1126 (by decide) ?_
  refine lv_iadd hx hb dL_law_1127 ?_
  refine va_sld hx hb hX hbl hbA hS hi_1 dL_law_1128 ?_
  refine W.eq (g2 := F0 m 1129 ls [.int y1, .ref (a 0)]) (by rw [ey_1]) ?_
  refine lv_aload_n hx hb dL_law_1129 rfl (lv_at hl 0 rfl) ?_
  refine lv_iload_n hx hb dL_law_1130 rfl (lv_at hl 3 rfl) ?_
  refine lv_iconst (v := 2) hx hb dL_law_1131 (by decide) ?_
  refine lv_iadd hx hb dL_law_1132 ?_
  refine va_sld hx hb hX hbl hbA hS hi_2 dL_law_1133 ?_
  refine W.eq (g2 := F0 m 1134 ls [.int y2, .int y1, .ref (a 0)]) (by rw [ey_2]) ?_
  refine lv_aload_n hx hb dL_law_1134 rfl (lv_at hl 0 rfl) ?_
  refine lv_iload_n hx hb dL_law_1135 rfl (lv_at hl 3 rfl) ?_
  refine lv_iconst (v := 3) hx hb dL_law_1136 (by decide) ?_
  refine lv_iadd hx hb dL_law_1137 ?_
  refine va_sld hx hb hX hbl hbA hS hi_3 dL_law_1138 ?_
  refine W.eq (g2 := F0 m 1139 ls [.int y3, .int y2, .int y1, .ref (a 0)]) (by rw [ey_3]) ?_
  refine mm_callA (ci := 8) (rest := []) C0 lk_L_149 (ctX8_row (a := a) (d := 3) (Nat.le_refl _) h8) (by decide) rfl hl.1 rfl (mm_cat rfl) dL_law_1139 hc1 hc2 hP hD hA hS rfl rfl (fun H locs hP hD hS => ?_)
  refine W.eq (g2 := F0 m 1142 ls [.int r8]) rfl ?_
  refine lv_pop hx hb dL_law_1142 rfl ?_
  refine lv_aload_n hx hb dL_law_1143 rfl (lv_at hl 2 rfl) ?_
  refine lv_aload_n hx hb dL_law_1144 rfl (lv_at hl 0 rfl) ?_
  refine lv_iload_n hx hb dL_law_1145 rfl (lv_at hl 3 rfl) ?_
  refine lv_iconst (v := 1) hx hb dL_law_1146 (by decide) ?_
  refine lv_iadd hx hb dL_law_1147 ?_
  refine va_sld hx hb hX hbl hbA hS hi_1 dL_law_1148 ?_
  refine W.eq (g2 := F0 m 1149 ls [.int y1, .ref (b 0)]) (by rw [ey_1]) ?_
  refine lv_aload_n hx hb dL_law_1149 rfl (lv_at hl 0 rfl) ?_
  refine lv_iload_n hx hb dL_law_1150 rfl (lv_at hl 3 rfl) ?_
  refine lv_iconst (v := 2) hx hb dL_law_1151 (by decide) ?_
  refine lv_iadd hx hb dL_law_1152 ?_
  refine va_sld hx hb hX hbl hbA hS hi_2 dL_law_1153 ?_
  refine W.eq (g2 := F0 m 1154 ls [.int y2, .int y1, .ref (b 0)]) (by rw [ey_2]) ?_
  refine lv_aload_n hx hb dL_law_1154 rfl (lv_at hl 0 rfl) ?_
  refine lv_iload_n hx hb dL_law_1155 rfl (lv_at hl 3 rfl) ?_
  refine lv_iconst (v := 3) hx hb dL_law_1156 (by decide) ?_
  refine lv_iadd hx hb dL_law_1157 ?_
  refine va_sld hx hb hX hbl hbA hS hi_3 dL_law_1158 ?_
  refine W.eq (g2 := F0 m 1159 ls [.int y3, .int y2, .int y1, .ref (b 0)]) (by rw [ey_3]) ?_
  refine mm_callB (q0 := 99) (ci := 9) (rest := []) C0 lk_L_152 (ctX9_row (a := b) (d := 3) (Nat.le_refl _) h9) (by decide) rfl hl.1 rfl (mm_cat rfl) dL_law_1159 hc1 hc2 hP hD hA hS rfl rfl (fun H locs hP hD hS => ?_)
  refine W.eq (g2 := F0 m 1162 ls [.int r9]) rfl ?_
  refine lv_pop hx hb dL_law_1162 rfl ?_
  refine lv_goto (tgt := 1391) hx hb dL_law_1163 (by decide) ?_
  exact kk H locs hP hD hS

set_option maxHeartbeats 8000000 in
set_option maxRecDepth 100000 in
theorem lc_34 {p : Program} {l : Launch} {e : Env} {s : State} {m : MethodId} {below : List Frame} {meth : Method} {c : Code} {D : va_G} {cI cL cS cH : ClassId} {bb L N : Nat} {xs : Nat → Int32} {x3 : Int32} {a b : Nat → Nat} {v_hasImage : Bool} {v_now_rows : Int32} {v_now_cols : Int32} {v_now_high : Int32} {v_now_wide : Int32} {v_now_folds : Int32} {v_now_wrong : Int32} {v_now_more : Int32} {v_now_rowOf : List Int32} {v_now_colOf : List Int32} {v_now_below : List Int32} {v_now_face : List Int32} {v_now_worn : List Int32} {v_now_last : List Int32} {v_now_bend : List Int32} {v_now_tall : List Int32} {v_kept_rows : Int32} {v_kept_cols : Int32} {v_kept_high : Int32} {v_kept_wide : Int32} {v_kept_folds : Int32} {v_kept_wrong : Int32} {v_kept_more : Int32} {v_kept_rowOf : List Int32} {v_kept_colOf : List Int32} {v_kept_below : List Int32} {v_kept_face : List Int32} {v_kept_worn : List Int32} {v_kept_last : List Int32} {v_kept_bend : List Int32} {v_kept_tall : List Int32} {v_wearing_size : Int32} {v_wearing_stepCount : Int32} {v_wearing_draftCount : Int32} {v_wearing_place : Int32} {v_wearing_fault : Int32} {v_wearing_stacked : Int32} {v_wearing_tape : List Int32} {v_wearing_steps : List Int32} {v_wearing_draft : List Int32} {v_wearing_stack : List Int32} {v_planned_size : Int32} {v_planned_trial_rows : Int32} {v_planned_trial_cols : Int32} {v_planned_trial_high : Int32} {v_planned_trial_wide : Int32} {v_planned_trial_folds : Int32} {v_planned_trial_wrong : Int32} {v_planned_trial_more : Int32} {v_planned_trial_rowOf : List Int32} {v_planned_trial_colOf : List Int32} {v_planned_trial_below : List Int32} {v_planned_trial_face : List Int32} {v_planned_trial_worn : List Int32} {v_planned_trial_last : List Int32} {v_planned_trial_bend : List Int32} {v_planned_trial_tall : List Int32} {v_planned_lines : List Int32} {v_planned_ways : List Int32} {v_search_found : Bool} {v_search_wrong : Int32} {v_search_more : Int32} {v_search_folds : Int32} {v_search_wanted : Int32} {v_search_levels0_rows : Int32} {v_search_levels0_cols : Int32} {v_search_levels0_high : Int32} {v_search_levels0_wide : Int32} {v_search_levels0_folds : Int32} {v_search_levels0_wrong : Int32} {v_search_levels0_more : Int32} {v_search_levels0_rowOf : List Int32} {v_search_levels0_colOf : List Int32} {v_search_levels0_below : List Int32} {v_search_levels0_face : List Int32} {v_search_levels0_worn : List Int32} {v_search_levels0_last : List Int32} {v_search_levels0_bend : List Int32} {v_search_levels0_tall : List Int32} {v_search_levels1_rows : Int32} {v_search_levels1_cols : Int32} {v_search_levels1_high : Int32} {v_search_levels1_wide : Int32} {v_search_levels1_folds : Int32} {v_search_levels1_wrong : Int32} {v_search_levels1_more : Int32} {v_search_levels1_rowOf : List Int32} {v_search_levels1_colOf : List Int32} {v_search_levels1_below : List Int32} {v_search_levels1_face : List Int32} {v_search_levels1_worn : List Int32} {v_search_levels1_last : List Int32} {v_search_levels1_bend : List Int32} {v_search_levels1_tall : List Int32} {v_search_levels2_rows : Int32} {v_search_levels2_cols : Int32} {v_search_levels2_high : Int32} {v_search_levels2_wide : Int32} {v_search_levels2_folds : Int32} {v_search_levels2_wrong : Int32} {v_search_levels2_more : Int32} {v_search_levels2_rowOf : List Int32} {v_search_levels2_colOf : List Int32} {v_search_levels2_below : List Int32} {v_search_levels2_face : List Int32} {v_search_levels2_worn : List Int32} {v_search_levels2_last : List Int32} {v_search_levels2_bend : List Int32} {v_search_levels2_tall : List Int32} {v_search_levels3_rows : Int32} {v_search_levels3_cols : Int32} {v_search_levels3_high : Int32} {v_search_levels3_wide : Int32} {v_search_levels3_folds : Int32} {v_search_levels3_wrong : Int32} {v_search_levels3_more : Int32} {v_search_levels3_rowOf : List Int32} {v_search_levels3_colOf : List Int32} {v_search_levels3_below : List Int32} {v_search_levels3_face : List Int32} {v_search_levels3_worn : List Int32} {v_search_levels3_last : List Int32} {v_search_levels3_bend : List Int32} {v_search_levels3_tall : List Int32} {v_search_path : List Int32} {v_search_best : List Int32} {v_strip_list : List Int32} {v_strip_found : List Int32} {v_strip_at : List Int32} {v_changes_value : Int32} {v_changes_done : Int32} {v_changes_size : Int32} {v_changes_before : List Int32} {v_changes_after : List Int32} {v_foldings_size : Int32} {v_foldings_ran : Int32} {v_foldings_number : Int32} {v_foldings_kinds : List Int32} {v_foldings_trace : List Int32} {v_shelves0_holds : Int32} {v_shelves0_body : Int32} {v_shelves0_sort : Int32} {v_shelves0_size : Int32} {v_shelves0_items : List Int64} {v_shelves1_holds : Int32} {v_shelves1_body : Int32} {v_shelves1_sort : Int32} {v_shelves1_size : Int32} {v_shelves1_items : List Int64} {v_shelves2_holds : Int32} {v_shelves2_body : Int32} {v_shelves2_sort : Int32} {v_shelves2_size : Int32} {v_shelves2_items : List Int64} {v_shelves3_holds : Int32} {v_shelves3_body : Int32} {v_shelves3_sort : Int32} {v_shelves3_size : Int32} {v_shelves3_items : List Int64} {v_shelves4_holds : Int32} {v_shelves4_body : Int32} {v_shelves4_sort : Int32} {v_shelves4_size : Int32} {v_shelves4_items : List Int64} {v_shelves5_holds : Int32} {v_shelves5_body : Int32} {v_shelves5_sort : Int32} {v_shelves5_size : Int32} {v_shelves5_items : List Int64} {m_keptMany : Int32} {m_done : Int32} {m_rowsOf : Int32} {m_columnsOf : Int32} {m_folded : Int32} {m_wronged : Int32} {m_tapeMany : Int32} {m_textMany : Int32} {m_base : Int32} {m_at : Int32} {m_ends : Int32} {m_fault : Int32} {m_opened : Int32} {m_bentMany : Int32} {m_bentWrong : Int32} {m_moreWorn : Int32} {m_planned : Int32} {m_allWrong : Int32} {m_allWorn : Int32} {m_z : Int32} {m_wishedField : Int32} {m_isFound : Bool} {m_bestWrong : Int32} {m_bestWorn : Int32} {m_bestMany : Int32} {m_soughtBy : Int32} {m_sought : Int32} {m_soughtAt : Int32} {m_foundMany : Int32} {m_foundOrder : Int32} {m_isKept : Bool} {m_imageRows : Int32} {m_imageColumns : Int32} {m_imageFolded : Int32} {m_imageWronged : Int32} {m_bodies : Int32} {m_ran : Int32} {m_ownKind : Int32} {m_ownNumber : Int32} {m_limit : List Int32} {m_changeWas : List Int32} {m_changeIs : List Int32} {m_shapeRows : List Int32} {m_shapeColumns : List Int32} {m_row : List Int32} {m_column : List Int32} {m_below : List Int32} {m_face : List Int32} {m_worn : List Int32} {m_lastBend : List Int32} {m_tape : List Int32} {m_text : List Int32} {m_names : List Int32} {m_bends : List Int32} {m_high : List Int32} {m_to : List Int32} {m_pileSize : List Int32} {m_planLine : List Int32} {m_planWay : List Int32} {m_way1 : List Int32} {m_bestWay : List Int32} {m_order1 : List Int32} {m_placeIn : List Int32} {m_bodyKind : List Int32} {m_trace : List Int32} {m_shelf : List Int32} {m_many : List Int32} {m_items : List Int64} {m_carried : List Int64}  {r8 : Int32} {p_shelves0_items : List Int64} {p_shelves1_items : List Int64} {p_shelves2_items : List Int64} {p_shelves3_items : List Int64} {p_shelves4_items : List Int64} {p_shelves5_items : List Int64} {r9 : Int32} {q_items : List Int64} (C0 : mm_Cx p s m #[Value.ref bb] meth c RL code 4 ret D (mm_T cI cL cS cH) (fun q => s.heap.size ≤ q)) (hX : va_X bb L xs s s.heap) (hbl : bb < s.heap.size) {y1 : Int32} (hi_1 : vp_in (x3 + (1 : Int32)) L) (ey_1 : xs (x3 + (1 : Int32)).toNatClampNeg = y1) {y2 : Int32} (hi_2 : vp_in (x3 + (2 : Int32)) L) (ey_2 : xs (x3 + (2 : Int32)).toNatClampNeg = y2) {y3 : Int32} (hi_3 : vp_in (x3 + (3 : Int32)) L) (ey_3 : xs (x3 + (3 : Int32)).toNatClampNeg = y3) {y4 : Int32} (hi_4 : vp_in (x3 + (4 : Int32)) L) (ey_4 : xs (x3 + (4 : Int32)).toNatClampNeg = y4) (h8 : fX8_put N y1 y2 (((y3.toInt64) <<< ((32 : Int32).toInt64 &&& 63)) ||| ((y4.toInt64) &&& (4294967295 : Int64))) v_shelves0_holds v_shelves0_sort v_shelves0_size v_shelves0_items v_shelves1_holds v_shelves1_sort v_shelves1_size v_shelves1_items v_shelves2_holds v_shelves2_sort v_shelves2_size v_shelves2_items v_shelves3_holds v_shelves3_sort v_shelves3_size v_shelves3_items v_shelves4_holds v_shelves4_sort v_shelves4_size v_shelves4_items v_shelves5_holds v_shelves5_sort v_shelves5_size v_shelves5_items = some (r8, p_shelves0_items, p_shelves1_items, p_shelves2_items, p_shelves3_items, p_shelves4_items, p_shelves5_items)) (h9 : fX9_put N y1 y2 (((y3.toInt64) <<< ((32 : Int32).toInt64 &&& 63)) ||| ((y4.toInt64) &&& (4294967295 : Int64))) m_shelf m_many m_items = some (r9, q_items)) {cells slots : Nat} {Q : State → Prop} (hc1 : cells ≤ room_1.cells) (hc2 : slots ≤ room_1.slots) {H : Heap} {locs : List Loc} {ls : Array Slot}
    (hP : va_P D mm_cl (wd_X8 cI cL cS cH a v_hasImage v_now_rows v_now_cols v_now_high v_now_wide v_now_folds v_now_wrong v_now_more v_now_rowOf v_now_colOf v_now_below v_now_face v_now_worn v_now_last v_now_bend v_now_tall v_kept_rows v_kept_cols v_kept_high v_kept_wide v_kept_folds v_kept_wrong v_kept_more v_kept_rowOf v_kept_colOf v_kept_below v_kept_face v_kept_worn v_kept_last v_kept_bend v_kept_tall v_wearing_size v_wearing_stepCount v_wearing_draftCount v_wearing_place v_wearing_fault v_wearing_stacked v_wearing_tape v_wearing_steps v_wearing_draft v_wearing_stack v_planned_size v_planned_trial_rows v_planned_trial_cols v_planned_trial_high v_planned_trial_wide v_planned_trial_folds v_planned_trial_wrong v_planned_trial_more v_planned_trial_rowOf v_planned_trial_colOf v_planned_trial_below v_planned_trial_face v_planned_trial_worn v_planned_trial_last v_planned_trial_bend v_planned_trial_tall v_planned_lines v_planned_ways v_search_found v_search_wrong v_search_more v_search_folds v_search_wanted v_search_levels0_rows v_search_levels0_cols v_search_levels0_high v_search_levels0_wide v_search_levels0_folds v_search_levels0_wrong v_search_levels0_more v_search_levels0_rowOf v_search_levels0_colOf v_search_levels0_below v_search_levels0_face v_search_levels0_worn v_search_levels0_last v_search_levels0_bend v_search_levels0_tall v_search_levels1_rows v_search_levels1_cols v_search_levels1_high v_search_levels1_wide v_search_levels1_folds v_search_levels1_wrong v_search_levels1_more v_search_levels1_rowOf v_search_levels1_colOf v_search_levels1_below v_search_levels1_face v_search_levels1_worn v_search_levels1_last v_search_levels1_bend v_search_levels1_tall v_search_levels2_rows v_search_levels2_cols v_search_levels2_high v_search_levels2_wide v_search_levels2_folds v_search_levels2_wrong v_search_levels2_more v_search_levels2_rowOf v_search_levels2_colOf v_search_levels2_below v_search_levels2_face v_search_levels2_worn v_search_levels2_last v_search_levels2_bend v_search_levels2_tall v_search_levels3_rows v_search_levels3_cols v_search_levels3_high v_search_levels3_wide v_search_levels3_folds v_search_levels3_wrong v_search_levels3_more v_search_levels3_rowOf v_search_levels3_colOf v_search_levels3_below v_search_levels3_face v_search_levels3_worn v_search_levels3_last v_search_levels3_bend v_search_levels3_tall v_search_path v_search_best v_strip_list v_strip_found v_strip_at v_changes_value v_changes_done v_changes_size v_changes_before v_changes_after v_foldings_size v_foldings_ran v_foldings_number v_foldings_kinds v_foldings_trace v_shelves0_holds v_shelves0_body v_shelves0_sort v_shelves0_size v_shelves0_items v_shelves1_holds v_shelves1_body v_shelves1_sort v_shelves1_size v_shelves1_items v_shelves2_holds v_shelves2_body v_shelves2_sort v_shelves2_size v_shelves2_items v_shelves3_holds v_shelves3_body v_shelves3_sort v_shelves3_size v_shelves3_items v_shelves4_holds v_shelves4_body v_shelves4_sort v_shelves4_size v_shelves4_items v_shelves5_holds v_shelves5_body v_shelves5_sort v_shelves5_size v_shelves5_items ++ wd_X9 cI cL cS cH b m_keptMany m_done m_rowsOf m_columnsOf m_folded m_wronged m_tapeMany m_textMany m_base m_at m_ends m_fault m_opened m_bentMany m_bentWrong m_moreWorn m_planned m_allWrong m_allWorn m_z m_wishedField m_isFound m_bestWrong m_bestWorn m_bestMany m_soughtBy m_sought m_soughtAt m_foundMany m_foundOrder m_isKept m_imageRows m_imageColumns m_imageFolded m_imageWronged m_bodies m_ran m_ownKind m_ownNumber m_limit m_changeWas m_changeIs m_shapeRows m_shapeColumns m_row m_column m_below m_face m_worn m_lastBend m_tape m_text m_names m_bends m_high m_to m_pileSize m_planLine m_planWay m_way1 m_bestWay m_order1 m_placeIn m_bodyKind m_trace m_shelf m_many m_items m_carried) H) (hD : va_D (fun q => s.heap.size ≤ q) (wd_X8 cI cL cS cH a v_hasImage v_now_rows v_now_cols v_now_high v_now_wide v_now_folds v_now_wrong v_now_more v_now_rowOf v_now_colOf v_now_below v_now_face v_now_worn v_now_last v_now_bend v_now_tall v_kept_rows v_kept_cols v_kept_high v_kept_wide v_kept_folds v_kept_wrong v_kept_more v_kept_rowOf v_kept_colOf v_kept_below v_kept_face v_kept_worn v_kept_last v_kept_bend v_kept_tall v_wearing_size v_wearing_stepCount v_wearing_draftCount v_wearing_place v_wearing_fault v_wearing_stacked v_wearing_tape v_wearing_steps v_wearing_draft v_wearing_stack v_planned_size v_planned_trial_rows v_planned_trial_cols v_planned_trial_high v_planned_trial_wide v_planned_trial_folds v_planned_trial_wrong v_planned_trial_more v_planned_trial_rowOf v_planned_trial_colOf v_planned_trial_below v_planned_trial_face v_planned_trial_worn v_planned_trial_last v_planned_trial_bend v_planned_trial_tall v_planned_lines v_planned_ways v_search_found v_search_wrong v_search_more v_search_folds v_search_wanted v_search_levels0_rows v_search_levels0_cols v_search_levels0_high v_search_levels0_wide v_search_levels0_folds v_search_levels0_wrong v_search_levels0_more v_search_levels0_rowOf v_search_levels0_colOf v_search_levels0_below v_search_levels0_face v_search_levels0_worn v_search_levels0_last v_search_levels0_bend v_search_levels0_tall v_search_levels1_rows v_search_levels1_cols v_search_levels1_high v_search_levels1_wide v_search_levels1_folds v_search_levels1_wrong v_search_levels1_more v_search_levels1_rowOf v_search_levels1_colOf v_search_levels1_below v_search_levels1_face v_search_levels1_worn v_search_levels1_last v_search_levels1_bend v_search_levels1_tall v_search_levels2_rows v_search_levels2_cols v_search_levels2_high v_search_levels2_wide v_search_levels2_folds v_search_levels2_wrong v_search_levels2_more v_search_levels2_rowOf v_search_levels2_colOf v_search_levels2_below v_search_levels2_face v_search_levels2_worn v_search_levels2_last v_search_levels2_bend v_search_levels2_tall v_search_levels3_rows v_search_levels3_cols v_search_levels3_high v_search_levels3_wide v_search_levels3_folds v_search_levels3_wrong v_search_levels3_more v_search_levels3_rowOf v_search_levels3_colOf v_search_levels3_below v_search_levels3_face v_search_levels3_worn v_search_levels3_last v_search_levels3_bend v_search_levels3_tall v_search_path v_search_best v_strip_list v_strip_found v_strip_at v_changes_value v_changes_done v_changes_size v_changes_before v_changes_after v_foldings_size v_foldings_ran v_foldings_number v_foldings_kinds v_foldings_trace v_shelves0_holds v_shelves0_body v_shelves0_sort v_shelves0_size v_shelves0_items v_shelves1_holds v_shelves1_body v_shelves1_sort v_shelves1_size v_shelves1_items v_shelves2_holds v_shelves2_body v_shelves2_sort v_shelves2_size v_shelves2_items v_shelves3_holds v_shelves3_body v_shelves3_sort v_shelves3_size v_shelves3_items v_shelves4_holds v_shelves4_body v_shelves4_sort v_shelves4_size v_shelves4_items v_shelves5_holds v_shelves5_body v_shelves5_sort v_shelves5_size v_shelves5_items ++ wd_X9 cI cL cS cH b m_keptMany m_done m_rowsOf m_columnsOf m_folded m_wronged m_tapeMany m_textMany m_base m_at m_ends m_fault m_opened m_bentMany m_bentWrong m_moreWorn m_planned m_allWrong m_allWorn m_z m_wishedField m_isFound m_bestWrong m_bestWorn m_bestMany m_soughtBy m_sought m_soughtAt m_foundMany m_foundOrder m_isKept m_imageRows m_imageColumns m_imageFolded m_imageWronged m_bodies m_ran m_ownKind m_ownNumber m_limit m_changeWas m_changeIs m_shapeRows m_shapeColumns m_row m_column m_below m_face m_worn m_lastBend m_tape m_text m_names m_bends m_high m_to m_pileSize m_planLine m_planWay m_way1 m_bestWay m_order1 m_placeIn m_bodyKind m_trace m_shelf m_many m_items m_carried)) (hS : va_S (fun q => s.heap.size ≤ q) s.heap H locs) (hl : lv_has ls 4 [(0, .ref bb), (1, .ref (a 0)), (2, .ref (b 0)), (3, .int x3)])
    (kk : ∀ (H : Heap) (locs : List Loc), va_P D mm_cl (wd_X8 cI cL cS cH a v_hasImage v_now_rows v_now_cols v_now_high v_now_wide v_now_folds v_now_wrong v_now_more v_now_rowOf v_now_colOf v_now_below v_now_face v_now_worn v_now_last v_now_bend v_now_tall v_kept_rows v_kept_cols v_kept_high v_kept_wide v_kept_folds v_kept_wrong v_kept_more v_kept_rowOf v_kept_colOf v_kept_below v_kept_face v_kept_worn v_kept_last v_kept_bend v_kept_tall v_wearing_size v_wearing_stepCount v_wearing_draftCount v_wearing_place v_wearing_fault v_wearing_stacked v_wearing_tape v_wearing_steps v_wearing_draft v_wearing_stack v_planned_size v_planned_trial_rows v_planned_trial_cols v_planned_trial_high v_planned_trial_wide v_planned_trial_folds v_planned_trial_wrong v_planned_trial_more v_planned_trial_rowOf v_planned_trial_colOf v_planned_trial_below v_planned_trial_face v_planned_trial_worn v_planned_trial_last v_planned_trial_bend v_planned_trial_tall v_planned_lines v_planned_ways v_search_found v_search_wrong v_search_more v_search_folds v_search_wanted v_search_levels0_rows v_search_levels0_cols v_search_levels0_high v_search_levels0_wide v_search_levels0_folds v_search_levels0_wrong v_search_levels0_more v_search_levels0_rowOf v_search_levels0_colOf v_search_levels0_below v_search_levels0_face v_search_levels0_worn v_search_levels0_last v_search_levels0_bend v_search_levels0_tall v_search_levels1_rows v_search_levels1_cols v_search_levels1_high v_search_levels1_wide v_search_levels1_folds v_search_levels1_wrong v_search_levels1_more v_search_levels1_rowOf v_search_levels1_colOf v_search_levels1_below v_search_levels1_face v_search_levels1_worn v_search_levels1_last v_search_levels1_bend v_search_levels1_tall v_search_levels2_rows v_search_levels2_cols v_search_levels2_high v_search_levels2_wide v_search_levels2_folds v_search_levels2_wrong v_search_levels2_more v_search_levels2_rowOf v_search_levels2_colOf v_search_levels2_below v_search_levels2_face v_search_levels2_worn v_search_levels2_last v_search_levels2_bend v_search_levels2_tall v_search_levels3_rows v_search_levels3_cols v_search_levels3_high v_search_levels3_wide v_search_levels3_folds v_search_levels3_wrong v_search_levels3_more v_search_levels3_rowOf v_search_levels3_colOf v_search_levels3_below v_search_levels3_face v_search_levels3_worn v_search_levels3_last v_search_levels3_bend v_search_levels3_tall v_search_path v_search_best v_strip_list v_strip_found v_strip_at v_changes_value v_changes_done v_changes_size v_changes_before v_changes_after v_foldings_size v_foldings_ran v_foldings_number v_foldings_kinds v_foldings_trace v_shelves0_holds v_shelves0_body v_shelves0_sort v_shelves0_size p_shelves0_items v_shelves1_holds v_shelves1_body v_shelves1_sort v_shelves1_size p_shelves1_items v_shelves2_holds v_shelves2_body v_shelves2_sort v_shelves2_size p_shelves2_items v_shelves3_holds v_shelves3_body v_shelves3_sort v_shelves3_size p_shelves3_items v_shelves4_holds v_shelves4_body v_shelves4_sort v_shelves4_size p_shelves4_items v_shelves5_holds v_shelves5_body v_shelves5_sort v_shelves5_size p_shelves5_items ++ wd_X9 cI cL cS cH b m_keptMany m_done m_rowsOf m_columnsOf m_folded m_wronged m_tapeMany m_textMany m_base m_at m_ends m_fault m_opened m_bentMany m_bentWrong m_moreWorn m_planned m_allWrong m_allWorn m_z m_wishedField m_isFound m_bestWrong m_bestWorn m_bestMany m_soughtBy m_sought m_soughtAt m_foundMany m_foundOrder m_isKept m_imageRows m_imageColumns m_imageFolded m_imageWronged m_bodies m_ran m_ownKind m_ownNumber m_limit m_changeWas m_changeIs m_shapeRows m_shapeColumns m_row m_column m_below m_face m_worn m_lastBend m_tape m_text m_names m_bends m_high m_to m_pileSize m_planLine m_planWay m_way1 m_bestWay m_order1 m_placeIn m_bodyKind m_trace m_shelf m_many q_items m_carried) H → va_D (fun q => s.heap.size ≤ q) (wd_X8 cI cL cS cH a v_hasImage v_now_rows v_now_cols v_now_high v_now_wide v_now_folds v_now_wrong v_now_more v_now_rowOf v_now_colOf v_now_below v_now_face v_now_worn v_now_last v_now_bend v_now_tall v_kept_rows v_kept_cols v_kept_high v_kept_wide v_kept_folds v_kept_wrong v_kept_more v_kept_rowOf v_kept_colOf v_kept_below v_kept_face v_kept_worn v_kept_last v_kept_bend v_kept_tall v_wearing_size v_wearing_stepCount v_wearing_draftCount v_wearing_place v_wearing_fault v_wearing_stacked v_wearing_tape v_wearing_steps v_wearing_draft v_wearing_stack v_planned_size v_planned_trial_rows v_planned_trial_cols v_planned_trial_high v_planned_trial_wide v_planned_trial_folds v_planned_trial_wrong v_planned_trial_more v_planned_trial_rowOf v_planned_trial_colOf v_planned_trial_below v_planned_trial_face v_planned_trial_worn v_planned_trial_last v_planned_trial_bend v_planned_trial_tall v_planned_lines v_planned_ways v_search_found v_search_wrong v_search_more v_search_folds v_search_wanted v_search_levels0_rows v_search_levels0_cols v_search_levels0_high v_search_levels0_wide v_search_levels0_folds v_search_levels0_wrong v_search_levels0_more v_search_levels0_rowOf v_search_levels0_colOf v_search_levels0_below v_search_levels0_face v_search_levels0_worn v_search_levels0_last v_search_levels0_bend v_search_levels0_tall v_search_levels1_rows v_search_levels1_cols v_search_levels1_high v_search_levels1_wide v_search_levels1_folds v_search_levels1_wrong v_search_levels1_more v_search_levels1_rowOf v_search_levels1_colOf v_search_levels1_below v_search_levels1_face v_search_levels1_worn v_search_levels1_last v_search_levels1_bend v_search_levels1_tall v_search_levels2_rows v_search_levels2_cols v_search_levels2_high v_search_levels2_wide v_search_levels2_folds v_search_levels2_wrong v_search_levels2_more v_search_levels2_rowOf v_search_levels2_colOf v_search_levels2_below v_search_levels2_face v_search_levels2_worn v_search_levels2_last v_search_levels2_bend v_search_levels2_tall v_search_levels3_rows v_search_levels3_cols v_search_levels3_high v_search_levels3_wide v_search_levels3_folds v_search_levels3_wrong v_search_levels3_more v_search_levels3_rowOf v_search_levels3_colOf v_search_levels3_below v_search_levels3_face v_search_levels3_worn v_search_levels3_last v_search_levels3_bend v_search_levels3_tall v_search_path v_search_best v_strip_list v_strip_found v_strip_at v_changes_value v_changes_done v_changes_size v_changes_before v_changes_after v_foldings_size v_foldings_ran v_foldings_number v_foldings_kinds v_foldings_trace v_shelves0_holds v_shelves0_body v_shelves0_sort v_shelves0_size p_shelves0_items v_shelves1_holds v_shelves1_body v_shelves1_sort v_shelves1_size p_shelves1_items v_shelves2_holds v_shelves2_body v_shelves2_sort v_shelves2_size p_shelves2_items v_shelves3_holds v_shelves3_body v_shelves3_sort v_shelves3_size p_shelves3_items v_shelves4_holds v_shelves4_body v_shelves4_sort v_shelves4_size p_shelves4_items v_shelves5_holds v_shelves5_body v_shelves5_sort v_shelves5_size p_shelves5_items ++ wd_X9 cI cL cS cH b m_keptMany m_done m_rowsOf m_columnsOf m_folded m_wronged m_tapeMany m_textMany m_base m_at m_ends m_fault m_opened m_bentMany m_bentWrong m_moreWorn m_planned m_allWrong m_allWorn m_z m_wishedField m_isFound m_bestWrong m_bestWorn m_bestMany m_soughtBy m_sought m_soughtAt m_foundMany m_foundOrder m_isKept m_imageRows m_imageColumns m_imageFolded m_imageWronged m_bodies m_ran m_ownKind m_ownNumber m_limit m_changeWas m_changeIs m_shapeRows m_shapeColumns m_row m_column m_below m_face m_worn m_lastBend m_tape m_text m_names m_bends m_high m_to m_pileSize m_planLine m_planWay m_way1 m_bestWay m_order1 m_placeIn m_bodyKind m_trace m_shelf m_many q_items m_carried) → va_S (fun q => s.heap.size ≤ q) s.heap H locs → W p l e room_1 s m #[Value.ref bb] below meth c H locs cells slots Q (F0 m 1391 ls [])) : W p l e room_1 s m #[Value.ref bb] below meth c H locs cells slots Q (F0 m 1166 ls []) := by
  obtain ⟨hx, hb, hml, hown, hts, hr, hlocks, hK, hSt⟩ := id C0
  have hA : ∀ q : Nat, s.heap.size ≤ q → (fun q : Nat => s.heap.size ≤ q) q := fun _ h => h
  have hbA : ¬ (fun q : Nat => s.heap.size ≤ q) bb := Nat.not_le.mpr hbl
  refine lv_aload_n hx hb dL_law_1166 rfl (lv_at hl 1 rfl) ?_
  refine lv_aload_n hx hb dL_law_1167 rfl (lv_at hl 0 rfl) ?_
  refine lv_iload_n hx hb dL_law_1168 rfl (lv_at hl 3 rfl) ?_
  refine lv_iconst (v := 1) hx hb dL_law_1169 (by decide) ?_
  refine lv_iadd hx hb dL_law_1170 ?_
  refine va_sld hx hb hX hbl hbA hS hi_1 dL_law_1171 ?_
  refine W.eq (g2 := F0 m 1172 ls [.int y1, .ref (a 0)]) (by rw [ey_1]) ?_
  refine lv_aload_n hx hb dL_law_1172 rfl (lv_at hl 0 rfl) ?_
  refine lv_iload_n hx hb dL_law_1173 rfl (lv_at hl 3 rfl) ?_
  refine lv_iconst (v := 2) hx hb dL_law_1174 (by decide) ?_
  refine lv_iadd hx hb dL_law_1175 ?_
  refine va_sld hx hb hX hbl hbA hS hi_2 dL_law_1176 ?_
  refine W.eq (g2 := F0 m 1177 ls [.int y2, .int y1, .ref (a 0)]) (by rw [ey_2]) ?_
  refine lv_aload_n hx hb dL_law_1177 rfl (lv_at hl 0 rfl) ?_
  refine lv_iload_n hx hb dL_law_1178 rfl (lv_at hl 3 rfl) ?_
  refine lv_iconst (v := 3) hx hb dL_law_1179 (by decide) ?_
  refine lv_iadd hx hb dL_law_1180 ?_
  refine va_sld hx hb hX hbl hbA hS hi_3 dL_law_1181 ?_
  refine W.eq (g2 := F0 m 1182 ls [.int y3, .int y2, .int y1, .ref (a 0)]) (by rw [ey_3]) ?_
  refine lv_i2l hx hb dL_law_1182 rfl ?_
  refine lv_bipush (v := 32) hx hb dL_law_1183 (by decide) ?_
  refine lv_lshl hx hb dL_law_1185 rfl ?_
  refine lv_aload_n hx hb dL_law_1186 rfl (lv_at hl 0 rfl) ?_
  refine lv_iload_n hx hb dL_law_1187 rfl (lv_at hl 3 rfl) ?_
  refine lv_iconst (v := 4) hx hb dL_law_1188 (by decide) ?_
  refine lv_iadd hx hb dL_law_1189 ?_
  refine va_sld hx hb hX hbl hbA hS hi_4 dL_law_1190 ?_
  refine W.eq (g2 := F0 m 1191 ls [.int y4, .long ((y3.toInt64) <<< ((32 : Int32).toInt64 &&& 63)), .int y2, .int y1, .ref (a 0)]) (by rw [ey_4]) ?_
  refine lv_i2l hx hb dL_law_1191 rfl ?_
  refine lv_ldc2 hx hb hown (hts _ kc_L_153) dL_law_1192 ?_
  refine lv_land hx hb dL_law_1195 ?_
  refine lv_lor hx hb dL_law_1196 ?_
  refine mm_callA (ci := 8) (rest := []) C0 lk_L_155 (ctX8_put (a := a) (d := 3) (Nat.le_refl _) h8) (by decide) rfl hl.1 rfl (mm_cat rfl) dL_law_1197 hc1 hc2 hP hD hA hS rfl rfl (fun H locs hP hD hS => ?_)
  refine W.eq (g2 := F0 m 1200 ls [.int r8]) rfl ?_
  refine lv_pop hx hb dL_law_1200 rfl ?_
  refine lv_aload_n hx hb dL_law_1201 rfl (lv_at hl 2 rfl) ?_
  refine lv_aload_n hx hb dL_law_1202 rfl (lv_at hl 0 rfl) ?_
  refine lv_iload_n hx hb dL_law_1203 rfl (lv_at hl 3 rfl) ?_
  refine lv_iconst (v := 1) hx hb dL_law_1204 (by decide) ?_
  refine lv_iadd hx hb dL_law_1205 ?_
  refine va_sld hx hb hX hbl hbA hS hi_1 dL_law_1206 ?_
  refine W.eq (g2 := F0 m 1207 ls [.int y1, .ref (b 0)]) (by rw [ey_1]) ?_
  refine lv_aload_n hx hb dL_law_1207 rfl (lv_at hl 0 rfl) ?_
  refine lv_iload_n hx hb dL_law_1208 rfl (lv_at hl 3 rfl) ?_
  refine lv_iconst (v := 2) hx hb dL_law_1209 (by decide) ?_
  refine lv_iadd hx hb dL_law_1210 ?_
  refine va_sld hx hb hX hbl hbA hS hi_2 dL_law_1211 ?_
  refine W.eq (g2 := F0 m 1212 ls [.int y2, .int y1, .ref (b 0)]) (by rw [ey_2]) ?_
  refine lv_aload_n hx hb dL_law_1212 rfl (lv_at hl 0 rfl) ?_
  refine lv_iload_n hx hb dL_law_1213 rfl (lv_at hl 3 rfl) ?_
  refine lv_iconst (v := 3) hx hb dL_law_1214 (by decide) ?_
  refine lv_iadd hx hb dL_law_1215 ?_
  refine va_sld hx hb hX hbl hbA hS hi_3 dL_law_1216 ?_
  refine W.eq (g2 := F0 m 1217 ls [.int y3, .int y2, .int y1, .ref (b 0)]) (by rw [ey_3]) ?_
  refine lv_i2l hx hb dL_law_1217 rfl ?_
  refine lv_bipush (v := 32) hx hb dL_law_1218 (by decide) ?_
  refine lv_lshl hx hb dL_law_1220 rfl ?_
  refine lv_aload_n hx hb dL_law_1221 rfl (lv_at hl 0 rfl) ?_
  refine lv_iload_n hx hb dL_law_1222 rfl (lv_at hl 3 rfl) ?_
  refine lv_iconst (v := 4) hx hb dL_law_1223 (by decide) ?_
  refine lv_iadd hx hb dL_law_1224 ?_
  refine va_sld hx hb hX hbl hbA hS hi_4 dL_law_1225 ?_
  refine W.eq (g2 := F0 m 1226 ls [.int y4, .long ((y3.toInt64) <<< ((32 : Int32).toInt64 &&& 63)), .int y2, .int y1, .ref (b 0)]) (by rw [ey_4]) ?_
  refine lv_i2l hx hb dL_law_1226 rfl ?_
  refine lv_ldc2 hx hb hown (hts _ kc_L_153) dL_law_1227 ?_
  refine lv_land hx hb dL_law_1230 ?_
  refine lv_lor hx hb dL_law_1231 ?_
  refine mm_callB (q0 := 99) (ci := 9) (rest := []) C0 lk_L_159 (ctX9_put (a := b) (d := 4) (Nat.le_refl _) h9) (by decide) rfl hl.1 rfl (mm_cat rfl) dL_law_1232 hc1 hc2 hP hD hA hS rfl rfl (fun H locs hP hD hS => ?_)
  refine W.eq (g2 := F0 m 1235 ls [.int r9]) rfl ?_
  refine lv_pop hx hb dL_law_1235 rfl ?_
  refine lv_goto (tgt := 1391) hx hb dL_law_1236 (by decide) ?_
  exact kk H locs hP hD hS

set_option maxHeartbeats 8000000 in
set_option maxRecDepth 100000 in
theorem lc_35 {p : Program} {l : Launch} {e : Env} {s : State} {m : MethodId} {below : List Frame} {meth : Method} {c : Code} {D : va_G} {cI cL cS cH : ClassId} {bb L N : Nat} {xs : Nat → Int32} {x3 : Int32} {a b : Nat → Nat} {v_hasImage : Bool} {v_now_rows : Int32} {v_now_cols : Int32} {v_now_high : Int32} {v_now_wide : Int32} {v_now_folds : Int32} {v_now_wrong : Int32} {v_now_more : Int32} {v_now_rowOf : List Int32} {v_now_colOf : List Int32} {v_now_below : List Int32} {v_now_face : List Int32} {v_now_worn : List Int32} {v_now_last : List Int32} {v_now_bend : List Int32} {v_now_tall : List Int32} {v_kept_rows : Int32} {v_kept_cols : Int32} {v_kept_high : Int32} {v_kept_wide : Int32} {v_kept_folds : Int32} {v_kept_wrong : Int32} {v_kept_more : Int32} {v_kept_rowOf : List Int32} {v_kept_colOf : List Int32} {v_kept_below : List Int32} {v_kept_face : List Int32} {v_kept_worn : List Int32} {v_kept_last : List Int32} {v_kept_bend : List Int32} {v_kept_tall : List Int32} {v_wearing_size : Int32} {v_wearing_stepCount : Int32} {v_wearing_draftCount : Int32} {v_wearing_place : Int32} {v_wearing_fault : Int32} {v_wearing_stacked : Int32} {v_wearing_tape : List Int32} {v_wearing_steps : List Int32} {v_wearing_draft : List Int32} {v_wearing_stack : List Int32} {v_planned_size : Int32} {v_planned_trial_rows : Int32} {v_planned_trial_cols : Int32} {v_planned_trial_high : Int32} {v_planned_trial_wide : Int32} {v_planned_trial_folds : Int32} {v_planned_trial_wrong : Int32} {v_planned_trial_more : Int32} {v_planned_trial_rowOf : List Int32} {v_planned_trial_colOf : List Int32} {v_planned_trial_below : List Int32} {v_planned_trial_face : List Int32} {v_planned_trial_worn : List Int32} {v_planned_trial_last : List Int32} {v_planned_trial_bend : List Int32} {v_planned_trial_tall : List Int32} {v_planned_lines : List Int32} {v_planned_ways : List Int32} {v_search_found : Bool} {v_search_wrong : Int32} {v_search_more : Int32} {v_search_folds : Int32} {v_search_wanted : Int32} {v_search_levels0_rows : Int32} {v_search_levels0_cols : Int32} {v_search_levels0_high : Int32} {v_search_levels0_wide : Int32} {v_search_levels0_folds : Int32} {v_search_levels0_wrong : Int32} {v_search_levels0_more : Int32} {v_search_levels0_rowOf : List Int32} {v_search_levels0_colOf : List Int32} {v_search_levels0_below : List Int32} {v_search_levels0_face : List Int32} {v_search_levels0_worn : List Int32} {v_search_levels0_last : List Int32} {v_search_levels0_bend : List Int32} {v_search_levels0_tall : List Int32} {v_search_levels1_rows : Int32} {v_search_levels1_cols : Int32} {v_search_levels1_high : Int32} {v_search_levels1_wide : Int32} {v_search_levels1_folds : Int32} {v_search_levels1_wrong : Int32} {v_search_levels1_more : Int32} {v_search_levels1_rowOf : List Int32} {v_search_levels1_colOf : List Int32} {v_search_levels1_below : List Int32} {v_search_levels1_face : List Int32} {v_search_levels1_worn : List Int32} {v_search_levels1_last : List Int32} {v_search_levels1_bend : List Int32} {v_search_levels1_tall : List Int32} {v_search_levels2_rows : Int32} {v_search_levels2_cols : Int32} {v_search_levels2_high : Int32} {v_search_levels2_wide : Int32} {v_search_levels2_folds : Int32} {v_search_levels2_wrong : Int32} {v_search_levels2_more : Int32} {v_search_levels2_rowOf : List Int32} {v_search_levels2_colOf : List Int32} {v_search_levels2_below : List Int32} {v_search_levels2_face : List Int32} {v_search_levels2_worn : List Int32} {v_search_levels2_last : List Int32} {v_search_levels2_bend : List Int32} {v_search_levels2_tall : List Int32} {v_search_levels3_rows : Int32} {v_search_levels3_cols : Int32} {v_search_levels3_high : Int32} {v_search_levels3_wide : Int32} {v_search_levels3_folds : Int32} {v_search_levels3_wrong : Int32} {v_search_levels3_more : Int32} {v_search_levels3_rowOf : List Int32} {v_search_levels3_colOf : List Int32} {v_search_levels3_below : List Int32} {v_search_levels3_face : List Int32} {v_search_levels3_worn : List Int32} {v_search_levels3_last : List Int32} {v_search_levels3_bend : List Int32} {v_search_levels3_tall : List Int32} {v_search_path : List Int32} {v_search_best : List Int32} {v_strip_list : List Int32} {v_strip_found : List Int32} {v_strip_at : List Int32} {v_changes_value : Int32} {v_changes_done : Int32} {v_changes_size : Int32} {v_changes_before : List Int32} {v_changes_after : List Int32} {v_foldings_size : Int32} {v_foldings_ran : Int32} {v_foldings_number : Int32} {v_foldings_kinds : List Int32} {v_foldings_trace : List Int32} {v_shelves0_holds : Int32} {v_shelves0_body : Int32} {v_shelves0_sort : Int32} {v_shelves0_size : Int32} {v_shelves0_items : List Int64} {v_shelves1_holds : Int32} {v_shelves1_body : Int32} {v_shelves1_sort : Int32} {v_shelves1_size : Int32} {v_shelves1_items : List Int64} {v_shelves2_holds : Int32} {v_shelves2_body : Int32} {v_shelves2_sort : Int32} {v_shelves2_size : Int32} {v_shelves2_items : List Int64} {v_shelves3_holds : Int32} {v_shelves3_body : Int32} {v_shelves3_sort : Int32} {v_shelves3_size : Int32} {v_shelves3_items : List Int64} {v_shelves4_holds : Int32} {v_shelves4_body : Int32} {v_shelves4_sort : Int32} {v_shelves4_size : Int32} {v_shelves4_items : List Int64} {v_shelves5_holds : Int32} {v_shelves5_body : Int32} {v_shelves5_sort : Int32} {v_shelves5_size : Int32} {v_shelves5_items : List Int64} {m_keptMany : Int32} {m_done : Int32} {m_rowsOf : Int32} {m_columnsOf : Int32} {m_folded : Int32} {m_wronged : Int32} {m_tapeMany : Int32} {m_textMany : Int32} {m_base : Int32} {m_at : Int32} {m_ends : Int32} {m_fault : Int32} {m_opened : Int32} {m_bentMany : Int32} {m_bentWrong : Int32} {m_moreWorn : Int32} {m_planned : Int32} {m_allWrong : Int32} {m_allWorn : Int32} {m_z : Int32} {m_wishedField : Int32} {m_isFound : Bool} {m_bestWrong : Int32} {m_bestWorn : Int32} {m_bestMany : Int32} {m_soughtBy : Int32} {m_sought : Int32} {m_soughtAt : Int32} {m_foundMany : Int32} {m_foundOrder : Int32} {m_isKept : Bool} {m_imageRows : Int32} {m_imageColumns : Int32} {m_imageFolded : Int32} {m_imageWronged : Int32} {m_bodies : Int32} {m_ran : Int32} {m_ownKind : Int32} {m_ownNumber : Int32} {m_limit : List Int32} {m_changeWas : List Int32} {m_changeIs : List Int32} {m_shapeRows : List Int32} {m_shapeColumns : List Int32} {m_row : List Int32} {m_column : List Int32} {m_below : List Int32} {m_face : List Int32} {m_worn : List Int32} {m_lastBend : List Int32} {m_tape : List Int32} {m_text : List Int32} {m_names : List Int32} {m_bends : List Int32} {m_high : List Int32} {m_to : List Int32} {m_pileSize : List Int32} {m_planLine : List Int32} {m_planWay : List Int32} {m_way1 : List Int32} {m_bestWay : List Int32} {m_order1 : List Int32} {m_placeIn : List Int32} {m_bodyKind : List Int32} {m_trace : List Int32} {m_shelf : List Int32} {m_many : List Int32} {m_items : List Int64} {m_carried : List Int64}  {r8 : Int64} {r9 : Int64} (C0 : mm_Cx p s m #[Value.ref bb] meth c RL code 4 ret D (mm_T cI cL cS cH) (fun q => s.heap.size ≤ q)) (hX : va_X bb L xs s s.heap) (hbl : bb < s.heap.size) {y1 : Int32} (hi_1 : vp_in (x3 + (1 : Int32)) L) (ey_1 : xs (x3 + (1 : Int32)).toNatClampNeg = y1) {y2 : Int32} (hi_2 : vp_in (x3 + (2 : Int32)) L) (ey_2 : xs (x3 + (2 : Int32)).toNatClampNeg = y2) (h8 : fX8_element N y1 y2 v_shelves0_holds v_shelves0_size v_shelves0_items v_shelves1_holds v_shelves1_size v_shelves1_items v_shelves2_holds v_shelves2_size v_shelves2_items v_shelves3_holds v_shelves3_size v_shelves3_items v_shelves4_holds v_shelves4_size v_shelves4_items v_shelves5_holds v_shelves5_size v_shelves5_items = some r8) (h9 : fX9_element N y1 y2 m_shelf m_many m_items = some r9) {cells slots : Nat} {Q : State → Prop} (hc1 : cells ≤ room_1.cells) (hc2 : slots ≤ room_1.slots) {H : Heap} {locs : List Loc} {ls : Array Slot}
    (hP : va_P D mm_cl (wd_X8 cI cL cS cH a v_hasImage v_now_rows v_now_cols v_now_high v_now_wide v_now_folds v_now_wrong v_now_more v_now_rowOf v_now_colOf v_now_below v_now_face v_now_worn v_now_last v_now_bend v_now_tall v_kept_rows v_kept_cols v_kept_high v_kept_wide v_kept_folds v_kept_wrong v_kept_more v_kept_rowOf v_kept_colOf v_kept_below v_kept_face v_kept_worn v_kept_last v_kept_bend v_kept_tall v_wearing_size v_wearing_stepCount v_wearing_draftCount v_wearing_place v_wearing_fault v_wearing_stacked v_wearing_tape v_wearing_steps v_wearing_draft v_wearing_stack v_planned_size v_planned_trial_rows v_planned_trial_cols v_planned_trial_high v_planned_trial_wide v_planned_trial_folds v_planned_trial_wrong v_planned_trial_more v_planned_trial_rowOf v_planned_trial_colOf v_planned_trial_below v_planned_trial_face v_planned_trial_worn v_planned_trial_last v_planned_trial_bend v_planned_trial_tall v_planned_lines v_planned_ways v_search_found v_search_wrong v_search_more v_search_folds v_search_wanted v_search_levels0_rows v_search_levels0_cols v_search_levels0_high v_search_levels0_wide v_search_levels0_folds v_search_levels0_wrong v_search_levels0_more v_search_levels0_rowOf v_search_levels0_colOf v_search_levels0_below v_search_levels0_face v_search_levels0_worn v_search_levels0_last v_search_levels0_bend v_search_levels0_tall v_search_levels1_rows v_search_levels1_cols v_search_levels1_high v_search_levels1_wide v_search_levels1_folds v_search_levels1_wrong v_search_levels1_more v_search_levels1_rowOf v_search_levels1_colOf v_search_levels1_below v_search_levels1_face v_search_levels1_worn v_search_levels1_last v_search_levels1_bend v_search_levels1_tall v_search_levels2_rows v_search_levels2_cols v_search_levels2_high v_search_levels2_wide v_search_levels2_folds v_search_levels2_wrong v_search_levels2_more v_search_levels2_rowOf v_search_levels2_colOf v_search_levels2_below v_search_levels2_face v_search_levels2_worn v_search_levels2_last v_search_levels2_bend v_search_levels2_tall v_search_levels3_rows v_search_levels3_cols v_search_levels3_high v_search_levels3_wide v_search_levels3_folds v_search_levels3_wrong v_search_levels3_more v_search_levels3_rowOf v_search_levels3_colOf v_search_levels3_below v_search_levels3_face v_search_levels3_worn v_search_levels3_last v_search_levels3_bend v_search_levels3_tall v_search_path v_search_best v_strip_list v_strip_found v_strip_at v_changes_value v_changes_done v_changes_size v_changes_before v_changes_after v_foldings_size v_foldings_ran v_foldings_number v_foldings_kinds v_foldings_trace v_shelves0_holds v_shelves0_body v_shelves0_sort v_shelves0_size v_shelves0_items v_shelves1_holds v_shelves1_body v_shelves1_sort v_shelves1_size v_shelves1_items v_shelves2_holds v_shelves2_body v_shelves2_sort v_shelves2_size v_shelves2_items v_shelves3_holds v_shelves3_body v_shelves3_sort v_shelves3_size v_shelves3_items v_shelves4_holds v_shelves4_body v_shelves4_sort v_shelves4_size v_shelves4_items v_shelves5_holds v_shelves5_body v_shelves5_sort v_shelves5_size v_shelves5_items ++ wd_X9 cI cL cS cH b m_keptMany m_done m_rowsOf m_columnsOf m_folded m_wronged m_tapeMany m_textMany m_base m_at m_ends m_fault m_opened m_bentMany m_bentWrong m_moreWorn m_planned m_allWrong m_allWorn m_z m_wishedField m_isFound m_bestWrong m_bestWorn m_bestMany m_soughtBy m_sought m_soughtAt m_foundMany m_foundOrder m_isKept m_imageRows m_imageColumns m_imageFolded m_imageWronged m_bodies m_ran m_ownKind m_ownNumber m_limit m_changeWas m_changeIs m_shapeRows m_shapeColumns m_row m_column m_below m_face m_worn m_lastBend m_tape m_text m_names m_bends m_high m_to m_pileSize m_planLine m_planWay m_way1 m_bestWay m_order1 m_placeIn m_bodyKind m_trace m_shelf m_many m_items m_carried) H) (hD : va_D (fun q => s.heap.size ≤ q) (wd_X8 cI cL cS cH a v_hasImage v_now_rows v_now_cols v_now_high v_now_wide v_now_folds v_now_wrong v_now_more v_now_rowOf v_now_colOf v_now_below v_now_face v_now_worn v_now_last v_now_bend v_now_tall v_kept_rows v_kept_cols v_kept_high v_kept_wide v_kept_folds v_kept_wrong v_kept_more v_kept_rowOf v_kept_colOf v_kept_below v_kept_face v_kept_worn v_kept_last v_kept_bend v_kept_tall v_wearing_size v_wearing_stepCount v_wearing_draftCount v_wearing_place v_wearing_fault v_wearing_stacked v_wearing_tape v_wearing_steps v_wearing_draft v_wearing_stack v_planned_size v_planned_trial_rows v_planned_trial_cols v_planned_trial_high v_planned_trial_wide v_planned_trial_folds v_planned_trial_wrong v_planned_trial_more v_planned_trial_rowOf v_planned_trial_colOf v_planned_trial_below v_planned_trial_face v_planned_trial_worn v_planned_trial_last v_planned_trial_bend v_planned_trial_tall v_planned_lines v_planned_ways v_search_found v_search_wrong v_search_more v_search_folds v_search_wanted v_search_levels0_rows v_search_levels0_cols v_search_levels0_high v_search_levels0_wide v_search_levels0_folds v_search_levels0_wrong v_search_levels0_more v_search_levels0_rowOf v_search_levels0_colOf v_search_levels0_below v_search_levels0_face v_search_levels0_worn v_search_levels0_last v_search_levels0_bend v_search_levels0_tall v_search_levels1_rows v_search_levels1_cols v_search_levels1_high v_search_levels1_wide v_search_levels1_folds v_search_levels1_wrong v_search_levels1_more v_search_levels1_rowOf v_search_levels1_colOf v_search_levels1_below v_search_levels1_face v_search_levels1_worn v_search_levels1_last v_search_levels1_bend v_search_levels1_tall v_search_levels2_rows v_search_levels2_cols v_search_levels2_high v_search_levels2_wide v_search_levels2_folds v_search_levels2_wrong v_search_levels2_more v_search_levels2_rowOf v_search_levels2_colOf v_search_levels2_below v_search_levels2_face v_search_levels2_worn v_search_levels2_last v_search_levels2_bend v_search_levels2_tall v_search_levels3_rows v_search_levels3_cols v_search_levels3_high v_search_levels3_wide v_search_levels3_folds v_search_levels3_wrong v_search_levels3_more v_search_levels3_rowOf v_search_levels3_colOf v_search_levels3_below v_search_levels3_face v_search_levels3_worn v_search_levels3_last v_search_levels3_bend v_search_levels3_tall v_search_path v_search_best v_strip_list v_strip_found v_strip_at v_changes_value v_changes_done v_changes_size v_changes_before v_changes_after v_foldings_size v_foldings_ran v_foldings_number v_foldings_kinds v_foldings_trace v_shelves0_holds v_shelves0_body v_shelves0_sort v_shelves0_size v_shelves0_items v_shelves1_holds v_shelves1_body v_shelves1_sort v_shelves1_size v_shelves1_items v_shelves2_holds v_shelves2_body v_shelves2_sort v_shelves2_size v_shelves2_items v_shelves3_holds v_shelves3_body v_shelves3_sort v_shelves3_size v_shelves3_items v_shelves4_holds v_shelves4_body v_shelves4_sort v_shelves4_size v_shelves4_items v_shelves5_holds v_shelves5_body v_shelves5_sort v_shelves5_size v_shelves5_items ++ wd_X9 cI cL cS cH b m_keptMany m_done m_rowsOf m_columnsOf m_folded m_wronged m_tapeMany m_textMany m_base m_at m_ends m_fault m_opened m_bentMany m_bentWrong m_moreWorn m_planned m_allWrong m_allWorn m_z m_wishedField m_isFound m_bestWrong m_bestWorn m_bestMany m_soughtBy m_sought m_soughtAt m_foundMany m_foundOrder m_isKept m_imageRows m_imageColumns m_imageFolded m_imageWronged m_bodies m_ran m_ownKind m_ownNumber m_limit m_changeWas m_changeIs m_shapeRows m_shapeColumns m_row m_column m_below m_face m_worn m_lastBend m_tape m_text m_names m_bends m_high m_to m_pileSize m_planLine m_planWay m_way1 m_bestWay m_order1 m_placeIn m_bodyKind m_trace m_shelf m_many m_items m_carried)) (hS : va_S (fun q => s.heap.size ≤ q) s.heap H locs) (hl : lv_has ls 4 [(0, .ref bb), (1, .ref (a 0)), (2, .ref (b 0)), (3, .int x3)])
    (kk : ∀ (H : Heap) (locs : List Loc), va_P D mm_cl (wd_X8 cI cL cS cH a v_hasImage v_now_rows v_now_cols v_now_high v_now_wide v_now_folds v_now_wrong v_now_more v_now_rowOf v_now_colOf v_now_below v_now_face v_now_worn v_now_last v_now_bend v_now_tall v_kept_rows v_kept_cols v_kept_high v_kept_wide v_kept_folds v_kept_wrong v_kept_more v_kept_rowOf v_kept_colOf v_kept_below v_kept_face v_kept_worn v_kept_last v_kept_bend v_kept_tall v_wearing_size v_wearing_stepCount v_wearing_draftCount v_wearing_place v_wearing_fault v_wearing_stacked v_wearing_tape v_wearing_steps v_wearing_draft v_wearing_stack v_planned_size v_planned_trial_rows v_planned_trial_cols v_planned_trial_high v_planned_trial_wide v_planned_trial_folds v_planned_trial_wrong v_planned_trial_more v_planned_trial_rowOf v_planned_trial_colOf v_planned_trial_below v_planned_trial_face v_planned_trial_worn v_planned_trial_last v_planned_trial_bend v_planned_trial_tall v_planned_lines v_planned_ways v_search_found v_search_wrong v_search_more v_search_folds v_search_wanted v_search_levels0_rows v_search_levels0_cols v_search_levels0_high v_search_levels0_wide v_search_levels0_folds v_search_levels0_wrong v_search_levels0_more v_search_levels0_rowOf v_search_levels0_colOf v_search_levels0_below v_search_levels0_face v_search_levels0_worn v_search_levels0_last v_search_levels0_bend v_search_levels0_tall v_search_levels1_rows v_search_levels1_cols v_search_levels1_high v_search_levels1_wide v_search_levels1_folds v_search_levels1_wrong v_search_levels1_more v_search_levels1_rowOf v_search_levels1_colOf v_search_levels1_below v_search_levels1_face v_search_levels1_worn v_search_levels1_last v_search_levels1_bend v_search_levels1_tall v_search_levels2_rows v_search_levels2_cols v_search_levels2_high v_search_levels2_wide v_search_levels2_folds v_search_levels2_wrong v_search_levels2_more v_search_levels2_rowOf v_search_levels2_colOf v_search_levels2_below v_search_levels2_face v_search_levels2_worn v_search_levels2_last v_search_levels2_bend v_search_levels2_tall v_search_levels3_rows v_search_levels3_cols v_search_levels3_high v_search_levels3_wide v_search_levels3_folds v_search_levels3_wrong v_search_levels3_more v_search_levels3_rowOf v_search_levels3_colOf v_search_levels3_below v_search_levels3_face v_search_levels3_worn v_search_levels3_last v_search_levels3_bend v_search_levels3_tall v_search_path v_search_best v_strip_list v_strip_found v_strip_at v_changes_value v_changes_done v_changes_size v_changes_before v_changes_after v_foldings_size v_foldings_ran v_foldings_number v_foldings_kinds v_foldings_trace v_shelves0_holds v_shelves0_body v_shelves0_sort v_shelves0_size v_shelves0_items v_shelves1_holds v_shelves1_body v_shelves1_sort v_shelves1_size v_shelves1_items v_shelves2_holds v_shelves2_body v_shelves2_sort v_shelves2_size v_shelves2_items v_shelves3_holds v_shelves3_body v_shelves3_sort v_shelves3_size v_shelves3_items v_shelves4_holds v_shelves4_body v_shelves4_sort v_shelves4_size v_shelves4_items v_shelves5_holds v_shelves5_body v_shelves5_sort v_shelves5_size v_shelves5_items ++ wd_X9 cI cL cS cH b m_keptMany m_done m_rowsOf m_columnsOf m_folded m_wronged m_tapeMany m_textMany m_base m_at m_ends m_fault m_opened m_bentMany m_bentWrong m_moreWorn m_planned m_allWrong m_allWorn m_z m_wishedField m_isFound m_bestWrong m_bestWorn m_bestMany m_soughtBy m_sought m_soughtAt m_foundMany m_foundOrder m_isKept m_imageRows m_imageColumns m_imageFolded m_imageWronged m_bodies m_ran m_ownKind m_ownNumber m_limit m_changeWas m_changeIs m_shapeRows m_shapeColumns m_row m_column m_below m_face m_worn m_lastBend m_tape m_text m_names m_bends m_high m_to m_pileSize m_planLine m_planWay m_way1 m_bestWay m_order1 m_placeIn m_bodyKind m_trace m_shelf m_many m_items m_carried) H → va_D (fun q => s.heap.size ≤ q) (wd_X8 cI cL cS cH a v_hasImage v_now_rows v_now_cols v_now_high v_now_wide v_now_folds v_now_wrong v_now_more v_now_rowOf v_now_colOf v_now_below v_now_face v_now_worn v_now_last v_now_bend v_now_tall v_kept_rows v_kept_cols v_kept_high v_kept_wide v_kept_folds v_kept_wrong v_kept_more v_kept_rowOf v_kept_colOf v_kept_below v_kept_face v_kept_worn v_kept_last v_kept_bend v_kept_tall v_wearing_size v_wearing_stepCount v_wearing_draftCount v_wearing_place v_wearing_fault v_wearing_stacked v_wearing_tape v_wearing_steps v_wearing_draft v_wearing_stack v_planned_size v_planned_trial_rows v_planned_trial_cols v_planned_trial_high v_planned_trial_wide v_planned_trial_folds v_planned_trial_wrong v_planned_trial_more v_planned_trial_rowOf v_planned_trial_colOf v_planned_trial_below v_planned_trial_face v_planned_trial_worn v_planned_trial_last v_planned_trial_bend v_planned_trial_tall v_planned_lines v_planned_ways v_search_found v_search_wrong v_search_more v_search_folds v_search_wanted v_search_levels0_rows v_search_levels0_cols v_search_levels0_high v_search_levels0_wide v_search_levels0_folds v_search_levels0_wrong v_search_levels0_more v_search_levels0_rowOf v_search_levels0_colOf v_search_levels0_below v_search_levels0_face v_search_levels0_worn v_search_levels0_last v_search_levels0_bend v_search_levels0_tall v_search_levels1_rows v_search_levels1_cols v_search_levels1_high v_search_levels1_wide v_search_levels1_folds v_search_levels1_wrong v_search_levels1_more v_search_levels1_rowOf v_search_levels1_colOf v_search_levels1_below v_search_levels1_face v_search_levels1_worn v_search_levels1_last v_search_levels1_bend v_search_levels1_tall v_search_levels2_rows v_search_levels2_cols v_search_levels2_high v_search_levels2_wide v_search_levels2_folds v_search_levels2_wrong v_search_levels2_more v_search_levels2_rowOf v_search_levels2_colOf v_search_levels2_below v_search_levels2_face v_search_levels2_worn v_search_levels2_last v_search_levels2_bend v_search_levels2_tall v_search_levels3_rows v_search_levels3_cols v_search_levels3_high v_search_levels3_wide v_search_levels3_folds v_search_levels3_wrong v_search_levels3_more v_search_levels3_rowOf v_search_levels3_colOf v_search_levels3_below v_search_levels3_face v_search_levels3_worn v_search_levels3_last v_search_levels3_bend v_search_levels3_tall v_search_path v_search_best v_strip_list v_strip_found v_strip_at v_changes_value v_changes_done v_changes_size v_changes_before v_changes_after v_foldings_size v_foldings_ran v_foldings_number v_foldings_kinds v_foldings_trace v_shelves0_holds v_shelves0_body v_shelves0_sort v_shelves0_size v_shelves0_items v_shelves1_holds v_shelves1_body v_shelves1_sort v_shelves1_size v_shelves1_items v_shelves2_holds v_shelves2_body v_shelves2_sort v_shelves2_size v_shelves2_items v_shelves3_holds v_shelves3_body v_shelves3_sort v_shelves3_size v_shelves3_items v_shelves4_holds v_shelves4_body v_shelves4_sort v_shelves4_size v_shelves4_items v_shelves5_holds v_shelves5_body v_shelves5_sort v_shelves5_size v_shelves5_items ++ wd_X9 cI cL cS cH b m_keptMany m_done m_rowsOf m_columnsOf m_folded m_wronged m_tapeMany m_textMany m_base m_at m_ends m_fault m_opened m_bentMany m_bentWrong m_moreWorn m_planned m_allWrong m_allWorn m_z m_wishedField m_isFound m_bestWrong m_bestWorn m_bestMany m_soughtBy m_sought m_soughtAt m_foundMany m_foundOrder m_isKept m_imageRows m_imageColumns m_imageFolded m_imageWronged m_bodies m_ran m_ownKind m_ownNumber m_limit m_changeWas m_changeIs m_shapeRows m_shapeColumns m_row m_column m_below m_face m_worn m_lastBend m_tape m_text m_names m_bends m_high m_to m_pileSize m_planLine m_planWay m_way1 m_bestWay m_order1 m_placeIn m_bodyKind m_trace m_shelf m_many m_items m_carried) → va_S (fun q => s.heap.size ≤ q) s.heap H locs → W p l e room_1 s m #[Value.ref bb] below meth c H locs cells slots Q (F0 m 1391 ls [])) : W p l e room_1 s m #[Value.ref bb] below meth c H locs cells slots Q (F0 m 1239 ls []) := by
  obtain ⟨hx, hb, hml, hown, hts, hr, hlocks, hK, hSt⟩ := id C0
  have hA : ∀ q : Nat, s.heap.size ≤ q → (fun q : Nat => s.heap.size ≤ q) q := fun _ h => h
  have hbA : ¬ (fun q : Nat => s.heap.size ≤ q) bb := Nat.not_le.mpr hbl
  refine lv_aload_n hx hb dL_law_1239 rfl (lv_at hl 1 rfl) ?_
  refine lv_aload_n hx hb dL_law_1240 rfl (lv_at hl 0 rfl) ?_
  refine lv_iload_n hx hb dL_law_1241 rfl (lv_at hl 3 rfl) ?_
  refine lv_iconst (v := 1) hx hb dL_law_1242 (by decide) ?_
  refine lv_iadd hx hb dL_law_1243 ?_
  refine va_sld hx hb hX hbl hbA hS hi_1 dL_law_1244 ?_
  refine W.eq (g2 := F0 m 1245 ls [.int y1, .ref (a 0)]) (by rw [ey_1]) ?_
  refine lv_aload_n hx hb dL_law_1245 rfl (lv_at hl 0 rfl) ?_
  refine lv_iload_n hx hb dL_law_1246 rfl (lv_at hl 3 rfl) ?_
  refine lv_iconst (v := 2) hx hb dL_law_1247 (by decide) ?_
  refine lv_iadd hx hb dL_law_1248 ?_
  refine va_sld hx hb hX hbl hbA hS hi_2 dL_law_1249 ?_
  refine W.eq (g2 := F0 m 1250 ls [.int y2, .int y1, .ref (a 0)]) (by rw [ey_2]) ?_
  refine mm_callA (ci := 8) (rest := []) C0 lk_L_160 (ctX8_element (a := a) (d := 3) (Nat.le_refl _) h8) (by decide) rfl hl.1 rfl (mm_cat rfl) dL_law_1250 hc1 hc2 hP hD hA hS rfl rfl (fun H locs hP hD hS => ?_)
  refine W.eq (g2 := F0 m 1253 ls [.long r8]) rfl ?_
  refine lv_pop2_2 hx hb dL_law_1253 rfl ?_
  refine lv_aload_n hx hb dL_law_1254 rfl (lv_at hl 2 rfl) ?_
  refine lv_aload_n hx hb dL_law_1255 rfl (lv_at hl 0 rfl) ?_
  refine lv_iload_n hx hb dL_law_1256 rfl (lv_at hl 3 rfl) ?_
  refine lv_iconst (v := 1) hx hb dL_law_1257 (by decide) ?_
  refine lv_iadd hx hb dL_law_1258 ?_
  refine va_sld hx hb hX hbl hbA hS hi_1 dL_law_1259 ?_
  refine W.eq (g2 := F0 m 1260 ls [.int y1, .ref (b 0)]) (by rw [ey_1]) ?_
  refine lv_aload_n hx hb dL_law_1260 rfl (lv_at hl 0 rfl) ?_
  refine lv_iload_n hx hb dL_law_1261 rfl (lv_at hl 3 rfl) ?_
  refine lv_iconst (v := 2) hx hb dL_law_1262 (by decide) ?_
  refine lv_iadd hx hb dL_law_1263 ?_
  refine va_sld hx hb hX hbl hbA hS hi_2 dL_law_1264 ?_
  refine W.eq (g2 := F0 m 1265 ls [.int y2, .int y1, .ref (b 0)]) (by rw [ey_2]) ?_
  refine mm_callB (q0 := 99) (ci := 9) (rest := []) C0 lk_L_164 (ctX9_element (a := b) (d := 4) (Nat.le_refl _) h9) (by decide) rfl hl.1 rfl (mm_cat rfl) dL_law_1265 hc1 hc2 hP hD hA hS rfl rfl (fun H locs hP hD hS => ?_)
  refine W.eq (g2 := F0 m 1268 ls [.long r9]) rfl ?_
  refine lv_pop2_2 hx hb dL_law_1268 rfl ?_
  refine lv_goto (tgt := 1391) hx hb dL_law_1269 (by decide) ?_
  exact kk H locs hP hD hS

set_option maxHeartbeats 8000000 in
set_option maxRecDepth 100000 in
theorem lc_36 {p : Program} {l : Launch} {e : Env} {s : State} {m : MethodId} {below : List Frame} {meth : Method} {c : Code} {D : va_G} {cI cL cS cH : ClassId} {bb L N : Nat} {xs : Nat → Int32} {x3 : Int32} {a b : Nat → Nat} {v_hasImage : Bool} {v_now_rows : Int32} {v_now_cols : Int32} {v_now_high : Int32} {v_now_wide : Int32} {v_now_folds : Int32} {v_now_wrong : Int32} {v_now_more : Int32} {v_now_rowOf : List Int32} {v_now_colOf : List Int32} {v_now_below : List Int32} {v_now_face : List Int32} {v_now_worn : List Int32} {v_now_last : List Int32} {v_now_bend : List Int32} {v_now_tall : List Int32} {v_kept_rows : Int32} {v_kept_cols : Int32} {v_kept_high : Int32} {v_kept_wide : Int32} {v_kept_folds : Int32} {v_kept_wrong : Int32} {v_kept_more : Int32} {v_kept_rowOf : List Int32} {v_kept_colOf : List Int32} {v_kept_below : List Int32} {v_kept_face : List Int32} {v_kept_worn : List Int32} {v_kept_last : List Int32} {v_kept_bend : List Int32} {v_kept_tall : List Int32} {v_wearing_size : Int32} {v_wearing_stepCount : Int32} {v_wearing_draftCount : Int32} {v_wearing_place : Int32} {v_wearing_fault : Int32} {v_wearing_stacked : Int32} {v_wearing_tape : List Int32} {v_wearing_steps : List Int32} {v_wearing_draft : List Int32} {v_wearing_stack : List Int32} {v_planned_size : Int32} {v_planned_trial_rows : Int32} {v_planned_trial_cols : Int32} {v_planned_trial_high : Int32} {v_planned_trial_wide : Int32} {v_planned_trial_folds : Int32} {v_planned_trial_wrong : Int32} {v_planned_trial_more : Int32} {v_planned_trial_rowOf : List Int32} {v_planned_trial_colOf : List Int32} {v_planned_trial_below : List Int32} {v_planned_trial_face : List Int32} {v_planned_trial_worn : List Int32} {v_planned_trial_last : List Int32} {v_planned_trial_bend : List Int32} {v_planned_trial_tall : List Int32} {v_planned_lines : List Int32} {v_planned_ways : List Int32} {v_search_found : Bool} {v_search_wrong : Int32} {v_search_more : Int32} {v_search_folds : Int32} {v_search_wanted : Int32} {v_search_levels0_rows : Int32} {v_search_levels0_cols : Int32} {v_search_levels0_high : Int32} {v_search_levels0_wide : Int32} {v_search_levels0_folds : Int32} {v_search_levels0_wrong : Int32} {v_search_levels0_more : Int32} {v_search_levels0_rowOf : List Int32} {v_search_levels0_colOf : List Int32} {v_search_levels0_below : List Int32} {v_search_levels0_face : List Int32} {v_search_levels0_worn : List Int32} {v_search_levels0_last : List Int32} {v_search_levels0_bend : List Int32} {v_search_levels0_tall : List Int32} {v_search_levels1_rows : Int32} {v_search_levels1_cols : Int32} {v_search_levels1_high : Int32} {v_search_levels1_wide : Int32} {v_search_levels1_folds : Int32} {v_search_levels1_wrong : Int32} {v_search_levels1_more : Int32} {v_search_levels1_rowOf : List Int32} {v_search_levels1_colOf : List Int32} {v_search_levels1_below : List Int32} {v_search_levels1_face : List Int32} {v_search_levels1_worn : List Int32} {v_search_levels1_last : List Int32} {v_search_levels1_bend : List Int32} {v_search_levels1_tall : List Int32} {v_search_levels2_rows : Int32} {v_search_levels2_cols : Int32} {v_search_levels2_high : Int32} {v_search_levels2_wide : Int32} {v_search_levels2_folds : Int32} {v_search_levels2_wrong : Int32} {v_search_levels2_more : Int32} {v_search_levels2_rowOf : List Int32} {v_search_levels2_colOf : List Int32} {v_search_levels2_below : List Int32} {v_search_levels2_face : List Int32} {v_search_levels2_worn : List Int32} {v_search_levels2_last : List Int32} {v_search_levels2_bend : List Int32} {v_search_levels2_tall : List Int32} {v_search_levels3_rows : Int32} {v_search_levels3_cols : Int32} {v_search_levels3_high : Int32} {v_search_levels3_wide : Int32} {v_search_levels3_folds : Int32} {v_search_levels3_wrong : Int32} {v_search_levels3_more : Int32} {v_search_levels3_rowOf : List Int32} {v_search_levels3_colOf : List Int32} {v_search_levels3_below : List Int32} {v_search_levels3_face : List Int32} {v_search_levels3_worn : List Int32} {v_search_levels3_last : List Int32} {v_search_levels3_bend : List Int32} {v_search_levels3_tall : List Int32} {v_search_path : List Int32} {v_search_best : List Int32} {v_strip_list : List Int32} {v_strip_found : List Int32} {v_strip_at : List Int32} {v_changes_value : Int32} {v_changes_done : Int32} {v_changes_size : Int32} {v_changes_before : List Int32} {v_changes_after : List Int32} {v_foldings_size : Int32} {v_foldings_ran : Int32} {v_foldings_number : Int32} {v_foldings_kinds : List Int32} {v_foldings_trace : List Int32} {v_shelves0_holds : Int32} {v_shelves0_body : Int32} {v_shelves0_sort : Int32} {v_shelves0_size : Int32} {v_shelves0_items : List Int64} {v_shelves1_holds : Int32} {v_shelves1_body : Int32} {v_shelves1_sort : Int32} {v_shelves1_size : Int32} {v_shelves1_items : List Int64} {v_shelves2_holds : Int32} {v_shelves2_body : Int32} {v_shelves2_sort : Int32} {v_shelves2_size : Int32} {v_shelves2_items : List Int64} {v_shelves3_holds : Int32} {v_shelves3_body : Int32} {v_shelves3_sort : Int32} {v_shelves3_size : Int32} {v_shelves3_items : List Int64} {v_shelves4_holds : Int32} {v_shelves4_body : Int32} {v_shelves4_sort : Int32} {v_shelves4_size : Int32} {v_shelves4_items : List Int64} {v_shelves5_holds : Int32} {v_shelves5_body : Int32} {v_shelves5_sort : Int32} {v_shelves5_size : Int32} {v_shelves5_items : List Int64} {m_keptMany : Int32} {m_done : Int32} {m_rowsOf : Int32} {m_columnsOf : Int32} {m_folded : Int32} {m_wronged : Int32} {m_tapeMany : Int32} {m_textMany : Int32} {m_base : Int32} {m_at : Int32} {m_ends : Int32} {m_fault : Int32} {m_opened : Int32} {m_bentMany : Int32} {m_bentWrong : Int32} {m_moreWorn : Int32} {m_planned : Int32} {m_allWrong : Int32} {m_allWorn : Int32} {m_z : Int32} {m_wishedField : Int32} {m_isFound : Bool} {m_bestWrong : Int32} {m_bestWorn : Int32} {m_bestMany : Int32} {m_soughtBy : Int32} {m_sought : Int32} {m_soughtAt : Int32} {m_foundMany : Int32} {m_foundOrder : Int32} {m_isKept : Bool} {m_imageRows : Int32} {m_imageColumns : Int32} {m_imageFolded : Int32} {m_imageWronged : Int32} {m_bodies : Int32} {m_ran : Int32} {m_ownKind : Int32} {m_ownNumber : Int32} {m_limit : List Int32} {m_changeWas : List Int32} {m_changeIs : List Int32} {m_shapeRows : List Int32} {m_shapeColumns : List Int32} {m_row : List Int32} {m_column : List Int32} {m_below : List Int32} {m_face : List Int32} {m_worn : List Int32} {m_lastBend : List Int32} {m_tape : List Int32} {m_text : List Int32} {m_names : List Int32} {m_bends : List Int32} {m_high : List Int32} {m_to : List Int32} {m_pileSize : List Int32} {m_planLine : List Int32} {m_planWay : List Int32} {m_way1 : List Int32} {m_bestWay : List Int32} {m_order1 : List Int32} {m_placeIn : List Int32} {m_bodyKind : List Int32} {m_trace : List Int32} {m_shelf : List Int32} {m_many : List Int32} {m_items : List Int64} {m_carried : List Int64}  {r8 : Int32} {p_shelves0_items : List Int64} {p_shelves1_items : List Int64} {p_shelves2_items : List Int64} {p_shelves3_items : List Int64} {p_shelves4_items : List Int64} {p_shelves5_items : List Int64} {r9 : Int32} {q_items : List Int64} {q_carried : List Int64} (C0 : mm_Cx p s m #[Value.ref bb] meth c RL code 4 ret D (mm_T cI cL cS cH) (fun q => s.heap.size ≤ q)) (hX : va_X bb L xs s s.heap) (hbl : bb < s.heap.size) {y1 : Int32} (hi_1 : vp_in (x3 + (1 : Int32)) L) (ey_1 : xs (x3 + (1 : Int32)).toNatClampNeg = y1) {y2 : Int32} (hi_2 : vp_in (x3 + (2 : Int32)) L) (ey_2 : xs (x3 + (2 : Int32)).toNatClampNeg = y2) {y3 : Int32} (hi_3 : vp_in (x3 + (3 : Int32)) L) (ey_3 : xs (x3 + (3 : Int32)).toNatClampNeg = y3) {y4 : Int32} (hi_4 : vp_in (x3 + (4 : Int32)) L) (ey_4 : xs (x3 + (4 : Int32)).toNatClampNeg = y4) {y5 : Int32} (hi_5 : vp_in (x3 + (5 : Int32)) L) (ey_5 : xs (x3 + (5 : Int32)).toNatClampNeg = y5) (h8 : fX8_shift N y1 y2 y3 y4 y5 v_shelves0_holds v_shelves0_sort v_shelves0_size v_shelves0_items v_shelves1_holds v_shelves1_sort v_shelves1_size v_shelves1_items v_shelves2_holds v_shelves2_sort v_shelves2_size v_shelves2_items v_shelves3_holds v_shelves3_sort v_shelves3_size v_shelves3_items v_shelves4_holds v_shelves4_sort v_shelves4_size v_shelves4_items v_shelves5_holds v_shelves5_sort v_shelves5_size v_shelves5_items = some (r8, p_shelves0_items, p_shelves1_items, p_shelves2_items, p_shelves3_items, p_shelves4_items, p_shelves5_items)) (h9 : fX9_shift N y1 y2 y3 y4 y5 m_shelf m_many m_items m_carried = some (r9, q_items, q_carried)) {cells slots : Nat} {Q : State → Prop} (hc1 : cells ≤ room_1.cells) (hc2 : slots ≤ room_1.slots) {H : Heap} {locs : List Loc} {ls : Array Slot}
    (hP : va_P D mm_cl (wd_X8 cI cL cS cH a v_hasImage v_now_rows v_now_cols v_now_high v_now_wide v_now_folds v_now_wrong v_now_more v_now_rowOf v_now_colOf v_now_below v_now_face v_now_worn v_now_last v_now_bend v_now_tall v_kept_rows v_kept_cols v_kept_high v_kept_wide v_kept_folds v_kept_wrong v_kept_more v_kept_rowOf v_kept_colOf v_kept_below v_kept_face v_kept_worn v_kept_last v_kept_bend v_kept_tall v_wearing_size v_wearing_stepCount v_wearing_draftCount v_wearing_place v_wearing_fault v_wearing_stacked v_wearing_tape v_wearing_steps v_wearing_draft v_wearing_stack v_planned_size v_planned_trial_rows v_planned_trial_cols v_planned_trial_high v_planned_trial_wide v_planned_trial_folds v_planned_trial_wrong v_planned_trial_more v_planned_trial_rowOf v_planned_trial_colOf v_planned_trial_below v_planned_trial_face v_planned_trial_worn v_planned_trial_last v_planned_trial_bend v_planned_trial_tall v_planned_lines v_planned_ways v_search_found v_search_wrong v_search_more v_search_folds v_search_wanted v_search_levels0_rows v_search_levels0_cols v_search_levels0_high v_search_levels0_wide v_search_levels0_folds v_search_levels0_wrong v_search_levels0_more v_search_levels0_rowOf v_search_levels0_colOf v_search_levels0_below v_search_levels0_face v_search_levels0_worn v_search_levels0_last v_search_levels0_bend v_search_levels0_tall v_search_levels1_rows v_search_levels1_cols v_search_levels1_high v_search_levels1_wide v_search_levels1_folds v_search_levels1_wrong v_search_levels1_more v_search_levels1_rowOf v_search_levels1_colOf v_search_levels1_below v_search_levels1_face v_search_levels1_worn v_search_levels1_last v_search_levels1_bend v_search_levels1_tall v_search_levels2_rows v_search_levels2_cols v_search_levels2_high v_search_levels2_wide v_search_levels2_folds v_search_levels2_wrong v_search_levels2_more v_search_levels2_rowOf v_search_levels2_colOf v_search_levels2_below v_search_levels2_face v_search_levels2_worn v_search_levels2_last v_search_levels2_bend v_search_levels2_tall v_search_levels3_rows v_search_levels3_cols v_search_levels3_high v_search_levels3_wide v_search_levels3_folds v_search_levels3_wrong v_search_levels3_more v_search_levels3_rowOf v_search_levels3_colOf v_search_levels3_below v_search_levels3_face v_search_levels3_worn v_search_levels3_last v_search_levels3_bend v_search_levels3_tall v_search_path v_search_best v_strip_list v_strip_found v_strip_at v_changes_value v_changes_done v_changes_size v_changes_before v_changes_after v_foldings_size v_foldings_ran v_foldings_number v_foldings_kinds v_foldings_trace v_shelves0_holds v_shelves0_body v_shelves0_sort v_shelves0_size v_shelves0_items v_shelves1_holds v_shelves1_body v_shelves1_sort v_shelves1_size v_shelves1_items v_shelves2_holds v_shelves2_body v_shelves2_sort v_shelves2_size v_shelves2_items v_shelves3_holds v_shelves3_body v_shelves3_sort v_shelves3_size v_shelves3_items v_shelves4_holds v_shelves4_body v_shelves4_sort v_shelves4_size v_shelves4_items v_shelves5_holds v_shelves5_body v_shelves5_sort v_shelves5_size v_shelves5_items ++ wd_X9 cI cL cS cH b m_keptMany m_done m_rowsOf m_columnsOf m_folded m_wronged m_tapeMany m_textMany m_base m_at m_ends m_fault m_opened m_bentMany m_bentWrong m_moreWorn m_planned m_allWrong m_allWorn m_z m_wishedField m_isFound m_bestWrong m_bestWorn m_bestMany m_soughtBy m_sought m_soughtAt m_foundMany m_foundOrder m_isKept m_imageRows m_imageColumns m_imageFolded m_imageWronged m_bodies m_ran m_ownKind m_ownNumber m_limit m_changeWas m_changeIs m_shapeRows m_shapeColumns m_row m_column m_below m_face m_worn m_lastBend m_tape m_text m_names m_bends m_high m_to m_pileSize m_planLine m_planWay m_way1 m_bestWay m_order1 m_placeIn m_bodyKind m_trace m_shelf m_many m_items m_carried) H) (hD : va_D (fun q => s.heap.size ≤ q) (wd_X8 cI cL cS cH a v_hasImage v_now_rows v_now_cols v_now_high v_now_wide v_now_folds v_now_wrong v_now_more v_now_rowOf v_now_colOf v_now_below v_now_face v_now_worn v_now_last v_now_bend v_now_tall v_kept_rows v_kept_cols v_kept_high v_kept_wide v_kept_folds v_kept_wrong v_kept_more v_kept_rowOf v_kept_colOf v_kept_below v_kept_face v_kept_worn v_kept_last v_kept_bend v_kept_tall v_wearing_size v_wearing_stepCount v_wearing_draftCount v_wearing_place v_wearing_fault v_wearing_stacked v_wearing_tape v_wearing_steps v_wearing_draft v_wearing_stack v_planned_size v_planned_trial_rows v_planned_trial_cols v_planned_trial_high v_planned_trial_wide v_planned_trial_folds v_planned_trial_wrong v_planned_trial_more v_planned_trial_rowOf v_planned_trial_colOf v_planned_trial_below v_planned_trial_face v_planned_trial_worn v_planned_trial_last v_planned_trial_bend v_planned_trial_tall v_planned_lines v_planned_ways v_search_found v_search_wrong v_search_more v_search_folds v_search_wanted v_search_levels0_rows v_search_levels0_cols v_search_levels0_high v_search_levels0_wide v_search_levels0_folds v_search_levels0_wrong v_search_levels0_more v_search_levels0_rowOf v_search_levels0_colOf v_search_levels0_below v_search_levels0_face v_search_levels0_worn v_search_levels0_last v_search_levels0_bend v_search_levels0_tall v_search_levels1_rows v_search_levels1_cols v_search_levels1_high v_search_levels1_wide v_search_levels1_folds v_search_levels1_wrong v_search_levels1_more v_search_levels1_rowOf v_search_levels1_colOf v_search_levels1_below v_search_levels1_face v_search_levels1_worn v_search_levels1_last v_search_levels1_bend v_search_levels1_tall v_search_levels2_rows v_search_levels2_cols v_search_levels2_high v_search_levels2_wide v_search_levels2_folds v_search_levels2_wrong v_search_levels2_more v_search_levels2_rowOf v_search_levels2_colOf v_search_levels2_below v_search_levels2_face v_search_levels2_worn v_search_levels2_last v_search_levels2_bend v_search_levels2_tall v_search_levels3_rows v_search_levels3_cols v_search_levels3_high v_search_levels3_wide v_search_levels3_folds v_search_levels3_wrong v_search_levels3_more v_search_levels3_rowOf v_search_levels3_colOf v_search_levels3_below v_search_levels3_face v_search_levels3_worn v_search_levels3_last v_search_levels3_bend v_search_levels3_tall v_search_path v_search_best v_strip_list v_strip_found v_strip_at v_changes_value v_changes_done v_changes_size v_changes_before v_changes_after v_foldings_size v_foldings_ran v_foldings_number v_foldings_kinds v_foldings_trace v_shelves0_holds v_shelves0_body v_shelves0_sort v_shelves0_size v_shelves0_items v_shelves1_holds v_shelves1_body v_shelves1_sort v_shelves1_size v_shelves1_items v_shelves2_holds v_shelves2_body v_shelves2_sort v_shelves2_size v_shelves2_items v_shelves3_holds v_shelves3_body v_shelves3_sort v_shelves3_size v_shelves3_items v_shelves4_holds v_shelves4_body v_shelves4_sort v_shelves4_size v_shelves4_items v_shelves5_holds v_shelves5_body v_shelves5_sort v_shelves5_size v_shelves5_items ++ wd_X9 cI cL cS cH b m_keptMany m_done m_rowsOf m_columnsOf m_folded m_wronged m_tapeMany m_textMany m_base m_at m_ends m_fault m_opened m_bentMany m_bentWrong m_moreWorn m_planned m_allWrong m_allWorn m_z m_wishedField m_isFound m_bestWrong m_bestWorn m_bestMany m_soughtBy m_sought m_soughtAt m_foundMany m_foundOrder m_isKept m_imageRows m_imageColumns m_imageFolded m_imageWronged m_bodies m_ran m_ownKind m_ownNumber m_limit m_changeWas m_changeIs m_shapeRows m_shapeColumns m_row m_column m_below m_face m_worn m_lastBend m_tape m_text m_names m_bends m_high m_to m_pileSize m_planLine m_planWay m_way1 m_bestWay m_order1 m_placeIn m_bodyKind m_trace m_shelf m_many m_items m_carried)) (hS : va_S (fun q => s.heap.size ≤ q) s.heap H locs) (hl : lv_has ls 4 [(0, .ref bb), (1, .ref (a 0)), (2, .ref (b 0)), (3, .int x3)])
    (kk : ∀ (H : Heap) (locs : List Loc), va_P D mm_cl (wd_X8 cI cL cS cH a v_hasImage v_now_rows v_now_cols v_now_high v_now_wide v_now_folds v_now_wrong v_now_more v_now_rowOf v_now_colOf v_now_below v_now_face v_now_worn v_now_last v_now_bend v_now_tall v_kept_rows v_kept_cols v_kept_high v_kept_wide v_kept_folds v_kept_wrong v_kept_more v_kept_rowOf v_kept_colOf v_kept_below v_kept_face v_kept_worn v_kept_last v_kept_bend v_kept_tall v_wearing_size v_wearing_stepCount v_wearing_draftCount v_wearing_place v_wearing_fault v_wearing_stacked v_wearing_tape v_wearing_steps v_wearing_draft v_wearing_stack v_planned_size v_planned_trial_rows v_planned_trial_cols v_planned_trial_high v_planned_trial_wide v_planned_trial_folds v_planned_trial_wrong v_planned_trial_more v_planned_trial_rowOf v_planned_trial_colOf v_planned_trial_below v_planned_trial_face v_planned_trial_worn v_planned_trial_last v_planned_trial_bend v_planned_trial_tall v_planned_lines v_planned_ways v_search_found v_search_wrong v_search_more v_search_folds v_search_wanted v_search_levels0_rows v_search_levels0_cols v_search_levels0_high v_search_levels0_wide v_search_levels0_folds v_search_levels0_wrong v_search_levels0_more v_search_levels0_rowOf v_search_levels0_colOf v_search_levels0_below v_search_levels0_face v_search_levels0_worn v_search_levels0_last v_search_levels0_bend v_search_levels0_tall v_search_levels1_rows v_search_levels1_cols v_search_levels1_high v_search_levels1_wide v_search_levels1_folds v_search_levels1_wrong v_search_levels1_more v_search_levels1_rowOf v_search_levels1_colOf v_search_levels1_below v_search_levels1_face v_search_levels1_worn v_search_levels1_last v_search_levels1_bend v_search_levels1_tall v_search_levels2_rows v_search_levels2_cols v_search_levels2_high v_search_levels2_wide v_search_levels2_folds v_search_levels2_wrong v_search_levels2_more v_search_levels2_rowOf v_search_levels2_colOf v_search_levels2_below v_search_levels2_face v_search_levels2_worn v_search_levels2_last v_search_levels2_bend v_search_levels2_tall v_search_levels3_rows v_search_levels3_cols v_search_levels3_high v_search_levels3_wide v_search_levels3_folds v_search_levels3_wrong v_search_levels3_more v_search_levels3_rowOf v_search_levels3_colOf v_search_levels3_below v_search_levels3_face v_search_levels3_worn v_search_levels3_last v_search_levels3_bend v_search_levels3_tall v_search_path v_search_best v_strip_list v_strip_found v_strip_at v_changes_value v_changes_done v_changes_size v_changes_before v_changes_after v_foldings_size v_foldings_ran v_foldings_number v_foldings_kinds v_foldings_trace v_shelves0_holds v_shelves0_body v_shelves0_sort v_shelves0_size p_shelves0_items v_shelves1_holds v_shelves1_body v_shelves1_sort v_shelves1_size p_shelves1_items v_shelves2_holds v_shelves2_body v_shelves2_sort v_shelves2_size p_shelves2_items v_shelves3_holds v_shelves3_body v_shelves3_sort v_shelves3_size p_shelves3_items v_shelves4_holds v_shelves4_body v_shelves4_sort v_shelves4_size p_shelves4_items v_shelves5_holds v_shelves5_body v_shelves5_sort v_shelves5_size p_shelves5_items ++ wd_X9 cI cL cS cH b m_keptMany m_done m_rowsOf m_columnsOf m_folded m_wronged m_tapeMany m_textMany m_base m_at m_ends m_fault m_opened m_bentMany m_bentWrong m_moreWorn m_planned m_allWrong m_allWorn m_z m_wishedField m_isFound m_bestWrong m_bestWorn m_bestMany m_soughtBy m_sought m_soughtAt m_foundMany m_foundOrder m_isKept m_imageRows m_imageColumns m_imageFolded m_imageWronged m_bodies m_ran m_ownKind m_ownNumber m_limit m_changeWas m_changeIs m_shapeRows m_shapeColumns m_row m_column m_below m_face m_worn m_lastBend m_tape m_text m_names m_bends m_high m_to m_pileSize m_planLine m_planWay m_way1 m_bestWay m_order1 m_placeIn m_bodyKind m_trace m_shelf m_many q_items q_carried) H → va_D (fun q => s.heap.size ≤ q) (wd_X8 cI cL cS cH a v_hasImage v_now_rows v_now_cols v_now_high v_now_wide v_now_folds v_now_wrong v_now_more v_now_rowOf v_now_colOf v_now_below v_now_face v_now_worn v_now_last v_now_bend v_now_tall v_kept_rows v_kept_cols v_kept_high v_kept_wide v_kept_folds v_kept_wrong v_kept_more v_kept_rowOf v_kept_colOf v_kept_below v_kept_face v_kept_worn v_kept_last v_kept_bend v_kept_tall v_wearing_size v_wearing_stepCount v_wearing_draftCount v_wearing_place v_wearing_fault v_wearing_stacked v_wearing_tape v_wearing_steps v_wearing_draft v_wearing_stack v_planned_size v_planned_trial_rows v_planned_trial_cols v_planned_trial_high v_planned_trial_wide v_planned_trial_folds v_planned_trial_wrong v_planned_trial_more v_planned_trial_rowOf v_planned_trial_colOf v_planned_trial_below v_planned_trial_face v_planned_trial_worn v_planned_trial_last v_planned_trial_bend v_planned_trial_tall v_planned_lines v_planned_ways v_search_found v_search_wrong v_search_more v_search_folds v_search_wanted v_search_levels0_rows v_search_levels0_cols v_search_levels0_high v_search_levels0_wide v_search_levels0_folds v_search_levels0_wrong v_search_levels0_more v_search_levels0_rowOf v_search_levels0_colOf v_search_levels0_below v_search_levels0_face v_search_levels0_worn v_search_levels0_last v_search_levels0_bend v_search_levels0_tall v_search_levels1_rows v_search_levels1_cols v_search_levels1_high v_search_levels1_wide v_search_levels1_folds v_search_levels1_wrong v_search_levels1_more v_search_levels1_rowOf v_search_levels1_colOf v_search_levels1_below v_search_levels1_face v_search_levels1_worn v_search_levels1_last v_search_levels1_bend v_search_levels1_tall v_search_levels2_rows v_search_levels2_cols v_search_levels2_high v_search_levels2_wide v_search_levels2_folds v_search_levels2_wrong v_search_levels2_more v_search_levels2_rowOf v_search_levels2_colOf v_search_levels2_below v_search_levels2_face v_search_levels2_worn v_search_levels2_last v_search_levels2_bend v_search_levels2_tall v_search_levels3_rows v_search_levels3_cols v_search_levels3_high v_search_levels3_wide v_search_levels3_folds v_search_levels3_wrong v_search_levels3_more v_search_levels3_rowOf v_search_levels3_colOf v_search_levels3_below v_search_levels3_face v_search_levels3_worn v_search_levels3_last v_search_levels3_bend v_search_levels3_tall v_search_path v_search_best v_strip_list v_strip_found v_strip_at v_changes_value v_changes_done v_changes_size v_changes_before v_changes_after v_foldings_size v_foldings_ran v_foldings_number v_foldings_kinds v_foldings_trace v_shelves0_holds v_shelves0_body v_shelves0_sort v_shelves0_size p_shelves0_items v_shelves1_holds v_shelves1_body v_shelves1_sort v_shelves1_size p_shelves1_items v_shelves2_holds v_shelves2_body v_shelves2_sort v_shelves2_size p_shelves2_items v_shelves3_holds v_shelves3_body v_shelves3_sort v_shelves3_size p_shelves3_items v_shelves4_holds v_shelves4_body v_shelves4_sort v_shelves4_size p_shelves4_items v_shelves5_holds v_shelves5_body v_shelves5_sort v_shelves5_size p_shelves5_items ++ wd_X9 cI cL cS cH b m_keptMany m_done m_rowsOf m_columnsOf m_folded m_wronged m_tapeMany m_textMany m_base m_at m_ends m_fault m_opened m_bentMany m_bentWrong m_moreWorn m_planned m_allWrong m_allWorn m_z m_wishedField m_isFound m_bestWrong m_bestWorn m_bestMany m_soughtBy m_sought m_soughtAt m_foundMany m_foundOrder m_isKept m_imageRows m_imageColumns m_imageFolded m_imageWronged m_bodies m_ran m_ownKind m_ownNumber m_limit m_changeWas m_changeIs m_shapeRows m_shapeColumns m_row m_column m_below m_face m_worn m_lastBend m_tape m_text m_names m_bends m_high m_to m_pileSize m_planLine m_planWay m_way1 m_bestWay m_order1 m_placeIn m_bodyKind m_trace m_shelf m_many q_items q_carried) → va_S (fun q => s.heap.size ≤ q) s.heap H locs → W p l e room_1 s m #[Value.ref bb] below meth c H locs cells slots Q (F0 m 1391 ls [])) : W p l e room_1 s m #[Value.ref bb] below meth c H locs cells slots Q (F0 m 1272 ls []) := by
  obtain ⟨hx, hb, hml, hown, hts, hr, hlocks, hK, hSt⟩ := id C0
  have hA : ∀ q : Nat, s.heap.size ≤ q → (fun q : Nat => s.heap.size ≤ q) q := fun _ h => h
  have hbA : ¬ (fun q : Nat => s.heap.size ≤ q) bb := Nat.not_le.mpr hbl
  refine lv_aload_n hx hb dL_law_1272 rfl (lv_at hl 1 rfl) ?_
  refine lv_aload_n hx hb dL_law_1273 rfl (lv_at hl 0 rfl) ?_
  refine lv_iload_n hx hb dL_law_1274 rfl (lv_at hl 3 rfl) ?_
  refine lv_iconst (v := 1) hx hb dL_law_1275 (by decide) ?_
  refine lv_iadd hx hb dL_law_1276 ?_
  refine va_sld hx hb hX hbl hbA hS hi_1 dL_law_1277 ?_
  refine W.eq (g2 := F0 m 1278 ls [.int y1, .ref (a 0)]) (by rw [ey_1]) ?_
  refine lv_aload_n hx hb dL_law_1278 rfl (lv_at hl 0 rfl) ?_
  refine lv_iload_n hx hb dL_law_1279 rfl (lv_at hl 3 rfl) ?_
  refine lv_iconst (v := 2) hx hb dL_law_1280 (by decide) ?_
  refine lv_iadd hx hb dL_law_1281 ?_
  refine va_sld hx hb hX hbl hbA hS hi_2 dL_law_1282 ?_
  refine W.eq (g2 := F0 m 1283 ls [.int y2, .int y1, .ref (a 0)]) (by rw [ey_2]) ?_
  refine lv_aload_n hx hb dL_law_1283 rfl (lv_at hl 0 rfl) ?_
  refine lv_iload_n hx hb dL_law_1284 rfl (lv_at hl 3 rfl) ?_
  refine lv_iconst (v := 3) hx hb dL_law_1285 (by decide) ?_
  refine lv_iadd hx hb dL_law_1286 ?_
  refine va_sld hx hb hX hbl hbA hS hi_3 dL_law_1287 ?_
  refine W.eq (g2 := F0 m 1288 ls [.int y3, .int y2, .int y1, .ref (a 0)]) (by rw [ey_3]) ?_
  refine lv_aload_n hx hb dL_law_1288 rfl (lv_at hl 0 rfl) ?_
  refine lv_iload_n hx hb dL_law_1289 rfl (lv_at hl 3 rfl) ?_
  refine lv_iconst (v := 4) hx hb dL_law_1290 (by decide) ?_
  refine lv_iadd hx hb dL_law_1291 ?_
  refine va_sld hx hb hX hbl hbA hS hi_4 dL_law_1292 ?_
  refine W.eq (g2 := F0 m 1293 ls [.int y4, .int y3, .int y2, .int y1, .ref (a 0)]) (by rw [ey_4]) ?_
  refine lv_aload_n hx hb dL_law_1293 rfl (lv_at hl 0 rfl) ?_
  refine lv_iload_n hx hb dL_law_1294 rfl (lv_at hl 3 rfl) ?_
  refine lv_iconst (v := 5) hx hb dL_law_1295 (by decide) ?_
  refine lv_iadd hx hb dL_law_1296 ?_
  refine va_sld hx hb hX hbl hbA hS hi_5 dL_law_1297 ?_
  refine W.eq (g2 := F0 m 1298 ls [.int y5, .int y4, .int y3, .int y2, .int y1, .ref (a 0)]) (by rw [ey_5]) ?_
  refine mm_callA (ci := 8) (rest := []) C0 lk_L_165 (ctX8_shift (a := a) (d := 2) (Nat.le_refl _) h8) (by decide) rfl hl.1 rfl (mm_cat rfl) dL_law_1298 hc1 hc2 hP hD hA hS rfl rfl (fun H locs hP hD hS => ?_)
  refine W.eq (g2 := F0 m 1301 ls [.int r8]) rfl ?_
  refine lv_pop hx hb dL_law_1301 rfl ?_
  refine lv_aload_n hx hb dL_law_1302 rfl (lv_at hl 2 rfl) ?_
  refine lv_aload_n hx hb dL_law_1303 rfl (lv_at hl 0 rfl) ?_
  refine lv_iload_n hx hb dL_law_1304 rfl (lv_at hl 3 rfl) ?_
  refine lv_iconst (v := 1) hx hb dL_law_1305 (by decide) ?_
  refine lv_iadd hx hb dL_law_1306 ?_
  refine va_sld hx hb hX hbl hbA hS hi_1 dL_law_1307 ?_
  refine W.eq (g2 := F0 m 1308 ls [.int y1, .ref (b 0)]) (by rw [ey_1]) ?_
  refine lv_aload_n hx hb dL_law_1308 rfl (lv_at hl 0 rfl) ?_
  refine lv_iload_n hx hb dL_law_1309 rfl (lv_at hl 3 rfl) ?_
  refine lv_iconst (v := 2) hx hb dL_law_1310 (by decide) ?_
  refine lv_iadd hx hb dL_law_1311 ?_
  refine va_sld hx hb hX hbl hbA hS hi_2 dL_law_1312 ?_
  refine W.eq (g2 := F0 m 1313 ls [.int y2, .int y1, .ref (b 0)]) (by rw [ey_2]) ?_
  refine lv_aload_n hx hb dL_law_1313 rfl (lv_at hl 0 rfl) ?_
  refine lv_iload_n hx hb dL_law_1314 rfl (lv_at hl 3 rfl) ?_
  refine lv_iconst (v := 3) hx hb dL_law_1315 (by decide) ?_
  refine lv_iadd hx hb dL_law_1316 ?_
  refine va_sld hx hb hX hbl hbA hS hi_3 dL_law_1317 ?_
  refine W.eq (g2 := F0 m 1318 ls [.int y3, .int y2, .int y1, .ref (b 0)]) (by rw [ey_3]) ?_
  refine lv_aload_n hx hb dL_law_1318 rfl (lv_at hl 0 rfl) ?_
  refine lv_iload_n hx hb dL_law_1319 rfl (lv_at hl 3 rfl) ?_
  refine lv_iconst (v := 4) hx hb dL_law_1320 (by decide) ?_
  refine lv_iadd hx hb dL_law_1321 ?_
  refine va_sld hx hb hX hbl hbA hS hi_4 dL_law_1322 ?_
  refine W.eq (g2 := F0 m 1323 ls [.int y4, .int y3, .int y2, .int y1, .ref (b 0)]) (by rw [ey_4]) ?_
  refine lv_aload_n hx hb dL_law_1323 rfl (lv_at hl 0 rfl) ?_
  refine lv_iload_n hx hb dL_law_1324 rfl (lv_at hl 3 rfl) ?_
  refine lv_iconst (v := 5) hx hb dL_law_1325 (by decide) ?_
  refine lv_iadd hx hb dL_law_1326 ?_
  refine va_sld hx hb hX hbl hbA hS hi_5 dL_law_1327 ?_
  refine W.eq (g2 := F0 m 1328 ls [.int y5, .int y4, .int y3, .int y2, .int y1, .ref (b 0)]) (by rw [ey_5]) ?_
  refine mm_callB (q0 := 99) (ci := 9) (rest := []) C0 lk_L_169 (ctX9_shift (a := b) (d := 3) (Nat.le_refl _) h9) (by decide) rfl hl.1 rfl (mm_cat rfl) dL_law_1328 hc1 hc2 hP hD hA hS rfl rfl (fun H locs hP hD hS => ?_)
  refine W.eq (g2 := F0 m 1331 ls [.int r9]) rfl ?_
  refine lv_pop hx hb dL_law_1331 rfl ?_
  refine lv_goto (tgt := 1391) hx hb dL_law_1332 (by decide) ?_
  exact kk H locs hP hD hS

set_option maxHeartbeats 8000000 in
set_option maxRecDepth 100000 in
theorem lc_37 {p : Program} {l : Launch} {e : Env} {s : State} {m : MethodId} {below : List Frame} {meth : Method} {c : Code} {D : va_G} {cI cL cS cH : ClassId} {bb L N : Nat} {xs : Nat → Int32} {x3 : Int32} {a b : Nat → Nat} {v_hasImage : Bool} {v_now_rows : Int32} {v_now_cols : Int32} {v_now_high : Int32} {v_now_wide : Int32} {v_now_folds : Int32} {v_now_wrong : Int32} {v_now_more : Int32} {v_now_rowOf : List Int32} {v_now_colOf : List Int32} {v_now_below : List Int32} {v_now_face : List Int32} {v_now_worn : List Int32} {v_now_last : List Int32} {v_now_bend : List Int32} {v_now_tall : List Int32} {v_kept_rows : Int32} {v_kept_cols : Int32} {v_kept_high : Int32} {v_kept_wide : Int32} {v_kept_folds : Int32} {v_kept_wrong : Int32} {v_kept_more : Int32} {v_kept_rowOf : List Int32} {v_kept_colOf : List Int32} {v_kept_below : List Int32} {v_kept_face : List Int32} {v_kept_worn : List Int32} {v_kept_last : List Int32} {v_kept_bend : List Int32} {v_kept_tall : List Int32} {v_wearing_size : Int32} {v_wearing_stepCount : Int32} {v_wearing_draftCount : Int32} {v_wearing_place : Int32} {v_wearing_fault : Int32} {v_wearing_stacked : Int32} {v_wearing_tape : List Int32} {v_wearing_steps : List Int32} {v_wearing_draft : List Int32} {v_wearing_stack : List Int32} {v_planned_size : Int32} {v_planned_trial_rows : Int32} {v_planned_trial_cols : Int32} {v_planned_trial_high : Int32} {v_planned_trial_wide : Int32} {v_planned_trial_folds : Int32} {v_planned_trial_wrong : Int32} {v_planned_trial_more : Int32} {v_planned_trial_rowOf : List Int32} {v_planned_trial_colOf : List Int32} {v_planned_trial_below : List Int32} {v_planned_trial_face : List Int32} {v_planned_trial_worn : List Int32} {v_planned_trial_last : List Int32} {v_planned_trial_bend : List Int32} {v_planned_trial_tall : List Int32} {v_planned_lines : List Int32} {v_planned_ways : List Int32} {v_search_found : Bool} {v_search_wrong : Int32} {v_search_more : Int32} {v_search_folds : Int32} {v_search_wanted : Int32} {v_search_levels0_rows : Int32} {v_search_levels0_cols : Int32} {v_search_levels0_high : Int32} {v_search_levels0_wide : Int32} {v_search_levels0_folds : Int32} {v_search_levels0_wrong : Int32} {v_search_levels0_more : Int32} {v_search_levels0_rowOf : List Int32} {v_search_levels0_colOf : List Int32} {v_search_levels0_below : List Int32} {v_search_levels0_face : List Int32} {v_search_levels0_worn : List Int32} {v_search_levels0_last : List Int32} {v_search_levels0_bend : List Int32} {v_search_levels0_tall : List Int32} {v_search_levels1_rows : Int32} {v_search_levels1_cols : Int32} {v_search_levels1_high : Int32} {v_search_levels1_wide : Int32} {v_search_levels1_folds : Int32} {v_search_levels1_wrong : Int32} {v_search_levels1_more : Int32} {v_search_levels1_rowOf : List Int32} {v_search_levels1_colOf : List Int32} {v_search_levels1_below : List Int32} {v_search_levels1_face : List Int32} {v_search_levels1_worn : List Int32} {v_search_levels1_last : List Int32} {v_search_levels1_bend : List Int32} {v_search_levels1_tall : List Int32} {v_search_levels2_rows : Int32} {v_search_levels2_cols : Int32} {v_search_levels2_high : Int32} {v_search_levels2_wide : Int32} {v_search_levels2_folds : Int32} {v_search_levels2_wrong : Int32} {v_search_levels2_more : Int32} {v_search_levels2_rowOf : List Int32} {v_search_levels2_colOf : List Int32} {v_search_levels2_below : List Int32} {v_search_levels2_face : List Int32} {v_search_levels2_worn : List Int32} {v_search_levels2_last : List Int32} {v_search_levels2_bend : List Int32} {v_search_levels2_tall : List Int32} {v_search_levels3_rows : Int32} {v_search_levels3_cols : Int32} {v_search_levels3_high : Int32} {v_search_levels3_wide : Int32} {v_search_levels3_folds : Int32} {v_search_levels3_wrong : Int32} {v_search_levels3_more : Int32} {v_search_levels3_rowOf : List Int32} {v_search_levels3_colOf : List Int32} {v_search_levels3_below : List Int32} {v_search_levels3_face : List Int32} {v_search_levels3_worn : List Int32} {v_search_levels3_last : List Int32} {v_search_levels3_bend : List Int32} {v_search_levels3_tall : List Int32} {v_search_path : List Int32} {v_search_best : List Int32} {v_strip_list : List Int32} {v_strip_found : List Int32} {v_strip_at : List Int32} {v_changes_value : Int32} {v_changes_done : Int32} {v_changes_size : Int32} {v_changes_before : List Int32} {v_changes_after : List Int32} {v_foldings_size : Int32} {v_foldings_ran : Int32} {v_foldings_number : Int32} {v_foldings_kinds : List Int32} {v_foldings_trace : List Int32} {v_shelves0_holds : Int32} {v_shelves0_body : Int32} {v_shelves0_sort : Int32} {v_shelves0_size : Int32} {v_shelves0_items : List Int64} {v_shelves1_holds : Int32} {v_shelves1_body : Int32} {v_shelves1_sort : Int32} {v_shelves1_size : Int32} {v_shelves1_items : List Int64} {v_shelves2_holds : Int32} {v_shelves2_body : Int32} {v_shelves2_sort : Int32} {v_shelves2_size : Int32} {v_shelves2_items : List Int64} {v_shelves3_holds : Int32} {v_shelves3_body : Int32} {v_shelves3_sort : Int32} {v_shelves3_size : Int32} {v_shelves3_items : List Int64} {v_shelves4_holds : Int32} {v_shelves4_body : Int32} {v_shelves4_sort : Int32} {v_shelves4_size : Int32} {v_shelves4_items : List Int64} {v_shelves5_holds : Int32} {v_shelves5_body : Int32} {v_shelves5_sort : Int32} {v_shelves5_size : Int32} {v_shelves5_items : List Int64} {m_keptMany : Int32} {m_done : Int32} {m_rowsOf : Int32} {m_columnsOf : Int32} {m_folded : Int32} {m_wronged : Int32} {m_tapeMany : Int32} {m_textMany : Int32} {m_base : Int32} {m_at : Int32} {m_ends : Int32} {m_fault : Int32} {m_opened : Int32} {m_bentMany : Int32} {m_bentWrong : Int32} {m_moreWorn : Int32} {m_planned : Int32} {m_allWrong : Int32} {m_allWorn : Int32} {m_z : Int32} {m_wishedField : Int32} {m_isFound : Bool} {m_bestWrong : Int32} {m_bestWorn : Int32} {m_bestMany : Int32} {m_soughtBy : Int32} {m_sought : Int32} {m_soughtAt : Int32} {m_foundMany : Int32} {m_foundOrder : Int32} {m_isKept : Bool} {m_imageRows : Int32} {m_imageColumns : Int32} {m_imageFolded : Int32} {m_imageWronged : Int32} {m_bodies : Int32} {m_ran : Int32} {m_ownKind : Int32} {m_ownNumber : Int32} {m_limit : List Int32} {m_changeWas : List Int32} {m_changeIs : List Int32} {m_shapeRows : List Int32} {m_shapeColumns : List Int32} {m_row : List Int32} {m_column : List Int32} {m_below : List Int32} {m_face : List Int32} {m_worn : List Int32} {m_lastBend : List Int32} {m_tape : List Int32} {m_text : List Int32} {m_names : List Int32} {m_bends : List Int32} {m_high : List Int32} {m_to : List Int32} {m_pileSize : List Int32} {m_planLine : List Int32} {m_planWay : List Int32} {m_way1 : List Int32} {m_bestWay : List Int32} {m_order1 : List Int32} {m_placeIn : List Int32} {m_bodyKind : List Int32} {m_trace : List Int32} {m_shelf : List Int32} {m_many : List Int32} {m_items : List Int64} {m_carried : List Int64}  {r8 : Int32} {r9 : Int32} (C0 : mm_Cx p s m #[Value.ref bb] meth c RL code 4 ret D (mm_T cI cL cS cH) (fun q => s.heap.size ≤ q)) (hX : va_X bb L xs s s.heap) (hbl : bb < s.heap.size) {y1 : Int32} (hi_1 : vp_in (x3 + (1 : Int32)) L) (ey_1 : xs (x3 + (1 : Int32)).toNatClampNeg = y1) {y2 : Int32} (hi_2 : vp_in (x3 + (2 : Int32)) L) (ey_2 : xs (x3 + (2 : Int32)).toNatClampNeg = y2) (h8 : fX8_taken N y1 y2 v_foldings_size v_foldings_kinds v_shelves0_holds v_shelves0_body v_shelves1_holds v_shelves1_body v_shelves2_holds v_shelves2_body v_shelves3_holds v_shelves3_body v_shelves4_holds v_shelves4_body v_shelves5_holds v_shelves5_body = some r8) (h9 : fX9_taken N y1 y2 m_bodyKind m_shelf = some r9) {cells slots : Nat} {Q : State → Prop} (hc1 : cells ≤ room_1.cells) (hc2 : slots ≤ room_1.slots) {H : Heap} {locs : List Loc} {ls : Array Slot}
    (hP : va_P D mm_cl (wd_X8 cI cL cS cH a v_hasImage v_now_rows v_now_cols v_now_high v_now_wide v_now_folds v_now_wrong v_now_more v_now_rowOf v_now_colOf v_now_below v_now_face v_now_worn v_now_last v_now_bend v_now_tall v_kept_rows v_kept_cols v_kept_high v_kept_wide v_kept_folds v_kept_wrong v_kept_more v_kept_rowOf v_kept_colOf v_kept_below v_kept_face v_kept_worn v_kept_last v_kept_bend v_kept_tall v_wearing_size v_wearing_stepCount v_wearing_draftCount v_wearing_place v_wearing_fault v_wearing_stacked v_wearing_tape v_wearing_steps v_wearing_draft v_wearing_stack v_planned_size v_planned_trial_rows v_planned_trial_cols v_planned_trial_high v_planned_trial_wide v_planned_trial_folds v_planned_trial_wrong v_planned_trial_more v_planned_trial_rowOf v_planned_trial_colOf v_planned_trial_below v_planned_trial_face v_planned_trial_worn v_planned_trial_last v_planned_trial_bend v_planned_trial_tall v_planned_lines v_planned_ways v_search_found v_search_wrong v_search_more v_search_folds v_search_wanted v_search_levels0_rows v_search_levels0_cols v_search_levels0_high v_search_levels0_wide v_search_levels0_folds v_search_levels0_wrong v_search_levels0_more v_search_levels0_rowOf v_search_levels0_colOf v_search_levels0_below v_search_levels0_face v_search_levels0_worn v_search_levels0_last v_search_levels0_bend v_search_levels0_tall v_search_levels1_rows v_search_levels1_cols v_search_levels1_high v_search_levels1_wide v_search_levels1_folds v_search_levels1_wrong v_search_levels1_more v_search_levels1_rowOf v_search_levels1_colOf v_search_levels1_below v_search_levels1_face v_search_levels1_worn v_search_levels1_last v_search_levels1_bend v_search_levels1_tall v_search_levels2_rows v_search_levels2_cols v_search_levels2_high v_search_levels2_wide v_search_levels2_folds v_search_levels2_wrong v_search_levels2_more v_search_levels2_rowOf v_search_levels2_colOf v_search_levels2_below v_search_levels2_face v_search_levels2_worn v_search_levels2_last v_search_levels2_bend v_search_levels2_tall v_search_levels3_rows v_search_levels3_cols v_search_levels3_high v_search_levels3_wide v_search_levels3_folds v_search_levels3_wrong v_search_levels3_more v_search_levels3_rowOf v_search_levels3_colOf v_search_levels3_below v_search_levels3_face v_search_levels3_worn v_search_levels3_last v_search_levels3_bend v_search_levels3_tall v_search_path v_search_best v_strip_list v_strip_found v_strip_at v_changes_value v_changes_done v_changes_size v_changes_before v_changes_after v_foldings_size v_foldings_ran v_foldings_number v_foldings_kinds v_foldings_trace v_shelves0_holds v_shelves0_body v_shelves0_sort v_shelves0_size v_shelves0_items v_shelves1_holds v_shelves1_body v_shelves1_sort v_shelves1_size v_shelves1_items v_shelves2_holds v_shelves2_body v_shelves2_sort v_shelves2_size v_shelves2_items v_shelves3_holds v_shelves3_body v_shelves3_sort v_shelves3_size v_shelves3_items v_shelves4_holds v_shelves4_body v_shelves4_sort v_shelves4_size v_shelves4_items v_shelves5_holds v_shelves5_body v_shelves5_sort v_shelves5_size v_shelves5_items ++ wd_X9 cI cL cS cH b m_keptMany m_done m_rowsOf m_columnsOf m_folded m_wronged m_tapeMany m_textMany m_base m_at m_ends m_fault m_opened m_bentMany m_bentWrong m_moreWorn m_planned m_allWrong m_allWorn m_z m_wishedField m_isFound m_bestWrong m_bestWorn m_bestMany m_soughtBy m_sought m_soughtAt m_foundMany m_foundOrder m_isKept m_imageRows m_imageColumns m_imageFolded m_imageWronged m_bodies m_ran m_ownKind m_ownNumber m_limit m_changeWas m_changeIs m_shapeRows m_shapeColumns m_row m_column m_below m_face m_worn m_lastBend m_tape m_text m_names m_bends m_high m_to m_pileSize m_planLine m_planWay m_way1 m_bestWay m_order1 m_placeIn m_bodyKind m_trace m_shelf m_many m_items m_carried) H) (hD : va_D (fun q => s.heap.size ≤ q) (wd_X8 cI cL cS cH a v_hasImage v_now_rows v_now_cols v_now_high v_now_wide v_now_folds v_now_wrong v_now_more v_now_rowOf v_now_colOf v_now_below v_now_face v_now_worn v_now_last v_now_bend v_now_tall v_kept_rows v_kept_cols v_kept_high v_kept_wide v_kept_folds v_kept_wrong v_kept_more v_kept_rowOf v_kept_colOf v_kept_below v_kept_face v_kept_worn v_kept_last v_kept_bend v_kept_tall v_wearing_size v_wearing_stepCount v_wearing_draftCount v_wearing_place v_wearing_fault v_wearing_stacked v_wearing_tape v_wearing_steps v_wearing_draft v_wearing_stack v_planned_size v_planned_trial_rows v_planned_trial_cols v_planned_trial_high v_planned_trial_wide v_planned_trial_folds v_planned_trial_wrong v_planned_trial_more v_planned_trial_rowOf v_planned_trial_colOf v_planned_trial_below v_planned_trial_face v_planned_trial_worn v_planned_trial_last v_planned_trial_bend v_planned_trial_tall v_planned_lines v_planned_ways v_search_found v_search_wrong v_search_more v_search_folds v_search_wanted v_search_levels0_rows v_search_levels0_cols v_search_levels0_high v_search_levels0_wide v_search_levels0_folds v_search_levels0_wrong v_search_levels0_more v_search_levels0_rowOf v_search_levels0_colOf v_search_levels0_below v_search_levels0_face v_search_levels0_worn v_search_levels0_last v_search_levels0_bend v_search_levels0_tall v_search_levels1_rows v_search_levels1_cols v_search_levels1_high v_search_levels1_wide v_search_levels1_folds v_search_levels1_wrong v_search_levels1_more v_search_levels1_rowOf v_search_levels1_colOf v_search_levels1_below v_search_levels1_face v_search_levels1_worn v_search_levels1_last v_search_levels1_bend v_search_levels1_tall v_search_levels2_rows v_search_levels2_cols v_search_levels2_high v_search_levels2_wide v_search_levels2_folds v_search_levels2_wrong v_search_levels2_more v_search_levels2_rowOf v_search_levels2_colOf v_search_levels2_below v_search_levels2_face v_search_levels2_worn v_search_levels2_last v_search_levels2_bend v_search_levels2_tall v_search_levels3_rows v_search_levels3_cols v_search_levels3_high v_search_levels3_wide v_search_levels3_folds v_search_levels3_wrong v_search_levels3_more v_search_levels3_rowOf v_search_levels3_colOf v_search_levels3_below v_search_levels3_face v_search_levels3_worn v_search_levels3_last v_search_levels3_bend v_search_levels3_tall v_search_path v_search_best v_strip_list v_strip_found v_strip_at v_changes_value v_changes_done v_changes_size v_changes_before v_changes_after v_foldings_size v_foldings_ran v_foldings_number v_foldings_kinds v_foldings_trace v_shelves0_holds v_shelves0_body v_shelves0_sort v_shelves0_size v_shelves0_items v_shelves1_holds v_shelves1_body v_shelves1_sort v_shelves1_size v_shelves1_items v_shelves2_holds v_shelves2_body v_shelves2_sort v_shelves2_size v_shelves2_items v_shelves3_holds v_shelves3_body v_shelves3_sort v_shelves3_size v_shelves3_items v_shelves4_holds v_shelves4_body v_shelves4_sort v_shelves4_size v_shelves4_items v_shelves5_holds v_shelves5_body v_shelves5_sort v_shelves5_size v_shelves5_items ++ wd_X9 cI cL cS cH b m_keptMany m_done m_rowsOf m_columnsOf m_folded m_wronged m_tapeMany m_textMany m_base m_at m_ends m_fault m_opened m_bentMany m_bentWrong m_moreWorn m_planned m_allWrong m_allWorn m_z m_wishedField m_isFound m_bestWrong m_bestWorn m_bestMany m_soughtBy m_sought m_soughtAt m_foundMany m_foundOrder m_isKept m_imageRows m_imageColumns m_imageFolded m_imageWronged m_bodies m_ran m_ownKind m_ownNumber m_limit m_changeWas m_changeIs m_shapeRows m_shapeColumns m_row m_column m_below m_face m_worn m_lastBend m_tape m_text m_names m_bends m_high m_to m_pileSize m_planLine m_planWay m_way1 m_bestWay m_order1 m_placeIn m_bodyKind m_trace m_shelf m_many m_items m_carried)) (hS : va_S (fun q => s.heap.size ≤ q) s.heap H locs) (hl : lv_has ls 4 [(0, .ref bb), (1, .ref (a 0)), (2, .ref (b 0)), (3, .int x3)])
    (kk : ∀ (H : Heap) (locs : List Loc), va_P D mm_cl (wd_X8 cI cL cS cH a v_hasImage v_now_rows v_now_cols v_now_high v_now_wide v_now_folds v_now_wrong v_now_more v_now_rowOf v_now_colOf v_now_below v_now_face v_now_worn v_now_last v_now_bend v_now_tall v_kept_rows v_kept_cols v_kept_high v_kept_wide v_kept_folds v_kept_wrong v_kept_more v_kept_rowOf v_kept_colOf v_kept_below v_kept_face v_kept_worn v_kept_last v_kept_bend v_kept_tall v_wearing_size v_wearing_stepCount v_wearing_draftCount v_wearing_place v_wearing_fault v_wearing_stacked v_wearing_tape v_wearing_steps v_wearing_draft v_wearing_stack v_planned_size v_planned_trial_rows v_planned_trial_cols v_planned_trial_high v_planned_trial_wide v_planned_trial_folds v_planned_trial_wrong v_planned_trial_more v_planned_trial_rowOf v_planned_trial_colOf v_planned_trial_below v_planned_trial_face v_planned_trial_worn v_planned_trial_last v_planned_trial_bend v_planned_trial_tall v_planned_lines v_planned_ways v_search_found v_search_wrong v_search_more v_search_folds v_search_wanted v_search_levels0_rows v_search_levels0_cols v_search_levels0_high v_search_levels0_wide v_search_levels0_folds v_search_levels0_wrong v_search_levels0_more v_search_levels0_rowOf v_search_levels0_colOf v_search_levels0_below v_search_levels0_face v_search_levels0_worn v_search_levels0_last v_search_levels0_bend v_search_levels0_tall v_search_levels1_rows v_search_levels1_cols v_search_levels1_high v_search_levels1_wide v_search_levels1_folds v_search_levels1_wrong v_search_levels1_more v_search_levels1_rowOf v_search_levels1_colOf v_search_levels1_below v_search_levels1_face v_search_levels1_worn v_search_levels1_last v_search_levels1_bend v_search_levels1_tall v_search_levels2_rows v_search_levels2_cols v_search_levels2_high v_search_levels2_wide v_search_levels2_folds v_search_levels2_wrong v_search_levels2_more v_search_levels2_rowOf v_search_levels2_colOf v_search_levels2_below v_search_levels2_face v_search_levels2_worn v_search_levels2_last v_search_levels2_bend v_search_levels2_tall v_search_levels3_rows v_search_levels3_cols v_search_levels3_high v_search_levels3_wide v_search_levels3_folds v_search_levels3_wrong v_search_levels3_more v_search_levels3_rowOf v_search_levels3_colOf v_search_levels3_below v_search_levels3_face v_search_levels3_worn v_search_levels3_last v_search_levels3_bend v_search_levels3_tall v_search_path v_search_best v_strip_list v_strip_found v_strip_at v_changes_value v_changes_done v_changes_size v_changes_before v_changes_after v_foldings_size v_foldings_ran v_foldings_number v_foldings_kinds v_foldings_trace v_shelves0_holds v_shelves0_body v_shelves0_sort v_shelves0_size v_shelves0_items v_shelves1_holds v_shelves1_body v_shelves1_sort v_shelves1_size v_shelves1_items v_shelves2_holds v_shelves2_body v_shelves2_sort v_shelves2_size v_shelves2_items v_shelves3_holds v_shelves3_body v_shelves3_sort v_shelves3_size v_shelves3_items v_shelves4_holds v_shelves4_body v_shelves4_sort v_shelves4_size v_shelves4_items v_shelves5_holds v_shelves5_body v_shelves5_sort v_shelves5_size v_shelves5_items ++ wd_X9 cI cL cS cH b m_keptMany m_done m_rowsOf m_columnsOf m_folded m_wronged m_tapeMany m_textMany m_base m_at m_ends m_fault m_opened m_bentMany m_bentWrong m_moreWorn m_planned m_allWrong m_allWorn m_z m_wishedField m_isFound m_bestWrong m_bestWorn m_bestMany m_soughtBy m_sought m_soughtAt m_foundMany m_foundOrder m_isKept m_imageRows m_imageColumns m_imageFolded m_imageWronged m_bodies m_ran m_ownKind m_ownNumber m_limit m_changeWas m_changeIs m_shapeRows m_shapeColumns m_row m_column m_below m_face m_worn m_lastBend m_tape m_text m_names m_bends m_high m_to m_pileSize m_planLine m_planWay m_way1 m_bestWay m_order1 m_placeIn m_bodyKind m_trace m_shelf m_many m_items m_carried) H → va_D (fun q => s.heap.size ≤ q) (wd_X8 cI cL cS cH a v_hasImage v_now_rows v_now_cols v_now_high v_now_wide v_now_folds v_now_wrong v_now_more v_now_rowOf v_now_colOf v_now_below v_now_face v_now_worn v_now_last v_now_bend v_now_tall v_kept_rows v_kept_cols v_kept_high v_kept_wide v_kept_folds v_kept_wrong v_kept_more v_kept_rowOf v_kept_colOf v_kept_below v_kept_face v_kept_worn v_kept_last v_kept_bend v_kept_tall v_wearing_size v_wearing_stepCount v_wearing_draftCount v_wearing_place v_wearing_fault v_wearing_stacked v_wearing_tape v_wearing_steps v_wearing_draft v_wearing_stack v_planned_size v_planned_trial_rows v_planned_trial_cols v_planned_trial_high v_planned_trial_wide v_planned_trial_folds v_planned_trial_wrong v_planned_trial_more v_planned_trial_rowOf v_planned_trial_colOf v_planned_trial_below v_planned_trial_face v_planned_trial_worn v_planned_trial_last v_planned_trial_bend v_planned_trial_tall v_planned_lines v_planned_ways v_search_found v_search_wrong v_search_more v_search_folds v_search_wanted v_search_levels0_rows v_search_levels0_cols v_search_levels0_high v_search_levels0_wide v_search_levels0_folds v_search_levels0_wrong v_search_levels0_more v_search_levels0_rowOf v_search_levels0_colOf v_search_levels0_below v_search_levels0_face v_search_levels0_worn v_search_levels0_last v_search_levels0_bend v_search_levels0_tall v_search_levels1_rows v_search_levels1_cols v_search_levels1_high v_search_levels1_wide v_search_levels1_folds v_search_levels1_wrong v_search_levels1_more v_search_levels1_rowOf v_search_levels1_colOf v_search_levels1_below v_search_levels1_face v_search_levels1_worn v_search_levels1_last v_search_levels1_bend v_search_levels1_tall v_search_levels2_rows v_search_levels2_cols v_search_levels2_high v_search_levels2_wide v_search_levels2_folds v_search_levels2_wrong v_search_levels2_more v_search_levels2_rowOf v_search_levels2_colOf v_search_levels2_below v_search_levels2_face v_search_levels2_worn v_search_levels2_last v_search_levels2_bend v_search_levels2_tall v_search_levels3_rows v_search_levels3_cols v_search_levels3_high v_search_levels3_wide v_search_levels3_folds v_search_levels3_wrong v_search_levels3_more v_search_levels3_rowOf v_search_levels3_colOf v_search_levels3_below v_search_levels3_face v_search_levels3_worn v_search_levels3_last v_search_levels3_bend v_search_levels3_tall v_search_path v_search_best v_strip_list v_strip_found v_strip_at v_changes_value v_changes_done v_changes_size v_changes_before v_changes_after v_foldings_size v_foldings_ran v_foldings_number v_foldings_kinds v_foldings_trace v_shelves0_holds v_shelves0_body v_shelves0_sort v_shelves0_size v_shelves0_items v_shelves1_holds v_shelves1_body v_shelves1_sort v_shelves1_size v_shelves1_items v_shelves2_holds v_shelves2_body v_shelves2_sort v_shelves2_size v_shelves2_items v_shelves3_holds v_shelves3_body v_shelves3_sort v_shelves3_size v_shelves3_items v_shelves4_holds v_shelves4_body v_shelves4_sort v_shelves4_size v_shelves4_items v_shelves5_holds v_shelves5_body v_shelves5_sort v_shelves5_size v_shelves5_items ++ wd_X9 cI cL cS cH b m_keptMany m_done m_rowsOf m_columnsOf m_folded m_wronged m_tapeMany m_textMany m_base m_at m_ends m_fault m_opened m_bentMany m_bentWrong m_moreWorn m_planned m_allWrong m_allWorn m_z m_wishedField m_isFound m_bestWrong m_bestWorn m_bestMany m_soughtBy m_sought m_soughtAt m_foundMany m_foundOrder m_isKept m_imageRows m_imageColumns m_imageFolded m_imageWronged m_bodies m_ran m_ownKind m_ownNumber m_limit m_changeWas m_changeIs m_shapeRows m_shapeColumns m_row m_column m_below m_face m_worn m_lastBend m_tape m_text m_names m_bends m_high m_to m_pileSize m_planLine m_planWay m_way1 m_bestWay m_order1 m_placeIn m_bodyKind m_trace m_shelf m_many m_items m_carried) → va_S (fun q => s.heap.size ≤ q) s.heap H locs → W p l e room_1 s m #[Value.ref bb] below meth c H locs cells slots Q (F0 m 1391 ls [])) : W p l e room_1 s m #[Value.ref bb] below meth c H locs cells slots Q (F0 m 1335 ls []) := by
  obtain ⟨hx, hb, hml, hown, hts, hr, hlocks, hK, hSt⟩ := id C0
  have hA : ∀ q : Nat, s.heap.size ≤ q → (fun q : Nat => s.heap.size ≤ q) q := fun _ h => h
  have hbA : ¬ (fun q : Nat => s.heap.size ≤ q) bb := Nat.not_le.mpr hbl
  refine lv_aload_n hx hb dL_law_1335 rfl (lv_at hl 1 rfl) ?_
  refine lv_aload_n hx hb dL_law_1336 rfl (lv_at hl 0 rfl) ?_
  refine lv_iload_n hx hb dL_law_1337 rfl (lv_at hl 3 rfl) ?_
  refine lv_iconst (v := 1) hx hb dL_law_1338 (by decide) ?_
  refine lv_iadd hx hb dL_law_1339 ?_
  refine va_sld hx hb hX hbl hbA hS hi_1 dL_law_1340 ?_
  refine W.eq (g2 := F0 m 1341 ls [.int y1, .ref (a 0)]) (by rw [ey_1]) ?_
  refine lv_aload_n hx hb dL_law_1341 rfl (lv_at hl 0 rfl) ?_
  refine lv_iload_n hx hb dL_law_1342 rfl (lv_at hl 3 rfl) ?_
  refine lv_iconst (v := 2) hx hb dL_law_1343 (by decide) ?_
  refine lv_iadd hx hb dL_law_1344 ?_
  refine va_sld hx hb hX hbl hbA hS hi_2 dL_law_1345 ?_
  refine W.eq (g2 := F0 m 1346 ls [.int y2, .int y1, .ref (a 0)]) (by rw [ey_2]) ?_
  refine mm_callA (ci := 8) (rest := []) C0 lk_L_170 (ctX8_taken (a := a) (d := 3) (Nat.le_refl _) h8) (by decide) rfl hl.1 rfl (mm_cat rfl) dL_law_1346 hc1 hc2 hP hD hA hS rfl rfl (fun H locs hP hD hS => ?_)
  refine W.eq (g2 := F0 m 1349 ls [.int r8]) rfl ?_
  refine lv_pop hx hb dL_law_1349 rfl ?_
  refine lv_aload_n hx hb dL_law_1350 rfl (lv_at hl 2 rfl) ?_
  refine lv_aload_n hx hb dL_law_1351 rfl (lv_at hl 0 rfl) ?_
  refine lv_iload_n hx hb dL_law_1352 rfl (lv_at hl 3 rfl) ?_
  refine lv_iconst (v := 1) hx hb dL_law_1353 (by decide) ?_
  refine lv_iadd hx hb dL_law_1354 ?_
  refine va_sld hx hb hX hbl hbA hS hi_1 dL_law_1355 ?_
  refine W.eq (g2 := F0 m 1356 ls [.int y1, .ref (b 0)]) (by rw [ey_1]) ?_
  refine lv_aload_n hx hb dL_law_1356 rfl (lv_at hl 0 rfl) ?_
  refine lv_iload_n hx hb dL_law_1357 rfl (lv_at hl 3 rfl) ?_
  refine lv_iconst (v := 2) hx hb dL_law_1358 (by decide) ?_
  refine lv_iadd hx hb dL_law_1359 ?_
  refine va_sld hx hb hX hbl hbA hS hi_2 dL_law_1360 ?_
  refine W.eq (g2 := F0 m 1361 ls [.int y2, .int y1, .ref (b 0)]) (by rw [ey_2]) ?_
  refine mm_callB (q0 := 99) (ci := 9) (rest := []) C0 lk_L_173 (ctX9_taken (a := b) (d := 3) (Nat.le_refl _) h9) (by decide) rfl hl.1 rfl (mm_cat rfl) dL_law_1361 hc1 hc2 hP hD hA hS rfl rfl (fun H locs hP hD hS => ?_)
  refine W.eq (g2 := F0 m 1364 ls [.int r9]) rfl ?_
  refine lv_pop hx hb dL_law_1364 rfl ?_
  refine lv_goto (tgt := 1391) hx hb dL_law_1365 (by decide) ?_
  exact kk H locs hP hD hS

set_option maxHeartbeats 8000000 in
set_option maxRecDepth 100000 in
theorem lc_38 {p : Program} {l : Launch} {e : Env} {s : State} {m : MethodId} {below : List Frame} {meth : Method} {c : Code} {D : va_G} {cI cL cS cH : ClassId} {bb L N : Nat} {xs : Nat → Int32} {x3 : Int32} {a b : Nat → Nat} {v_hasImage : Bool} {v_now_rows : Int32} {v_now_cols : Int32} {v_now_high : Int32} {v_now_wide : Int32} {v_now_folds : Int32} {v_now_wrong : Int32} {v_now_more : Int32} {v_now_rowOf : List Int32} {v_now_colOf : List Int32} {v_now_below : List Int32} {v_now_face : List Int32} {v_now_worn : List Int32} {v_now_last : List Int32} {v_now_bend : List Int32} {v_now_tall : List Int32} {v_kept_rows : Int32} {v_kept_cols : Int32} {v_kept_high : Int32} {v_kept_wide : Int32} {v_kept_folds : Int32} {v_kept_wrong : Int32} {v_kept_more : Int32} {v_kept_rowOf : List Int32} {v_kept_colOf : List Int32} {v_kept_below : List Int32} {v_kept_face : List Int32} {v_kept_worn : List Int32} {v_kept_last : List Int32} {v_kept_bend : List Int32} {v_kept_tall : List Int32} {v_wearing_size : Int32} {v_wearing_stepCount : Int32} {v_wearing_draftCount : Int32} {v_wearing_place : Int32} {v_wearing_fault : Int32} {v_wearing_stacked : Int32} {v_wearing_tape : List Int32} {v_wearing_steps : List Int32} {v_wearing_draft : List Int32} {v_wearing_stack : List Int32} {v_planned_size : Int32} {v_planned_trial_rows : Int32} {v_planned_trial_cols : Int32} {v_planned_trial_high : Int32} {v_planned_trial_wide : Int32} {v_planned_trial_folds : Int32} {v_planned_trial_wrong : Int32} {v_planned_trial_more : Int32} {v_planned_trial_rowOf : List Int32} {v_planned_trial_colOf : List Int32} {v_planned_trial_below : List Int32} {v_planned_trial_face : List Int32} {v_planned_trial_worn : List Int32} {v_planned_trial_last : List Int32} {v_planned_trial_bend : List Int32} {v_planned_trial_tall : List Int32} {v_planned_lines : List Int32} {v_planned_ways : List Int32} {v_search_found : Bool} {v_search_wrong : Int32} {v_search_more : Int32} {v_search_folds : Int32} {v_search_wanted : Int32} {v_search_levels0_rows : Int32} {v_search_levels0_cols : Int32} {v_search_levels0_high : Int32} {v_search_levels0_wide : Int32} {v_search_levels0_folds : Int32} {v_search_levels0_wrong : Int32} {v_search_levels0_more : Int32} {v_search_levels0_rowOf : List Int32} {v_search_levels0_colOf : List Int32} {v_search_levels0_below : List Int32} {v_search_levels0_face : List Int32} {v_search_levels0_worn : List Int32} {v_search_levels0_last : List Int32} {v_search_levels0_bend : List Int32} {v_search_levels0_tall : List Int32} {v_search_levels1_rows : Int32} {v_search_levels1_cols : Int32} {v_search_levels1_high : Int32} {v_search_levels1_wide : Int32} {v_search_levels1_folds : Int32} {v_search_levels1_wrong : Int32} {v_search_levels1_more : Int32} {v_search_levels1_rowOf : List Int32} {v_search_levels1_colOf : List Int32} {v_search_levels1_below : List Int32} {v_search_levels1_face : List Int32} {v_search_levels1_worn : List Int32} {v_search_levels1_last : List Int32} {v_search_levels1_bend : List Int32} {v_search_levels1_tall : List Int32} {v_search_levels2_rows : Int32} {v_search_levels2_cols : Int32} {v_search_levels2_high : Int32} {v_search_levels2_wide : Int32} {v_search_levels2_folds : Int32} {v_search_levels2_wrong : Int32} {v_search_levels2_more : Int32} {v_search_levels2_rowOf : List Int32} {v_search_levels2_colOf : List Int32} {v_search_levels2_below : List Int32} {v_search_levels2_face : List Int32} {v_search_levels2_worn : List Int32} {v_search_levels2_last : List Int32} {v_search_levels2_bend : List Int32} {v_search_levels2_tall : List Int32} {v_search_levels3_rows : Int32} {v_search_levels3_cols : Int32} {v_search_levels3_high : Int32} {v_search_levels3_wide : Int32} {v_search_levels3_folds : Int32} {v_search_levels3_wrong : Int32} {v_search_levels3_more : Int32} {v_search_levels3_rowOf : List Int32} {v_search_levels3_colOf : List Int32} {v_search_levels3_below : List Int32} {v_search_levels3_face : List Int32} {v_search_levels3_worn : List Int32} {v_search_levels3_last : List Int32} {v_search_levels3_bend : List Int32} {v_search_levels3_tall : List Int32} {v_search_path : List Int32} {v_search_best : List Int32} {v_strip_list : List Int32} {v_strip_found : List Int32} {v_strip_at : List Int32} {v_changes_value : Int32} {v_changes_done : Int32} {v_changes_size : Int32} {v_changes_before : List Int32} {v_changes_after : List Int32} {v_foldings_size : Int32} {v_foldings_ran : Int32} {v_foldings_number : Int32} {v_foldings_kinds : List Int32} {v_foldings_trace : List Int32} {v_shelves0_holds : Int32} {v_shelves0_body : Int32} {v_shelves0_sort : Int32} {v_shelves0_size : Int32} {v_shelves0_items : List Int64} {v_shelves1_holds : Int32} {v_shelves1_body : Int32} {v_shelves1_sort : Int32} {v_shelves1_size : Int32} {v_shelves1_items : List Int64} {v_shelves2_holds : Int32} {v_shelves2_body : Int32} {v_shelves2_sort : Int32} {v_shelves2_size : Int32} {v_shelves2_items : List Int64} {v_shelves3_holds : Int32} {v_shelves3_body : Int32} {v_shelves3_sort : Int32} {v_shelves3_size : Int32} {v_shelves3_items : List Int64} {v_shelves4_holds : Int32} {v_shelves4_body : Int32} {v_shelves4_sort : Int32} {v_shelves4_size : Int32} {v_shelves4_items : List Int64} {v_shelves5_holds : Int32} {v_shelves5_body : Int32} {v_shelves5_sort : Int32} {v_shelves5_size : Int32} {v_shelves5_items : List Int64} {m_keptMany : Int32} {m_done : Int32} {m_rowsOf : Int32} {m_columnsOf : Int32} {m_folded : Int32} {m_wronged : Int32} {m_tapeMany : Int32} {m_textMany : Int32} {m_base : Int32} {m_at : Int32} {m_ends : Int32} {m_fault : Int32} {m_opened : Int32} {m_bentMany : Int32} {m_bentWrong : Int32} {m_moreWorn : Int32} {m_planned : Int32} {m_allWrong : Int32} {m_allWorn : Int32} {m_z : Int32} {m_wishedField : Int32} {m_isFound : Bool} {m_bestWrong : Int32} {m_bestWorn : Int32} {m_bestMany : Int32} {m_soughtBy : Int32} {m_sought : Int32} {m_soughtAt : Int32} {m_foundMany : Int32} {m_foundOrder : Int32} {m_isKept : Bool} {m_imageRows : Int32} {m_imageColumns : Int32} {m_imageFolded : Int32} {m_imageWronged : Int32} {m_bodies : Int32} {m_ran : Int32} {m_ownKind : Int32} {m_ownNumber : Int32} {m_limit : List Int32} {m_changeWas : List Int32} {m_changeIs : List Int32} {m_shapeRows : List Int32} {m_shapeColumns : List Int32} {m_row : List Int32} {m_column : List Int32} {m_below : List Int32} {m_face : List Int32} {m_worn : List Int32} {m_lastBend : List Int32} {m_tape : List Int32} {m_text : List Int32} {m_names : List Int32} {m_bends : List Int32} {m_high : List Int32} {m_to : List Int32} {m_pileSize : List Int32} {m_planLine : List Int32} {m_planWay : List Int32} {m_way1 : List Int32} {m_bestWay : List Int32} {m_order1 : List Int32} {m_placeIn : List Int32} {m_bodyKind : List Int32} {m_trace : List Int32} {m_shelf : List Int32} {m_many : List Int32} {m_items : List Int64} {m_carried : List Int64}  {r8 : Int32} {r9 : Int32} (C0 : mm_Cx p s m #[Value.ref bb] meth c RL code 4 ret D (mm_T cI cL cS cH) (fun q => s.heap.size ≤ q)) (hX : va_X bb L xs s s.heap) (hbl : bb < s.heap.size) {y1 : Int32} (hi_1 : vp_in (x3 + (1 : Int32)) L) (ey_1 : xs (x3 + (1 : Int32)).toNatClampNeg = y1) (h8 : fX8_count N y1 v_now_rows v_now_cols v_wearing_size v_planned_size v_changes_done v_foldings_size v_foldings_ran = some r8) (h9 : fX9_count N y1 m_done m_rowsOf m_columnsOf m_tapeMany m_planned m_bodies m_ran = some r9) {cells slots : Nat} {Q : State → Prop} (hc1 : cells ≤ room_1.cells) (hc2 : slots ≤ room_1.slots) {H : Heap} {locs : List Loc} {ls : Array Slot}
    (hP : va_P D mm_cl (wd_X8 cI cL cS cH a v_hasImage v_now_rows v_now_cols v_now_high v_now_wide v_now_folds v_now_wrong v_now_more v_now_rowOf v_now_colOf v_now_below v_now_face v_now_worn v_now_last v_now_bend v_now_tall v_kept_rows v_kept_cols v_kept_high v_kept_wide v_kept_folds v_kept_wrong v_kept_more v_kept_rowOf v_kept_colOf v_kept_below v_kept_face v_kept_worn v_kept_last v_kept_bend v_kept_tall v_wearing_size v_wearing_stepCount v_wearing_draftCount v_wearing_place v_wearing_fault v_wearing_stacked v_wearing_tape v_wearing_steps v_wearing_draft v_wearing_stack v_planned_size v_planned_trial_rows v_planned_trial_cols v_planned_trial_high v_planned_trial_wide v_planned_trial_folds v_planned_trial_wrong v_planned_trial_more v_planned_trial_rowOf v_planned_trial_colOf v_planned_trial_below v_planned_trial_face v_planned_trial_worn v_planned_trial_last v_planned_trial_bend v_planned_trial_tall v_planned_lines v_planned_ways v_search_found v_search_wrong v_search_more v_search_folds v_search_wanted v_search_levels0_rows v_search_levels0_cols v_search_levels0_high v_search_levels0_wide v_search_levels0_folds v_search_levels0_wrong v_search_levels0_more v_search_levels0_rowOf v_search_levels0_colOf v_search_levels0_below v_search_levels0_face v_search_levels0_worn v_search_levels0_last v_search_levels0_bend v_search_levels0_tall v_search_levels1_rows v_search_levels1_cols v_search_levels1_high v_search_levels1_wide v_search_levels1_folds v_search_levels1_wrong v_search_levels1_more v_search_levels1_rowOf v_search_levels1_colOf v_search_levels1_below v_search_levels1_face v_search_levels1_worn v_search_levels1_last v_search_levels1_bend v_search_levels1_tall v_search_levels2_rows v_search_levels2_cols v_search_levels2_high v_search_levels2_wide v_search_levels2_folds v_search_levels2_wrong v_search_levels2_more v_search_levels2_rowOf v_search_levels2_colOf v_search_levels2_below v_search_levels2_face v_search_levels2_worn v_search_levels2_last v_search_levels2_bend v_search_levels2_tall v_search_levels3_rows v_search_levels3_cols v_search_levels3_high v_search_levels3_wide v_search_levels3_folds v_search_levels3_wrong v_search_levels3_more v_search_levels3_rowOf v_search_levels3_colOf v_search_levels3_below v_search_levels3_face v_search_levels3_worn v_search_levels3_last v_search_levels3_bend v_search_levels3_tall v_search_path v_search_best v_strip_list v_strip_found v_strip_at v_changes_value v_changes_done v_changes_size v_changes_before v_changes_after v_foldings_size v_foldings_ran v_foldings_number v_foldings_kinds v_foldings_trace v_shelves0_holds v_shelves0_body v_shelves0_sort v_shelves0_size v_shelves0_items v_shelves1_holds v_shelves1_body v_shelves1_sort v_shelves1_size v_shelves1_items v_shelves2_holds v_shelves2_body v_shelves2_sort v_shelves2_size v_shelves2_items v_shelves3_holds v_shelves3_body v_shelves3_sort v_shelves3_size v_shelves3_items v_shelves4_holds v_shelves4_body v_shelves4_sort v_shelves4_size v_shelves4_items v_shelves5_holds v_shelves5_body v_shelves5_sort v_shelves5_size v_shelves5_items ++ wd_X9 cI cL cS cH b m_keptMany m_done m_rowsOf m_columnsOf m_folded m_wronged m_tapeMany m_textMany m_base m_at m_ends m_fault m_opened m_bentMany m_bentWrong m_moreWorn m_planned m_allWrong m_allWorn m_z m_wishedField m_isFound m_bestWrong m_bestWorn m_bestMany m_soughtBy m_sought m_soughtAt m_foundMany m_foundOrder m_isKept m_imageRows m_imageColumns m_imageFolded m_imageWronged m_bodies m_ran m_ownKind m_ownNumber m_limit m_changeWas m_changeIs m_shapeRows m_shapeColumns m_row m_column m_below m_face m_worn m_lastBend m_tape m_text m_names m_bends m_high m_to m_pileSize m_planLine m_planWay m_way1 m_bestWay m_order1 m_placeIn m_bodyKind m_trace m_shelf m_many m_items m_carried) H) (hD : va_D (fun q => s.heap.size ≤ q) (wd_X8 cI cL cS cH a v_hasImage v_now_rows v_now_cols v_now_high v_now_wide v_now_folds v_now_wrong v_now_more v_now_rowOf v_now_colOf v_now_below v_now_face v_now_worn v_now_last v_now_bend v_now_tall v_kept_rows v_kept_cols v_kept_high v_kept_wide v_kept_folds v_kept_wrong v_kept_more v_kept_rowOf v_kept_colOf v_kept_below v_kept_face v_kept_worn v_kept_last v_kept_bend v_kept_tall v_wearing_size v_wearing_stepCount v_wearing_draftCount v_wearing_place v_wearing_fault v_wearing_stacked v_wearing_tape v_wearing_steps v_wearing_draft v_wearing_stack v_planned_size v_planned_trial_rows v_planned_trial_cols v_planned_trial_high v_planned_trial_wide v_planned_trial_folds v_planned_trial_wrong v_planned_trial_more v_planned_trial_rowOf v_planned_trial_colOf v_planned_trial_below v_planned_trial_face v_planned_trial_worn v_planned_trial_last v_planned_trial_bend v_planned_trial_tall v_planned_lines v_planned_ways v_search_found v_search_wrong v_search_more v_search_folds v_search_wanted v_search_levels0_rows v_search_levels0_cols v_search_levels0_high v_search_levels0_wide v_search_levels0_folds v_search_levels0_wrong v_search_levels0_more v_search_levels0_rowOf v_search_levels0_colOf v_search_levels0_below v_search_levels0_face v_search_levels0_worn v_search_levels0_last v_search_levels0_bend v_search_levels0_tall v_search_levels1_rows v_search_levels1_cols v_search_levels1_high v_search_levels1_wide v_search_levels1_folds v_search_levels1_wrong v_search_levels1_more v_search_levels1_rowOf v_search_levels1_colOf v_search_levels1_below v_search_levels1_face v_search_levels1_worn v_search_levels1_last v_search_levels1_bend v_search_levels1_tall v_search_levels2_rows v_search_levels2_cols v_search_levels2_high v_search_levels2_wide v_search_levels2_folds v_search_levels2_wrong v_search_levels2_more v_search_levels2_rowOf v_search_levels2_colOf v_search_levels2_below v_search_levels2_face v_search_levels2_worn v_search_levels2_last v_search_levels2_bend v_search_levels2_tall v_search_levels3_rows v_search_levels3_cols v_search_levels3_high v_search_levels3_wide v_search_levels3_folds v_search_levels3_wrong v_search_levels3_more v_search_levels3_rowOf v_search_levels3_colOf v_search_levels3_below v_search_levels3_face v_search_levels3_worn v_search_levels3_last v_search_levels3_bend v_search_levels3_tall v_search_path v_search_best v_strip_list v_strip_found v_strip_at v_changes_value v_changes_done v_changes_size v_changes_before v_changes_after v_foldings_size v_foldings_ran v_foldings_number v_foldings_kinds v_foldings_trace v_shelves0_holds v_shelves0_body v_shelves0_sort v_shelves0_size v_shelves0_items v_shelves1_holds v_shelves1_body v_shelves1_sort v_shelves1_size v_shelves1_items v_shelves2_holds v_shelves2_body v_shelves2_sort v_shelves2_size v_shelves2_items v_shelves3_holds v_shelves3_body v_shelves3_sort v_shelves3_size v_shelves3_items v_shelves4_holds v_shelves4_body v_shelves4_sort v_shelves4_size v_shelves4_items v_shelves5_holds v_shelves5_body v_shelves5_sort v_shelves5_size v_shelves5_items ++ wd_X9 cI cL cS cH b m_keptMany m_done m_rowsOf m_columnsOf m_folded m_wronged m_tapeMany m_textMany m_base m_at m_ends m_fault m_opened m_bentMany m_bentWrong m_moreWorn m_planned m_allWrong m_allWorn m_z m_wishedField m_isFound m_bestWrong m_bestWorn m_bestMany m_soughtBy m_sought m_soughtAt m_foundMany m_foundOrder m_isKept m_imageRows m_imageColumns m_imageFolded m_imageWronged m_bodies m_ran m_ownKind m_ownNumber m_limit m_changeWas m_changeIs m_shapeRows m_shapeColumns m_row m_column m_below m_face m_worn m_lastBend m_tape m_text m_names m_bends m_high m_to m_pileSize m_planLine m_planWay m_way1 m_bestWay m_order1 m_placeIn m_bodyKind m_trace m_shelf m_many m_items m_carried)) (hS : va_S (fun q => s.heap.size ≤ q) s.heap H locs) (hl : lv_has ls 4 [(0, .ref bb), (1, .ref (a 0)), (2, .ref (b 0)), (3, .int x3)])
    (kk : ∀ (H : Heap) (locs : List Loc), va_P D mm_cl (wd_X8 cI cL cS cH a v_hasImage v_now_rows v_now_cols v_now_high v_now_wide v_now_folds v_now_wrong v_now_more v_now_rowOf v_now_colOf v_now_below v_now_face v_now_worn v_now_last v_now_bend v_now_tall v_kept_rows v_kept_cols v_kept_high v_kept_wide v_kept_folds v_kept_wrong v_kept_more v_kept_rowOf v_kept_colOf v_kept_below v_kept_face v_kept_worn v_kept_last v_kept_bend v_kept_tall v_wearing_size v_wearing_stepCount v_wearing_draftCount v_wearing_place v_wearing_fault v_wearing_stacked v_wearing_tape v_wearing_steps v_wearing_draft v_wearing_stack v_planned_size v_planned_trial_rows v_planned_trial_cols v_planned_trial_high v_planned_trial_wide v_planned_trial_folds v_planned_trial_wrong v_planned_trial_more v_planned_trial_rowOf v_planned_trial_colOf v_planned_trial_below v_planned_trial_face v_planned_trial_worn v_planned_trial_last v_planned_trial_bend v_planned_trial_tall v_planned_lines v_planned_ways v_search_found v_search_wrong v_search_more v_search_folds v_search_wanted v_search_levels0_rows v_search_levels0_cols v_search_levels0_high v_search_levels0_wide v_search_levels0_folds v_search_levels0_wrong v_search_levels0_more v_search_levels0_rowOf v_search_levels0_colOf v_search_levels0_below v_search_levels0_face v_search_levels0_worn v_search_levels0_last v_search_levels0_bend v_search_levels0_tall v_search_levels1_rows v_search_levels1_cols v_search_levels1_high v_search_levels1_wide v_search_levels1_folds v_search_levels1_wrong v_search_levels1_more v_search_levels1_rowOf v_search_levels1_colOf v_search_levels1_below v_search_levels1_face v_search_levels1_worn v_search_levels1_last v_search_levels1_bend v_search_levels1_tall v_search_levels2_rows v_search_levels2_cols v_search_levels2_high v_search_levels2_wide v_search_levels2_folds v_search_levels2_wrong v_search_levels2_more v_search_levels2_rowOf v_search_levels2_colOf v_search_levels2_below v_search_levels2_face v_search_levels2_worn v_search_levels2_last v_search_levels2_bend v_search_levels2_tall v_search_levels3_rows v_search_levels3_cols v_search_levels3_high v_search_levels3_wide v_search_levels3_folds v_search_levels3_wrong v_search_levels3_more v_search_levels3_rowOf v_search_levels3_colOf v_search_levels3_below v_search_levels3_face v_search_levels3_worn v_search_levels3_last v_search_levels3_bend v_search_levels3_tall v_search_path v_search_best v_strip_list v_strip_found v_strip_at v_changes_value v_changes_done v_changes_size v_changes_before v_changes_after v_foldings_size v_foldings_ran v_foldings_number v_foldings_kinds v_foldings_trace v_shelves0_holds v_shelves0_body v_shelves0_sort v_shelves0_size v_shelves0_items v_shelves1_holds v_shelves1_body v_shelves1_sort v_shelves1_size v_shelves1_items v_shelves2_holds v_shelves2_body v_shelves2_sort v_shelves2_size v_shelves2_items v_shelves3_holds v_shelves3_body v_shelves3_sort v_shelves3_size v_shelves3_items v_shelves4_holds v_shelves4_body v_shelves4_sort v_shelves4_size v_shelves4_items v_shelves5_holds v_shelves5_body v_shelves5_sort v_shelves5_size v_shelves5_items ++ wd_X9 cI cL cS cH b m_keptMany m_done m_rowsOf m_columnsOf m_folded m_wronged m_tapeMany m_textMany m_base m_at m_ends m_fault m_opened m_bentMany m_bentWrong m_moreWorn m_planned m_allWrong m_allWorn m_z m_wishedField m_isFound m_bestWrong m_bestWorn m_bestMany m_soughtBy m_sought m_soughtAt m_foundMany m_foundOrder m_isKept m_imageRows m_imageColumns m_imageFolded m_imageWronged m_bodies m_ran m_ownKind m_ownNumber m_limit m_changeWas m_changeIs m_shapeRows m_shapeColumns m_row m_column m_below m_face m_worn m_lastBend m_tape m_text m_names m_bends m_high m_to m_pileSize m_planLine m_planWay m_way1 m_bestWay m_order1 m_placeIn m_bodyKind m_trace m_shelf m_many m_items m_carried) H → va_D (fun q => s.heap.size ≤ q) (wd_X8 cI cL cS cH a v_hasImage v_now_rows v_now_cols v_now_high v_now_wide v_now_folds v_now_wrong v_now_more v_now_rowOf v_now_colOf v_now_below v_now_face v_now_worn v_now_last v_now_bend v_now_tall v_kept_rows v_kept_cols v_kept_high v_kept_wide v_kept_folds v_kept_wrong v_kept_more v_kept_rowOf v_kept_colOf v_kept_below v_kept_face v_kept_worn v_kept_last v_kept_bend v_kept_tall v_wearing_size v_wearing_stepCount v_wearing_draftCount v_wearing_place v_wearing_fault v_wearing_stacked v_wearing_tape v_wearing_steps v_wearing_draft v_wearing_stack v_planned_size v_planned_trial_rows v_planned_trial_cols v_planned_trial_high v_planned_trial_wide v_planned_trial_folds v_planned_trial_wrong v_planned_trial_more v_planned_trial_rowOf v_planned_trial_colOf v_planned_trial_below v_planned_trial_face v_planned_trial_worn v_planned_trial_last v_planned_trial_bend v_planned_trial_tall v_planned_lines v_planned_ways v_search_found v_search_wrong v_search_more v_search_folds v_search_wanted v_search_levels0_rows v_search_levels0_cols v_search_levels0_high v_search_levels0_wide v_search_levels0_folds v_search_levels0_wrong v_search_levels0_more v_search_levels0_rowOf v_search_levels0_colOf v_search_levels0_below v_search_levels0_face v_search_levels0_worn v_search_levels0_last v_search_levels0_bend v_search_levels0_tall v_search_levels1_rows v_search_levels1_cols v_search_levels1_high v_search_levels1_wide v_search_levels1_folds v_search_levels1_wrong v_search_levels1_more v_search_levels1_rowOf v_search_levels1_colOf v_search_levels1_below v_search_levels1_face v_search_levels1_worn v_search_levels1_last v_search_levels1_bend v_search_levels1_tall v_search_levels2_rows v_search_levels2_cols v_search_levels2_high v_search_levels2_wide v_search_levels2_folds v_search_levels2_wrong v_search_levels2_more v_search_levels2_rowOf v_search_levels2_colOf v_search_levels2_below v_search_levels2_face v_search_levels2_worn v_search_levels2_last v_search_levels2_bend v_search_levels2_tall v_search_levels3_rows v_search_levels3_cols v_search_levels3_high v_search_levels3_wide v_search_levels3_folds v_search_levels3_wrong v_search_levels3_more v_search_levels3_rowOf v_search_levels3_colOf v_search_levels3_below v_search_levels3_face v_search_levels3_worn v_search_levels3_last v_search_levels3_bend v_search_levels3_tall v_search_path v_search_best v_strip_list v_strip_found v_strip_at v_changes_value v_changes_done v_changes_size v_changes_before v_changes_after v_foldings_size v_foldings_ran v_foldings_number v_foldings_kinds v_foldings_trace v_shelves0_holds v_shelves0_body v_shelves0_sort v_shelves0_size v_shelves0_items v_shelves1_holds v_shelves1_body v_shelves1_sort v_shelves1_size v_shelves1_items v_shelves2_holds v_shelves2_body v_shelves2_sort v_shelves2_size v_shelves2_items v_shelves3_holds v_shelves3_body v_shelves3_sort v_shelves3_size v_shelves3_items v_shelves4_holds v_shelves4_body v_shelves4_sort v_shelves4_size v_shelves4_items v_shelves5_holds v_shelves5_body v_shelves5_sort v_shelves5_size v_shelves5_items ++ wd_X9 cI cL cS cH b m_keptMany m_done m_rowsOf m_columnsOf m_folded m_wronged m_tapeMany m_textMany m_base m_at m_ends m_fault m_opened m_bentMany m_bentWrong m_moreWorn m_planned m_allWrong m_allWorn m_z m_wishedField m_isFound m_bestWrong m_bestWorn m_bestMany m_soughtBy m_sought m_soughtAt m_foundMany m_foundOrder m_isKept m_imageRows m_imageColumns m_imageFolded m_imageWronged m_bodies m_ran m_ownKind m_ownNumber m_limit m_changeWas m_changeIs m_shapeRows m_shapeColumns m_row m_column m_below m_face m_worn m_lastBend m_tape m_text m_names m_bends m_high m_to m_pileSize m_planLine m_planWay m_way1 m_bestWay m_order1 m_placeIn m_bodyKind m_trace m_shelf m_many m_items m_carried) → va_S (fun q => s.heap.size ≤ q) s.heap H locs → W p l e room_1 s m #[Value.ref bb] below meth c H locs cells slots Q (F0 m 1391 ls [])) : W p l e room_1 s m #[Value.ref bb] below meth c H locs cells slots Q (F0 m 1368 ls []) := by
  obtain ⟨hx, hb, hml, hown, hts, hr, hlocks, hK, hSt⟩ := id C0
  have hA : ∀ q : Nat, s.heap.size ≤ q → (fun q : Nat => s.heap.size ≤ q) q := fun _ h => h
  have hbA : ¬ (fun q : Nat => s.heap.size ≤ q) bb := Nat.not_le.mpr hbl
  refine lv_aload_n hx hb dL_law_1368 rfl (lv_at hl 1 rfl) ?_
  refine lv_aload_n hx hb dL_law_1369 rfl (lv_at hl 0 rfl) ?_
  refine lv_iload_n hx hb dL_law_1370 rfl (lv_at hl 3 rfl) ?_
  refine lv_iconst (v := 1) hx hb dL_law_1371 (by decide) ?_
  refine lv_iadd hx hb dL_law_1372 ?_
  refine va_sld hx hb hX hbl hbA hS hi_1 dL_law_1373 ?_
  refine W.eq (g2 := F0 m 1374 ls [.int y1, .ref (a 0)]) (by rw [ey_1]) ?_
  refine mm_callA (ci := 8) (rest := []) C0 lk_L_174 (ctX8_count (a := a) (d := 2) (Nat.le_refl _) h8) (by decide) rfl hl.1 rfl (mm_cat rfl) dL_law_1374 hc1 hc2 hP hD hA hS rfl rfl (fun H locs hP hD hS => ?_)
  refine W.eq (g2 := F0 m 1377 ls [.int r8]) rfl ?_
  refine lv_pop hx hb dL_law_1377 rfl ?_
  refine lv_aload_n hx hb dL_law_1378 rfl (lv_at hl 2 rfl) ?_
  refine lv_aload_n hx hb dL_law_1379 rfl (lv_at hl 0 rfl) ?_
  refine lv_iload_n hx hb dL_law_1380 rfl (lv_at hl 3 rfl) ?_
  refine lv_iconst (v := 1) hx hb dL_law_1381 (by decide) ?_
  refine lv_iadd hx hb dL_law_1382 ?_
  refine va_sld hx hb hX hbl hbA hS hi_1 dL_law_1383 ?_
  refine W.eq (g2 := F0 m 1384 ls [.int y1, .ref (b 0)]) (by rw [ey_1]) ?_
  refine mm_callB (q0 := 99) (ci := 9) (rest := []) C0 lk_L_177 (ctX9_count (a := b) (d := 2) (Nat.le_refl _) h9) (by decide) rfl hl.1 rfl (mm_cat rfl) dL_law_1384 hc1 hc2 hP hD hA hS rfl rfl (fun H locs hP hD hS => ?_)
  refine W.eq (g2 := F0 m 1387 ls [.int r9]) rfl ?_
  refine lv_pop hx hb dL_law_1387 rfl ?_
  refine lv_goto (tgt := 1391) hx hb dL_law_1388 (by decide) ?_
  exact kk H locs hP hD hS
end
section
/-! What a text that gives some gives: the base -/
def wp {α : Type} (o : Option α) (Q : α → Prop) : Prop := ∃ r, o = some r ∧ Q r
theorem wp_some {α : Type} {r : α} {Q : α → Prop} (h : Q r) : wp (some r) Q := ⟨r, rfl, h⟩
theorem wp_of {α : Type} {o o' : Option α} {Q : α → Prop} (e : o = o') (h : wp o' Q) : wp o Q := by rw [e]; exact h
theorem wp_mono {α : Type} {o : Option α} {Q Q' : α → Prop} (h : wp o Q) (k : ∀ r, Q r → Q' r) : wp o Q' := by
  obtain ⟨r, e, q⟩ := h
  exact ⟨r, e, k r q⟩
theorem wp_ck {α : Type} {c : Bool} {x : Option α} {Q : α → Prop} (hc : c = true) (h : wp x Q) : wp (mm_ck c x) Q := by
  unfold mm_ck
  rw [if_pos hc]
  exact h
theorem wp_nm {α β : Type} {x : α} {k : α → Option β} {Q : β → Prop} (h : ∀ y, y = x → wp (k y) Q) : wp (mm_nm x k) Q := h x rfl
theorem wp_if {α : Type} {c : Prop} [Decidable c] {a b : Option α} {Q : α → Prop} (h1 : c → wp a Q) (h2 : ¬ c → wp b Q) : wp (if c then a else b) Q := by
  by_cases h : c
  · rw [if_pos h]; exact h1 h
  · rw [if_neg h]; exact h2 h
theorem wp_ifp {α : Type} {c : Prop} [Decidable c] {a b : Option α} {Q : α → Prop} (h : c) (h1 : wp a Q) : wp (if c then a else b) Q := by
  rw [if_pos h]; exact h1
theorem wp_ifn {α : Type} {c : Prop} [Decidable c] {a b : Option α} {Q : α → Prop} (h : ¬ c) (h1 : wp b Q) : wp (if c then a else b) Q := by
  rw [if_neg h]; exact h1
theorem wp_bd1 {α β : Type} {x : Option α} {k : α → Option β} {R : α → Prop} {Q : β → Prop} (h : wp x R) (g : ∀ a, R a → wp (k a) Q) : wp (mm_bd1 x k) Q := by
  obtain ⟨r, e, q⟩ := h
  rw [e]
  exact g r q
theorem wp_in1 {α β : Type} {x : Option α} {k : α → Option β} {Q : β → Prop} (h : wp x (fun a => wp (k a) Q)) : wp (mm_bd1 x k) Q := wp_bd1 h (fun _ q => q)
theorem wp_cu1 {α : Type} {x : Option α} {R R' : α → Prop} (h : wp x R) (g : ∀ a, R a → R' a) : wp x R' := wp_mono h g
theorem wp_so1 {α : Type} {a : α} {R : α → Prop} (h : R a) : wp (some a) R := ⟨_, rfl, h⟩
def cu2 {α0 α1 : Type} (R : α0 → α1 → Prop) : α0 × α1 → Prop := fun t => R t.1 t.2
theorem wp_so2 {α0 α1 : Type} {a0 : α0} {a1 : α1} {R : α0 → α1 → Prop} (h : R a0 a1) : wp (some (a0, a1)) (cu2 R) := ⟨_, rfl, h⟩
theorem wp_bd2 {α0 α1 β : Type} {x : Option (α0 × α1)} {k : α0 → α1 → Option β} {R : α0 → α1 → Prop} {Q : β → Prop} (h : wp x (cu2 R)) (g : ∀ a0 a1, R a0 a1 → wp (k a0 a1) Q) : wp (mm_bd2 x k) Q := by
  obtain ⟨⟨a0, a1⟩, e, q⟩ := h
  rw [e]
  exact g a0 a1 q
theorem wp_in2 {α0 α1 β : Type} {x : Option (α0 × α1)} {k : α0 → α1 → Option β} {Q : β → Prop} (h : wp x (cu2 (fun a0 a1 => wp (k a0 a1) Q))) : wp (mm_bd2 x k) Q := wp_bd2 h (fun _ _ q => q)
theorem wp_cu2 {α0 α1 : Type} {x : Option (α0 × α1)} {R R' : α0 → α1 → Prop} (h : wp x (cu2 R)) (g : ∀ a0 a1, R a0 a1 → R' a0 a1) : wp x (cu2 R') := by
  obtain ⟨⟨a0, a1⟩, e, q⟩ := h
  exact ⟨_, e, g a0 a1 q⟩
def cu3 {α0 α1 α2 : Type} (R : α0 → α1 → α2 → Prop) : α0 × α1 × α2 → Prop := fun t => R t.1 t.2.1 t.2.2
theorem wp_so3 {α0 α1 α2 : Type} {a0 : α0} {a1 : α1} {a2 : α2} {R : α0 → α1 → α2 → Prop} (h : R a0 a1 a2) : wp (some (a0, a1, a2)) (cu3 R) := ⟨_, rfl, h⟩
theorem wp_bd3 {α0 α1 α2 β : Type} {x : Option (α0 × α1 × α2)} {k : α0 → α1 → α2 → Option β} {R : α0 → α1 → α2 → Prop} {Q : β → Prop} (h : wp x (cu3 R)) (g : ∀ a0 a1 a2, R a0 a1 a2 → wp (k a0 a1 a2) Q) : wp (mm_bd3 x k) Q := by
  obtain ⟨⟨a0, a1, a2⟩, e, q⟩ := h
  rw [e]
  exact g a0 a1 a2 q
theorem wp_in3 {α0 α1 α2 β : Type} {x : Option (α0 × α1 × α2)} {k : α0 → α1 → α2 → Option β} {Q : β → Prop} (h : wp x (cu3 (fun a0 a1 a2 => wp (k a0 a1 a2) Q))) : wp (mm_bd3 x k) Q := wp_bd3 h (fun _ _ _ q => q)
theorem wp_cu3 {α0 α1 α2 : Type} {x : Option (α0 × α1 × α2)} {R R' : α0 → α1 → α2 → Prop} (h : wp x (cu3 R)) (g : ∀ a0 a1 a2, R a0 a1 a2 → R' a0 a1 a2) : wp x (cu3 R') := by
  obtain ⟨⟨a0, a1, a2⟩, e, q⟩ := h
  exact ⟨_, e, g a0 a1 a2 q⟩
def cu4 {α0 α1 α2 α3 : Type} (R : α0 → α1 → α2 → α3 → Prop) : α0 × α1 × α2 × α3 → Prop := fun t => R t.1 t.2.1 t.2.2.1 t.2.2.2
theorem wp_so4 {α0 α1 α2 α3 : Type} {a0 : α0} {a1 : α1} {a2 : α2} {a3 : α3} {R : α0 → α1 → α2 → α3 → Prop} (h : R a0 a1 a2 a3) : wp (some (a0, a1, a2, a3)) (cu4 R) := ⟨_, rfl, h⟩
theorem wp_bd4 {α0 α1 α2 α3 β : Type} {x : Option (α0 × α1 × α2 × α3)} {k : α0 → α1 → α2 → α3 → Option β} {R : α0 → α1 → α2 → α3 → Prop} {Q : β → Prop} (h : wp x (cu4 R)) (g : ∀ a0 a1 a2 a3, R a0 a1 a2 a3 → wp (k a0 a1 a2 a3) Q) : wp (mm_bd4 x k) Q := by
  obtain ⟨⟨a0, a1, a2, a3⟩, e, q⟩ := h
  rw [e]
  exact g a0 a1 a2 a3 q
theorem wp_in4 {α0 α1 α2 α3 β : Type} {x : Option (α0 × α1 × α2 × α3)} {k : α0 → α1 → α2 → α3 → Option β} {Q : β → Prop} (h : wp x (cu4 (fun a0 a1 a2 a3 => wp (k a0 a1 a2 a3) Q))) : wp (mm_bd4 x k) Q := wp_bd4 h (fun _ _ _ _ q => q)
theorem wp_cu4 {α0 α1 α2 α3 : Type} {x : Option (α0 × α1 × α2 × α3)} {R R' : α0 → α1 → α2 → α3 → Prop} (h : wp x (cu4 R)) (g : ∀ a0 a1 a2 a3, R a0 a1 a2 a3 → R' a0 a1 a2 a3) : wp x (cu4 R') := by
  obtain ⟨⟨a0, a1, a2, a3⟩, e, q⟩ := h
  exact ⟨_, e, g a0 a1 a2 a3 q⟩
def cu5 {α0 α1 α2 α3 α4 : Type} (R : α0 → α1 → α2 → α3 → α4 → Prop) : α0 × α1 × α2 × α3 × α4 → Prop := fun t => R t.1 t.2.1 t.2.2.1 t.2.2.2.1 t.2.2.2.2
theorem wp_so5 {α0 α1 α2 α3 α4 : Type} {a0 : α0} {a1 : α1} {a2 : α2} {a3 : α3} {a4 : α4} {R : α0 → α1 → α2 → α3 → α4 → Prop} (h : R a0 a1 a2 a3 a4) : wp (some (a0, a1, a2, a3, a4)) (cu5 R) := ⟨_, rfl, h⟩
theorem wp_bd5 {α0 α1 α2 α3 α4 β : Type} {x : Option (α0 × α1 × α2 × α3 × α4)} {k : α0 → α1 → α2 → α3 → α4 → Option β} {R : α0 → α1 → α2 → α3 → α4 → Prop} {Q : β → Prop} (h : wp x (cu5 R)) (g : ∀ a0 a1 a2 a3 a4, R a0 a1 a2 a3 a4 → wp (k a0 a1 a2 a3 a4) Q) : wp (mm_bd5 x k) Q := by
  obtain ⟨⟨a0, a1, a2, a3, a4⟩, e, q⟩ := h
  rw [e]
  exact g a0 a1 a2 a3 a4 q
theorem wp_in5 {α0 α1 α2 α3 α4 β : Type} {x : Option (α0 × α1 × α2 × α3 × α4)} {k : α0 → α1 → α2 → α3 → α4 → Option β} {Q : β → Prop} (h : wp x (cu5 (fun a0 a1 a2 a3 a4 => wp (k a0 a1 a2 a3 a4) Q))) : wp (mm_bd5 x k) Q := wp_bd5 h (fun _ _ _ _ _ q => q)
theorem wp_cu5 {α0 α1 α2 α3 α4 : Type} {x : Option (α0 × α1 × α2 × α3 × α4)} {R R' : α0 → α1 → α2 → α3 → α4 → Prop} (h : wp x (cu5 R)) (g : ∀ a0 a1 a2 a3 a4, R a0 a1 a2 a3 a4 → R' a0 a1 a2 a3 a4) : wp x (cu5 R') := by
  obtain ⟨⟨a0, a1, a2, a3, a4⟩, e, q⟩ := h
  exact ⟨_, e, g a0 a1 a2 a3 a4 q⟩
def cu6 {α0 α1 α2 α3 α4 α5 : Type} (R : α0 → α1 → α2 → α3 → α4 → α5 → Prop) : α0 × α1 × α2 × α3 × α4 × α5 → Prop := fun t => R t.1 t.2.1 t.2.2.1 t.2.2.2.1 t.2.2.2.2.1 t.2.2.2.2.2
theorem wp_so6 {α0 α1 α2 α3 α4 α5 : Type} {a0 : α0} {a1 : α1} {a2 : α2} {a3 : α3} {a4 : α4} {a5 : α5} {R : α0 → α1 → α2 → α3 → α4 → α5 → Prop} (h : R a0 a1 a2 a3 a4 a5) : wp (some (a0, a1, a2, a3, a4, a5)) (cu6 R) := ⟨_, rfl, h⟩
theorem wp_bd6 {α0 α1 α2 α3 α4 α5 β : Type} {x : Option (α0 × α1 × α2 × α3 × α4 × α5)} {k : α0 → α1 → α2 → α3 → α4 → α5 → Option β} {R : α0 → α1 → α2 → α3 → α4 → α5 → Prop} {Q : β → Prop} (h : wp x (cu6 R)) (g : ∀ a0 a1 a2 a3 a4 a5, R a0 a1 a2 a3 a4 a5 → wp (k a0 a1 a2 a3 a4 a5) Q) : wp (mm_bd6 x k) Q := by
  obtain ⟨⟨a0, a1, a2, a3, a4, a5⟩, e, q⟩ := h
  rw [e]
  exact g a0 a1 a2 a3 a4 a5 q
theorem wp_in6 {α0 α1 α2 α3 α4 α5 β : Type} {x : Option (α0 × α1 × α2 × α3 × α4 × α5)} {k : α0 → α1 → α2 → α3 → α4 → α5 → Option β} {Q : β → Prop} (h : wp x (cu6 (fun a0 a1 a2 a3 a4 a5 => wp (k a0 a1 a2 a3 a4 a5) Q))) : wp (mm_bd6 x k) Q := wp_bd6 h (fun _ _ _ _ _ _ q => q)
theorem wp_cu6 {α0 α1 α2 α3 α4 α5 : Type} {x : Option (α0 × α1 × α2 × α3 × α4 × α5)} {R R' : α0 → α1 → α2 → α3 → α4 → α5 → Prop} (h : wp x (cu6 R)) (g : ∀ a0 a1 a2 a3 a4 a5, R a0 a1 a2 a3 a4 a5 → R' a0 a1 a2 a3 a4 a5) : wp x (cu6 R') := by
  obtain ⟨⟨a0, a1, a2, a3, a4, a5⟩, e, q⟩ := h
  exact ⟨_, e, g a0 a1 a2 a3 a4 a5 q⟩
def cu7 {α0 α1 α2 α3 α4 α5 α6 : Type} (R : α0 → α1 → α2 → α3 → α4 → α5 → α6 → Prop) : α0 × α1 × α2 × α3 × α4 × α5 × α6 → Prop := fun t => R t.1 t.2.1 t.2.2.1 t.2.2.2.1 t.2.2.2.2.1 t.2.2.2.2.2.1 t.2.2.2.2.2.2
theorem wp_so7 {α0 α1 α2 α3 α4 α5 α6 : Type} {a0 : α0} {a1 : α1} {a2 : α2} {a3 : α3} {a4 : α4} {a5 : α5} {a6 : α6} {R : α0 → α1 → α2 → α3 → α4 → α5 → α6 → Prop} (h : R a0 a1 a2 a3 a4 a5 a6) : wp (some (a0, a1, a2, a3, a4, a5, a6)) (cu7 R) := ⟨_, rfl, h⟩
theorem wp_bd7 {α0 α1 α2 α3 α4 α5 α6 β : Type} {x : Option (α0 × α1 × α2 × α3 × α4 × α5 × α6)} {k : α0 → α1 → α2 → α3 → α4 → α5 → α6 → Option β} {R : α0 → α1 → α2 → α3 → α4 → α5 → α6 → Prop} {Q : β → Prop} (h : wp x (cu7 R)) (g : ∀ a0 a1 a2 a3 a4 a5 a6, R a0 a1 a2 a3 a4 a5 a6 → wp (k a0 a1 a2 a3 a4 a5 a6) Q) : wp (mm_bd7 x k) Q := by
  obtain ⟨⟨a0, a1, a2, a3, a4, a5, a6⟩, e, q⟩ := h
  rw [e]
  exact g a0 a1 a2 a3 a4 a5 a6 q
theorem wp_in7 {α0 α1 α2 α3 α4 α5 α6 β : Type} {x : Option (α0 × α1 × α2 × α3 × α4 × α5 × α6)} {k : α0 → α1 → α2 → α3 → α4 → α5 → α6 → Option β} {Q : β → Prop} (h : wp x (cu7 (fun a0 a1 a2 a3 a4 a5 a6 => wp (k a0 a1 a2 a3 a4 a5 a6) Q))) : wp (mm_bd7 x k) Q := wp_bd7 h (fun _ _ _ _ _ _ _ q => q)
theorem wp_cu7 {α0 α1 α2 α3 α4 α5 α6 : Type} {x : Option (α0 × α1 × α2 × α3 × α4 × α5 × α6)} {R R' : α0 → α1 → α2 → α3 → α4 → α5 → α6 → Prop} (h : wp x (cu7 R)) (g : ∀ a0 a1 a2 a3 a4 a5 a6, R a0 a1 a2 a3 a4 a5 a6 → R' a0 a1 a2 a3 a4 a5 a6) : wp x (cu7 R') := by
  obtain ⟨⟨a0, a1, a2, a3, a4, a5, a6⟩, e, q⟩ := h
  exact ⟨_, e, g a0 a1 a2 a3 a4 a5 a6 q⟩
def cu8 {α0 α1 α2 α3 α4 α5 α6 α7 : Type} (R : α0 → α1 → α2 → α3 → α4 → α5 → α6 → α7 → Prop) : α0 × α1 × α2 × α3 × α4 × α5 × α6 × α7 → Prop := fun t => R t.1 t.2.1 t.2.2.1 t.2.2.2.1 t.2.2.2.2.1 t.2.2.2.2.2.1 t.2.2.2.2.2.2.1 t.2.2.2.2.2.2.2
theorem wp_so8 {α0 α1 α2 α3 α4 α5 α6 α7 : Type} {a0 : α0} {a1 : α1} {a2 : α2} {a3 : α3} {a4 : α4} {a5 : α5} {a6 : α6} {a7 : α7} {R : α0 → α1 → α2 → α3 → α4 → α5 → α6 → α7 → Prop} (h : R a0 a1 a2 a3 a4 a5 a6 a7) : wp (some (a0, a1, a2, a3, a4, a5, a6, a7)) (cu8 R) := ⟨_, rfl, h⟩
theorem wp_bd8 {α0 α1 α2 α3 α4 α5 α6 α7 β : Type} {x : Option (α0 × α1 × α2 × α3 × α4 × α5 × α6 × α7)} {k : α0 → α1 → α2 → α3 → α4 → α5 → α6 → α7 → Option β} {R : α0 → α1 → α2 → α3 → α4 → α5 → α6 → α7 → Prop} {Q : β → Prop} (h : wp x (cu8 R)) (g : ∀ a0 a1 a2 a3 a4 a5 a6 a7, R a0 a1 a2 a3 a4 a5 a6 a7 → wp (k a0 a1 a2 a3 a4 a5 a6 a7) Q) : wp (mm_bd8 x k) Q := by
  obtain ⟨⟨a0, a1, a2, a3, a4, a5, a6, a7⟩, e, q⟩ := h
  rw [e]
  exact g a0 a1 a2 a3 a4 a5 a6 a7 q
theorem wp_in8 {α0 α1 α2 α3 α4 α5 α6 α7 β : Type} {x : Option (α0 × α1 × α2 × α3 × α4 × α5 × α6 × α7)} {k : α0 → α1 → α2 → α3 → α4 → α5 → α6 → α7 → Option β} {Q : β → Prop} (h : wp x (cu8 (fun a0 a1 a2 a3 a4 a5 a6 a7 => wp (k a0 a1 a2 a3 a4 a5 a6 a7) Q))) : wp (mm_bd8 x k) Q := wp_bd8 h (fun _ _ _ _ _ _ _ _ q => q)
theorem wp_cu8 {α0 α1 α2 α3 α4 α5 α6 α7 : Type} {x : Option (α0 × α1 × α2 × α3 × α4 × α5 × α6 × α7)} {R R' : α0 → α1 → α2 → α3 → α4 → α5 → α6 → α7 → Prop} (h : wp x (cu8 R)) (g : ∀ a0 a1 a2 a3 a4 a5 a6 a7, R a0 a1 a2 a3 a4 a5 a6 a7 → R' a0 a1 a2 a3 a4 a5 a6 a7) : wp x (cu8 R') := by
  obtain ⟨⟨a0, a1, a2, a3, a4, a5, a6, a7⟩, e, q⟩ := h
  exact ⟨_, e, g a0 a1 a2 a3 a4 a5 a6 a7 q⟩
def cu9 {α0 α1 α2 α3 α4 α5 α6 α7 α8 : Type} (R : α0 → α1 → α2 → α3 → α4 → α5 → α6 → α7 → α8 → Prop) : α0 × α1 × α2 × α3 × α4 × α5 × α6 × α7 × α8 → Prop := fun t => R t.1 t.2.1 t.2.2.1 t.2.2.2.1 t.2.2.2.2.1 t.2.2.2.2.2.1 t.2.2.2.2.2.2.1 t.2.2.2.2.2.2.2.1 t.2.2.2.2.2.2.2.2
theorem wp_so9 {α0 α1 α2 α3 α4 α5 α6 α7 α8 : Type} {a0 : α0} {a1 : α1} {a2 : α2} {a3 : α3} {a4 : α4} {a5 : α5} {a6 : α6} {a7 : α7} {a8 : α8} {R : α0 → α1 → α2 → α3 → α4 → α5 → α6 → α7 → α8 → Prop} (h : R a0 a1 a2 a3 a4 a5 a6 a7 a8) : wp (some (a0, a1, a2, a3, a4, a5, a6, a7, a8)) (cu9 R) := ⟨_, rfl, h⟩
theorem wp_bd9 {α0 α1 α2 α3 α4 α5 α6 α7 α8 β : Type} {x : Option (α0 × α1 × α2 × α3 × α4 × α5 × α6 × α7 × α8)} {k : α0 → α1 → α2 → α3 → α4 → α5 → α6 → α7 → α8 → Option β} {R : α0 → α1 → α2 → α3 → α4 → α5 → α6 → α7 → α8 → Prop} {Q : β → Prop} (h : wp x (cu9 R)) (g : ∀ a0 a1 a2 a3 a4 a5 a6 a7 a8, R a0 a1 a2 a3 a4 a5 a6 a7 a8 → wp (k a0 a1 a2 a3 a4 a5 a6 a7 a8) Q) : wp (mm_bd9 x k) Q := by
  obtain ⟨⟨a0, a1, a2, a3, a4, a5, a6, a7, a8⟩, e, q⟩ := h
  rw [e]
  exact g a0 a1 a2 a3 a4 a5 a6 a7 a8 q
theorem wp_in9 {α0 α1 α2 α3 α4 α5 α6 α7 α8 β : Type} {x : Option (α0 × α1 × α2 × α3 × α4 × α5 × α6 × α7 × α8)} {k : α0 → α1 → α2 → α3 → α4 → α5 → α6 → α7 → α8 → Option β} {Q : β → Prop} (h : wp x (cu9 (fun a0 a1 a2 a3 a4 a5 a6 a7 a8 => wp (k a0 a1 a2 a3 a4 a5 a6 a7 a8) Q))) : wp (mm_bd9 x k) Q := wp_bd9 h (fun _ _ _ _ _ _ _ _ _ q => q)
theorem wp_cu9 {α0 α1 α2 α3 α4 α5 α6 α7 α8 : Type} {x : Option (α0 × α1 × α2 × α3 × α4 × α5 × α6 × α7 × α8)} {R R' : α0 → α1 → α2 → α3 → α4 → α5 → α6 → α7 → α8 → Prop} (h : wp x (cu9 R)) (g : ∀ a0 a1 a2 a3 a4 a5 a6 a7 a8, R a0 a1 a2 a3 a4 a5 a6 a7 a8 → R' a0 a1 a2 a3 a4 a5 a6 a7 a8) : wp x (cu9 R') := by
  obtain ⟨⟨a0, a1, a2, a3, a4, a5, a6, a7, a8⟩, e, q⟩ := h
  exact ⟨_, e, g a0 a1 a2 a3 a4 a5 a6 a7 a8 q⟩
def cu12 {α0 α1 α2 α3 α4 α5 α6 α7 α8 α9 α10 α11 : Type} (R : α0 → α1 → α2 → α3 → α4 → α5 → α6 → α7 → α8 → α9 → α10 → α11 → Prop) : α0 × α1 × α2 × α3 × α4 × α5 × α6 × α7 × α8 × α9 × α10 × α11 → Prop := fun t => R t.1 t.2.1 t.2.2.1 t.2.2.2.1 t.2.2.2.2.1 t.2.2.2.2.2.1 t.2.2.2.2.2.2.1 t.2.2.2.2.2.2.2.1 t.2.2.2.2.2.2.2.2.1 t.2.2.2.2.2.2.2.2.2.1 t.2.2.2.2.2.2.2.2.2.2.1 t.2.2.2.2.2.2.2.2.2.2.2
theorem wp_so12 {α0 α1 α2 α3 α4 α5 α6 α7 α8 α9 α10 α11 : Type} {a0 : α0} {a1 : α1} {a2 : α2} {a3 : α3} {a4 : α4} {a5 : α5} {a6 : α6} {a7 : α7} {a8 : α8} {a9 : α9} {a10 : α10} {a11 : α11} {R : α0 → α1 → α2 → α3 → α4 → α5 → α6 → α7 → α8 → α9 → α10 → α11 → Prop} (h : R a0 a1 a2 a3 a4 a5 a6 a7 a8 a9 a10 a11) : wp (some (a0, a1, a2, a3, a4, a5, a6, a7, a8, a9, a10, a11)) (cu12 R) := ⟨_, rfl, h⟩
theorem wp_bd12 {α0 α1 α2 α3 α4 α5 α6 α7 α8 α9 α10 α11 β : Type} {x : Option (α0 × α1 × α2 × α3 × α4 × α5 × α6 × α7 × α8 × α9 × α10 × α11)} {k : α0 → α1 → α2 → α3 → α4 → α5 → α6 → α7 → α8 → α9 → α10 → α11 → Option β} {R : α0 → α1 → α2 → α3 → α4 → α5 → α6 → α7 → α8 → α9 → α10 → α11 → Prop} {Q : β → Prop} (h : wp x (cu12 R)) (g : ∀ a0 a1 a2 a3 a4 a5 a6 a7 a8 a9 a10 a11, R a0 a1 a2 a3 a4 a5 a6 a7 a8 a9 a10 a11 → wp (k a0 a1 a2 a3 a4 a5 a6 a7 a8 a9 a10 a11) Q) : wp (mm_bd12 x k) Q := by
  obtain ⟨⟨a0, a1, a2, a3, a4, a5, a6, a7, a8, a9, a10, a11⟩, e, q⟩ := h
  rw [e]
  exact g a0 a1 a2 a3 a4 a5 a6 a7 a8 a9 a10 a11 q
theorem wp_in12 {α0 α1 α2 α3 α4 α5 α6 α7 α8 α9 α10 α11 β : Type} {x : Option (α0 × α1 × α2 × α3 × α4 × α5 × α6 × α7 × α8 × α9 × α10 × α11)} {k : α0 → α1 → α2 → α3 → α4 → α5 → α6 → α7 → α8 → α9 → α10 → α11 → Option β} {Q : β → Prop} (h : wp x (cu12 (fun a0 a1 a2 a3 a4 a5 a6 a7 a8 a9 a10 a11 => wp (k a0 a1 a2 a3 a4 a5 a6 a7 a8 a9 a10 a11) Q))) : wp (mm_bd12 x k) Q := wp_bd12 h (fun _ _ _ _ _ _ _ _ _ _ _ _ q => q)
theorem wp_cu12 {α0 α1 α2 α3 α4 α5 α6 α7 α8 α9 α10 α11 : Type} {x : Option (α0 × α1 × α2 × α3 × α4 × α5 × α6 × α7 × α8 × α9 × α10 × α11)} {R R' : α0 → α1 → α2 → α3 → α4 → α5 → α6 → α7 → α8 → α9 → α10 → α11 → Prop} (h : wp x (cu12 R)) (g : ∀ a0 a1 a2 a3 a4 a5 a6 a7 a8 a9 a10 a11, R a0 a1 a2 a3 a4 a5 a6 a7 a8 a9 a10 a11 → R' a0 a1 a2 a3 a4 a5 a6 a7 a8 a9 a10 a11) : wp x (cu12 R') := by
  obtain ⟨⟨a0, a1, a2, a3, a4, a5, a6, a7, a8, a9, a10, a11⟩, e, q⟩ := h
  exact ⟨_, e, g a0 a1 a2 a3 a4 a5 a6 a7 a8 a9 a10 a11 q⟩
def cu13 {α0 α1 α2 α3 α4 α5 α6 α7 α8 α9 α10 α11 α12 : Type} (R : α0 → α1 → α2 → α3 → α4 → α5 → α6 → α7 → α8 → α9 → α10 → α11 → α12 → Prop) : α0 × α1 × α2 × α3 × α4 × α5 × α6 × α7 × α8 × α9 × α10 × α11 × α12 → Prop := fun t => R t.1 t.2.1 t.2.2.1 t.2.2.2.1 t.2.2.2.2.1 t.2.2.2.2.2.1 t.2.2.2.2.2.2.1 t.2.2.2.2.2.2.2.1 t.2.2.2.2.2.2.2.2.1 t.2.2.2.2.2.2.2.2.2.1 t.2.2.2.2.2.2.2.2.2.2.1 t.2.2.2.2.2.2.2.2.2.2.2.1 t.2.2.2.2.2.2.2.2.2.2.2.2
theorem wp_so13 {α0 α1 α2 α3 α4 α5 α6 α7 α8 α9 α10 α11 α12 : Type} {a0 : α0} {a1 : α1} {a2 : α2} {a3 : α3} {a4 : α4} {a5 : α5} {a6 : α6} {a7 : α7} {a8 : α8} {a9 : α9} {a10 : α10} {a11 : α11} {a12 : α12} {R : α0 → α1 → α2 → α3 → α4 → α5 → α6 → α7 → α8 → α9 → α10 → α11 → α12 → Prop} (h : R a0 a1 a2 a3 a4 a5 a6 a7 a8 a9 a10 a11 a12) : wp (some (a0, a1, a2, a3, a4, a5, a6, a7, a8, a9, a10, a11, a12)) (cu13 R) := ⟨_, rfl, h⟩
theorem wp_bd13 {α0 α1 α2 α3 α4 α5 α6 α7 α8 α9 α10 α11 α12 β : Type} {x : Option (α0 × α1 × α2 × α3 × α4 × α5 × α6 × α7 × α8 × α9 × α10 × α11 × α12)} {k : α0 → α1 → α2 → α3 → α4 → α5 → α6 → α7 → α8 → α9 → α10 → α11 → α12 → Option β} {R : α0 → α1 → α2 → α3 → α4 → α5 → α6 → α7 → α8 → α9 → α10 → α11 → α12 → Prop} {Q : β → Prop} (h : wp x (cu13 R)) (g : ∀ a0 a1 a2 a3 a4 a5 a6 a7 a8 a9 a10 a11 a12, R a0 a1 a2 a3 a4 a5 a6 a7 a8 a9 a10 a11 a12 → wp (k a0 a1 a2 a3 a4 a5 a6 a7 a8 a9 a10 a11 a12) Q) : wp (mm_bd13 x k) Q := by
  obtain ⟨⟨a0, a1, a2, a3, a4, a5, a6, a7, a8, a9, a10, a11, a12⟩, e, q⟩ := h
  rw [e]
  exact g a0 a1 a2 a3 a4 a5 a6 a7 a8 a9 a10 a11 a12 q
theorem wp_in13 {α0 α1 α2 α3 α4 α5 α6 α7 α8 α9 α10 α11 α12 β : Type} {x : Option (α0 × α1 × α2 × α3 × α4 × α5 × α6 × α7 × α8 × α9 × α10 × α11 × α12)} {k : α0 → α1 → α2 → α3 → α4 → α5 → α6 → α7 → α8 → α9 → α10 → α11 → α12 → Option β} {Q : β → Prop} (h : wp x (cu13 (fun a0 a1 a2 a3 a4 a5 a6 a7 a8 a9 a10 a11 a12 => wp (k a0 a1 a2 a3 a4 a5 a6 a7 a8 a9 a10 a11 a12) Q))) : wp (mm_bd13 x k) Q := wp_bd13 h (fun _ _ _ _ _ _ _ _ _ _ _ _ _ q => q)
theorem wp_cu13 {α0 α1 α2 α3 α4 α5 α6 α7 α8 α9 α10 α11 α12 : Type} {x : Option (α0 × α1 × α2 × α3 × α4 × α5 × α6 × α7 × α8 × α9 × α10 × α11 × α12)} {R R' : α0 → α1 → α2 → α3 → α4 → α5 → α6 → α7 → α8 → α9 → α10 → α11 → α12 → Prop} (h : wp x (cu13 R)) (g : ∀ a0 a1 a2 a3 a4 a5 a6 a7 a8 a9 a10 a11 a12, R a0 a1 a2 a3 a4 a5 a6 a7 a8 a9 a10 a11 a12 → R' a0 a1 a2 a3 a4 a5 a6 a7 a8 a9 a10 a11 a12) : wp x (cu13 R') := by
  obtain ⟨⟨a0, a1, a2, a3, a4, a5, a6, a7, a8, a9, a10, a11, a12⟩, e, q⟩ := h
  exact ⟨_, e, g a0 a1 a2 a3 a4 a5 a6 a7 a8 a9 a10 a11 a12 q⟩
def cu14 {α0 α1 α2 α3 α4 α5 α6 α7 α8 α9 α10 α11 α12 α13 : Type} (R : α0 → α1 → α2 → α3 → α4 → α5 → α6 → α7 → α8 → α9 → α10 → α11 → α12 → α13 → Prop) : α0 × α1 × α2 × α3 × α4 × α5 × α6 × α7 × α8 × α9 × α10 × α11 × α12 × α13 → Prop := fun t => R t.1 t.2.1 t.2.2.1 t.2.2.2.1 t.2.2.2.2.1 t.2.2.2.2.2.1 t.2.2.2.2.2.2.1 t.2.2.2.2.2.2.2.1 t.2.2.2.2.2.2.2.2.1 t.2.2.2.2.2.2.2.2.2.1 t.2.2.2.2.2.2.2.2.2.2.1 t.2.2.2.2.2.2.2.2.2.2.2.1 t.2.2.2.2.2.2.2.2.2.2.2.2.1 t.2.2.2.2.2.2.2.2.2.2.2.2.2
theorem wp_so14 {α0 α1 α2 α3 α4 α5 α6 α7 α8 α9 α10 α11 α12 α13 : Type} {a0 : α0} {a1 : α1} {a2 : α2} {a3 : α3} {a4 : α4} {a5 : α5} {a6 : α6} {a7 : α7} {a8 : α8} {a9 : α9} {a10 : α10} {a11 : α11} {a12 : α12} {a13 : α13} {R : α0 → α1 → α2 → α3 → α4 → α5 → α6 → α7 → α8 → α9 → α10 → α11 → α12 → α13 → Prop} (h : R a0 a1 a2 a3 a4 a5 a6 a7 a8 a9 a10 a11 a12 a13) : wp (some (a0, a1, a2, a3, a4, a5, a6, a7, a8, a9, a10, a11, a12, a13)) (cu14 R) := ⟨_, rfl, h⟩
theorem wp_cu14 {α0 α1 α2 α3 α4 α5 α6 α7 α8 α9 α10 α11 α12 α13 : Type} {x : Option (α0 × α1 × α2 × α3 × α4 × α5 × α6 × α7 × α8 × α9 × α10 × α11 × α12 × α13)} {R R' : α0 → α1 → α2 → α3 → α4 → α5 → α6 → α7 → α8 → α9 → α10 → α11 → α12 → α13 → Prop} (h : wp x (cu14 R)) (g : ∀ a0 a1 a2 a3 a4 a5 a6 a7 a8 a9 a10 a11 a12 a13, R a0 a1 a2 a3 a4 a5 a6 a7 a8 a9 a10 a11 a12 a13 → R' a0 a1 a2 a3 a4 a5 a6 a7 a8 a9 a10 a11 a12 a13) : wp x (cu14 R') := by
  obtain ⟨⟨a0, a1, a2, a3, a4, a5, a6, a7, a8, a9, a10, a11, a12, a13⟩, e, q⟩ := h
  exact ⟨_, e, g a0 a1 a2 a3 a4 a5 a6 a7 a8 a9 a10 a11 a12 a13 q⟩
def cu15 {α0 α1 α2 α3 α4 α5 α6 α7 α8 α9 α10 α11 α12 α13 α14 : Type} (R : α0 → α1 → α2 → α3 → α4 → α5 → α6 → α7 → α8 → α9 → α10 → α11 → α12 → α13 → α14 → Prop) : α0 × α1 × α2 × α3 × α4 × α5 × α6 × α7 × α8 × α9 × α10 × α11 × α12 × α13 × α14 → Prop := fun t => R t.1 t.2.1 t.2.2.1 t.2.2.2.1 t.2.2.2.2.1 t.2.2.2.2.2.1 t.2.2.2.2.2.2.1 t.2.2.2.2.2.2.2.1 t.2.2.2.2.2.2.2.2.1 t.2.2.2.2.2.2.2.2.2.1 t.2.2.2.2.2.2.2.2.2.2.1 t.2.2.2.2.2.2.2.2.2.2.2.1 t.2.2.2.2.2.2.2.2.2.2.2.2.1 t.2.2.2.2.2.2.2.2.2.2.2.2.2.1 t.2.2.2.2.2.2.2.2.2.2.2.2.2.2
theorem wp_so15 {α0 α1 α2 α3 α4 α5 α6 α7 α8 α9 α10 α11 α12 α13 α14 : Type} {a0 : α0} {a1 : α1} {a2 : α2} {a3 : α3} {a4 : α4} {a5 : α5} {a6 : α6} {a7 : α7} {a8 : α8} {a9 : α9} {a10 : α10} {a11 : α11} {a12 : α12} {a13 : α13} {a14 : α14} {R : α0 → α1 → α2 → α3 → α4 → α5 → α6 → α7 → α8 → α9 → α10 → α11 → α12 → α13 → α14 → Prop} (h : R a0 a1 a2 a3 a4 a5 a6 a7 a8 a9 a10 a11 a12 a13 a14) : wp (some (a0, a1, a2, a3, a4, a5, a6, a7, a8, a9, a10, a11, a12, a13, a14)) (cu15 R) := ⟨_, rfl, h⟩
theorem wp_bd15 {α0 α1 α2 α3 α4 α5 α6 α7 α8 α9 α10 α11 α12 α13 α14 β : Type} {x : Option (α0 × α1 × α2 × α3 × α4 × α5 × α6 × α7 × α8 × α9 × α10 × α11 × α12 × α13 × α14)} {k : α0 → α1 → α2 → α3 → α4 → α5 → α6 → α7 → α8 → α9 → α10 → α11 → α12 → α13 → α14 → Option β} {R : α0 → α1 → α2 → α3 → α4 → α5 → α6 → α7 → α8 → α9 → α10 → α11 → α12 → α13 → α14 → Prop} {Q : β → Prop} (h : wp x (cu15 R)) (g : ∀ a0 a1 a2 a3 a4 a5 a6 a7 a8 a9 a10 a11 a12 a13 a14, R a0 a1 a2 a3 a4 a5 a6 a7 a8 a9 a10 a11 a12 a13 a14 → wp (k a0 a1 a2 a3 a4 a5 a6 a7 a8 a9 a10 a11 a12 a13 a14) Q) : wp (mm_bd15 x k) Q := by
  obtain ⟨⟨a0, a1, a2, a3, a4, a5, a6, a7, a8, a9, a10, a11, a12, a13, a14⟩, e, q⟩ := h
  rw [e]
  exact g a0 a1 a2 a3 a4 a5 a6 a7 a8 a9 a10 a11 a12 a13 a14 q
theorem wp_in15 {α0 α1 α2 α3 α4 α5 α6 α7 α8 α9 α10 α11 α12 α13 α14 β : Type} {x : Option (α0 × α1 × α2 × α3 × α4 × α5 × α6 × α7 × α8 × α9 × α10 × α11 × α12 × α13 × α14)} {k : α0 → α1 → α2 → α3 → α4 → α5 → α6 → α7 → α8 → α9 → α10 → α11 → α12 → α13 → α14 → Option β} {Q : β → Prop} (h : wp x (cu15 (fun a0 a1 a2 a3 a4 a5 a6 a7 a8 a9 a10 a11 a12 a13 a14 => wp (k a0 a1 a2 a3 a4 a5 a6 a7 a8 a9 a10 a11 a12 a13 a14) Q))) : wp (mm_bd15 x k) Q := wp_bd15 h (fun _ _ _ _ _ _ _ _ _ _ _ _ _ _ _ q => q)
theorem wp_cu15 {α0 α1 α2 α3 α4 α5 α6 α7 α8 α9 α10 α11 α12 α13 α14 : Type} {x : Option (α0 × α1 × α2 × α3 × α4 × α5 × α6 × α7 × α8 × α9 × α10 × α11 × α12 × α13 × α14)} {R R' : α0 → α1 → α2 → α3 → α4 → α5 → α6 → α7 → α8 → α9 → α10 → α11 → α12 → α13 → α14 → Prop} (h : wp x (cu15 R)) (g : ∀ a0 a1 a2 a3 a4 a5 a6 a7 a8 a9 a10 a11 a12 a13 a14, R a0 a1 a2 a3 a4 a5 a6 a7 a8 a9 a10 a11 a12 a13 a14 → R' a0 a1 a2 a3 a4 a5 a6 a7 a8 a9 a10 a11 a12 a13 a14) : wp x (cu15 R') := by
  obtain ⟨⟨a0, a1, a2, a3, a4, a5, a6, a7, a8, a9, a10, a11, a12, a13, a14⟩, e, q⟩ := h
  exact ⟨_, e, g a0 a1 a2 a3 a4 a5 a6 a7 a8 a9 a10 a11 a12 a13 a14 q⟩
def cu16 {α0 α1 α2 α3 α4 α5 α6 α7 α8 α9 α10 α11 α12 α13 α14 α15 : Type} (R : α0 → α1 → α2 → α3 → α4 → α5 → α6 → α7 → α8 → α9 → α10 → α11 → α12 → α13 → α14 → α15 → Prop) : α0 × α1 × α2 × α3 × α4 × α5 × α6 × α7 × α8 × α9 × α10 × α11 × α12 × α13 × α14 × α15 → Prop := fun t => R t.1 t.2.1 t.2.2.1 t.2.2.2.1 t.2.2.2.2.1 t.2.2.2.2.2.1 t.2.2.2.2.2.2.1 t.2.2.2.2.2.2.2.1 t.2.2.2.2.2.2.2.2.1 t.2.2.2.2.2.2.2.2.2.1 t.2.2.2.2.2.2.2.2.2.2.1 t.2.2.2.2.2.2.2.2.2.2.2.1 t.2.2.2.2.2.2.2.2.2.2.2.2.1 t.2.2.2.2.2.2.2.2.2.2.2.2.2.1 t.2.2.2.2.2.2.2.2.2.2.2.2.2.2.1 t.2.2.2.2.2.2.2.2.2.2.2.2.2.2.2
theorem wp_so16 {α0 α1 α2 α3 α4 α5 α6 α7 α8 α9 α10 α11 α12 α13 α14 α15 : Type} {a0 : α0} {a1 : α1} {a2 : α2} {a3 : α3} {a4 : α4} {a5 : α5} {a6 : α6} {a7 : α7} {a8 : α8} {a9 : α9} {a10 : α10} {a11 : α11} {a12 : α12} {a13 : α13} {a14 : α14} {a15 : α15} {R : α0 → α1 → α2 → α3 → α4 → α5 → α6 → α7 → α8 → α9 → α10 → α11 → α12 → α13 → α14 → α15 → Prop} (h : R a0 a1 a2 a3 a4 a5 a6 a7 a8 a9 a10 a11 a12 a13 a14 a15) : wp (some (a0, a1, a2, a3, a4, a5, a6, a7, a8, a9, a10, a11, a12, a13, a14, a15)) (cu16 R) := ⟨_, rfl, h⟩
theorem wp_bd16 {α0 α1 α2 α3 α4 α5 α6 α7 α8 α9 α10 α11 α12 α13 α14 α15 β : Type} {x : Option (α0 × α1 × α2 × α3 × α4 × α5 × α6 × α7 × α8 × α9 × α10 × α11 × α12 × α13 × α14 × α15)} {k : α0 → α1 → α2 → α3 → α4 → α5 → α6 → α7 → α8 → α9 → α10 → α11 → α12 → α13 → α14 → α15 → Option β} {R : α0 → α1 → α2 → α3 → α4 → α5 → α6 → α7 → α8 → α9 → α10 → α11 → α12 → α13 → α14 → α15 → Prop} {Q : β → Prop} (h : wp x (cu16 R)) (g : ∀ a0 a1 a2 a3 a4 a5 a6 a7 a8 a9 a10 a11 a12 a13 a14 a15, R a0 a1 a2 a3 a4 a5 a6 a7 a8 a9 a10 a11 a12 a13 a14 a15 → wp (k a0 a1 a2 a3 a4 a5 a6 a7 a8 a9 a10 a11 a12 a13 a14 a15) Q) : wp (mm_bd16 x k) Q := by
  obtain ⟨⟨a0, a1, a2, a3, a4, a5, a6, a7, a8, a9, a10, a11, a12, a13, a14, a15⟩, e, q⟩ := h
  rw [e]
  exact g a0 a1 a2 a3 a4 a5 a6 a7 a8 a9 a10 a11 a12 a13 a14 a15 q
theorem wp_in16 {α0 α1 α2 α3 α4 α5 α6 α7 α8 α9 α10 α11 α12 α13 α14 α15 β : Type} {x : Option (α0 × α1 × α2 × α3 × α4 × α5 × α6 × α7 × α8 × α9 × α10 × α11 × α12 × α13 × α14 × α15)} {k : α0 → α1 → α2 → α3 → α4 → α5 → α6 → α7 → α8 → α9 → α10 → α11 → α12 → α13 → α14 → α15 → Option β} {Q : β → Prop} (h : wp x (cu16 (fun a0 a1 a2 a3 a4 a5 a6 a7 a8 a9 a10 a11 a12 a13 a14 a15 => wp (k a0 a1 a2 a3 a4 a5 a6 a7 a8 a9 a10 a11 a12 a13 a14 a15) Q))) : wp (mm_bd16 x k) Q := wp_bd16 h (fun _ _ _ _ _ _ _ _ _ _ _ _ _ _ _ _ q => q)
theorem wp_cu16 {α0 α1 α2 α3 α4 α5 α6 α7 α8 α9 α10 α11 α12 α13 α14 α15 : Type} {x : Option (α0 × α1 × α2 × α3 × α4 × α5 × α6 × α7 × α8 × α9 × α10 × α11 × α12 × α13 × α14 × α15)} {R R' : α0 → α1 → α2 → α3 → α4 → α5 → α6 → α7 → α8 → α9 → α10 → α11 → α12 → α13 → α14 → α15 → Prop} (h : wp x (cu16 R)) (g : ∀ a0 a1 a2 a3 a4 a5 a6 a7 a8 a9 a10 a11 a12 a13 a14 a15, R a0 a1 a2 a3 a4 a5 a6 a7 a8 a9 a10 a11 a12 a13 a14 a15 → R' a0 a1 a2 a3 a4 a5 a6 a7 a8 a9 a10 a11 a12 a13 a14 a15) : wp x (cu16 R') := by
  obtain ⟨⟨a0, a1, a2, a3, a4, a5, a6, a7, a8, a9, a10, a11, a12, a13, a14, a15⟩, e, q⟩ := h
  exact ⟨_, e, g a0 a1 a2 a3 a4 a5 a6 a7 a8 a9 a10 a11 a12 a13 a14 a15 q⟩
def cu18 {α0 α1 α2 α3 α4 α5 α6 α7 α8 α9 α10 α11 α12 α13 α14 α15 α16 α17 : Type} (R : α0 → α1 → α2 → α3 → α4 → α5 → α6 → α7 → α8 → α9 → α10 → α11 → α12 → α13 → α14 → α15 → α16 → α17 → Prop) : α0 × α1 × α2 × α3 × α4 × α5 × α6 × α7 × α8 × α9 × α10 × α11 × α12 × α13 × α14 × α15 × α16 × α17 → Prop := fun t => R t.1 t.2.1 t.2.2.1 t.2.2.2.1 t.2.2.2.2.1 t.2.2.2.2.2.1 t.2.2.2.2.2.2.1 t.2.2.2.2.2.2.2.1 t.2.2.2.2.2.2.2.2.1 t.2.2.2.2.2.2.2.2.2.1 t.2.2.2.2.2.2.2.2.2.2.1 t.2.2.2.2.2.2.2.2.2.2.2.1 t.2.2.2.2.2.2.2.2.2.2.2.2.1 t.2.2.2.2.2.2.2.2.2.2.2.2.2.1 t.2.2.2.2.2.2.2.2.2.2.2.2.2.2.1 t.2.2.2.2.2.2.2.2.2.2.2.2.2.2.2.1 t.2.2.2.2.2.2.2.2.2.2.2.2.2.2.2.2.1 t.2.2.2.2.2.2.2.2.2.2.2.2.2.2.2.2.2
theorem wp_so18 {α0 α1 α2 α3 α4 α5 α6 α7 α8 α9 α10 α11 α12 α13 α14 α15 α16 α17 : Type} {a0 : α0} {a1 : α1} {a2 : α2} {a3 : α3} {a4 : α4} {a5 : α5} {a6 : α6} {a7 : α7} {a8 : α8} {a9 : α9} {a10 : α10} {a11 : α11} {a12 : α12} {a13 : α13} {a14 : α14} {a15 : α15} {a16 : α16} {a17 : α17} {R : α0 → α1 → α2 → α3 → α4 → α5 → α6 → α7 → α8 → α9 → α10 → α11 → α12 → α13 → α14 → α15 → α16 → α17 → Prop} (h : R a0 a1 a2 a3 a4 a5 a6 a7 a8 a9 a10 a11 a12 a13 a14 a15 a16 a17) : wp (some (a0, a1, a2, a3, a4, a5, a6, a7, a8, a9, a10, a11, a12, a13, a14, a15, a16, a17)) (cu18 R) := ⟨_, rfl, h⟩
theorem wp_bd18 {α0 α1 α2 α3 α4 α5 α6 α7 α8 α9 α10 α11 α12 α13 α14 α15 α16 α17 β : Type} {x : Option (α0 × α1 × α2 × α3 × α4 × α5 × α6 × α7 × α8 × α9 × α10 × α11 × α12 × α13 × α14 × α15 × α16 × α17)} {k : α0 → α1 → α2 → α3 → α4 → α5 → α6 → α7 → α8 → α9 → α10 → α11 → α12 → α13 → α14 → α15 → α16 → α17 → Option β} {R : α0 → α1 → α2 → α3 → α4 → α5 → α6 → α7 → α8 → α9 → α10 → α11 → α12 → α13 → α14 → α15 → α16 → α17 → Prop} {Q : β → Prop} (h : wp x (cu18 R)) (g : ∀ a0 a1 a2 a3 a4 a5 a6 a7 a8 a9 a10 a11 a12 a13 a14 a15 a16 a17, R a0 a1 a2 a3 a4 a5 a6 a7 a8 a9 a10 a11 a12 a13 a14 a15 a16 a17 → wp (k a0 a1 a2 a3 a4 a5 a6 a7 a8 a9 a10 a11 a12 a13 a14 a15 a16 a17) Q) : wp (mm_bd18 x k) Q := by
  obtain ⟨⟨a0, a1, a2, a3, a4, a5, a6, a7, a8, a9, a10, a11, a12, a13, a14, a15, a16, a17⟩, e, q⟩ := h
  rw [e]
  exact g a0 a1 a2 a3 a4 a5 a6 a7 a8 a9 a10 a11 a12 a13 a14 a15 a16 a17 q
theorem wp_in18 {α0 α1 α2 α3 α4 α5 α6 α7 α8 α9 α10 α11 α12 α13 α14 α15 α16 α17 β : Type} {x : Option (α0 × α1 × α2 × α3 × α4 × α5 × α6 × α7 × α8 × α9 × α10 × α11 × α12 × α13 × α14 × α15 × α16 × α17)} {k : α0 → α1 → α2 → α3 → α4 → α5 → α6 → α7 → α8 → α9 → α10 → α11 → α12 → α13 → α14 → α15 → α16 → α17 → Option β} {Q : β → Prop} (h : wp x (cu18 (fun a0 a1 a2 a3 a4 a5 a6 a7 a8 a9 a10 a11 a12 a13 a14 a15 a16 a17 => wp (k a0 a1 a2 a3 a4 a5 a6 a7 a8 a9 a10 a11 a12 a13 a14 a15 a16 a17) Q))) : wp (mm_bd18 x k) Q := wp_bd18 h (fun _ _ _ _ _ _ _ _ _ _ _ _ _ _ _ _ _ _ q => q)
theorem wp_cu18 {α0 α1 α2 α3 α4 α5 α6 α7 α8 α9 α10 α11 α12 α13 α14 α15 α16 α17 : Type} {x : Option (α0 × α1 × α2 × α3 × α4 × α5 × α6 × α7 × α8 × α9 × α10 × α11 × α12 × α13 × α14 × α15 × α16 × α17)} {R R' : α0 → α1 → α2 → α3 → α4 → α5 → α6 → α7 → α8 → α9 → α10 → α11 → α12 → α13 → α14 → α15 → α16 → α17 → Prop} (h : wp x (cu18 R)) (g : ∀ a0 a1 a2 a3 a4 a5 a6 a7 a8 a9 a10 a11 a12 a13 a14 a15 a16 a17, R a0 a1 a2 a3 a4 a5 a6 a7 a8 a9 a10 a11 a12 a13 a14 a15 a16 a17 → R' a0 a1 a2 a3 a4 a5 a6 a7 a8 a9 a10 a11 a12 a13 a14 a15 a16 a17) : wp x (cu18 R') := by
  obtain ⟨⟨a0, a1, a2, a3, a4, a5, a6, a7, a8, a9, a10, a11, a12, a13, a14, a15, a16, a17⟩, e, q⟩ := h
  exact ⟨_, e, g a0 a1 a2 a3 a4 a5 a6 a7 a8 a9 a10 a11 a12 a13 a14 a15 a16 a17 q⟩
def cu20 {α0 α1 α2 α3 α4 α5 α6 α7 α8 α9 α10 α11 α12 α13 α14 α15 α16 α17 α18 α19 : Type} (R : α0 → α1 → α2 → α3 → α4 → α5 → α6 → α7 → α8 → α9 → α10 → α11 → α12 → α13 → α14 → α15 → α16 → α17 → α18 → α19 → Prop) : α0 × α1 × α2 × α3 × α4 × α5 × α6 × α7 × α8 × α9 × α10 × α11 × α12 × α13 × α14 × α15 × α16 × α17 × α18 × α19 → Prop := fun t => R t.1 t.2.1 t.2.2.1 t.2.2.2.1 t.2.2.2.2.1 t.2.2.2.2.2.1 t.2.2.2.2.2.2.1 t.2.2.2.2.2.2.2.1 t.2.2.2.2.2.2.2.2.1 t.2.2.2.2.2.2.2.2.2.1 t.2.2.2.2.2.2.2.2.2.2.1 t.2.2.2.2.2.2.2.2.2.2.2.1 t.2.2.2.2.2.2.2.2.2.2.2.2.1 t.2.2.2.2.2.2.2.2.2.2.2.2.2.1 t.2.2.2.2.2.2.2.2.2.2.2.2.2.2.1 t.2.2.2.2.2.2.2.2.2.2.2.2.2.2.2.1 t.2.2.2.2.2.2.2.2.2.2.2.2.2.2.2.2.1 t.2.2.2.2.2.2.2.2.2.2.2.2.2.2.2.2.2.1 t.2.2.2.2.2.2.2.2.2.2.2.2.2.2.2.2.2.2.1 t.2.2.2.2.2.2.2.2.2.2.2.2.2.2.2.2.2.2.2
theorem wp_so20 {α0 α1 α2 α3 α4 α5 α6 α7 α8 α9 α10 α11 α12 α13 α14 α15 α16 α17 α18 α19 : Type} {a0 : α0} {a1 : α1} {a2 : α2} {a3 : α3} {a4 : α4} {a5 : α5} {a6 : α6} {a7 : α7} {a8 : α8} {a9 : α9} {a10 : α10} {a11 : α11} {a12 : α12} {a13 : α13} {a14 : α14} {a15 : α15} {a16 : α16} {a17 : α17} {a18 : α18} {a19 : α19} {R : α0 → α1 → α2 → α3 → α4 → α5 → α6 → α7 → α8 → α9 → α10 → α11 → α12 → α13 → α14 → α15 → α16 → α17 → α18 → α19 → Prop} (h : R a0 a1 a2 a3 a4 a5 a6 a7 a8 a9 a10 a11 a12 a13 a14 a15 a16 a17 a18 a19) : wp (some (a0, a1, a2, a3, a4, a5, a6, a7, a8, a9, a10, a11, a12, a13, a14, a15, a16, a17, a18, a19)) (cu20 R) := ⟨_, rfl, h⟩
theorem wp_bd20 {α0 α1 α2 α3 α4 α5 α6 α7 α8 α9 α10 α11 α12 α13 α14 α15 α16 α17 α18 α19 β : Type} {x : Option (α0 × α1 × α2 × α3 × α4 × α5 × α6 × α7 × α8 × α9 × α10 × α11 × α12 × α13 × α14 × α15 × α16 × α17 × α18 × α19)} {k : α0 → α1 → α2 → α3 → α4 → α5 → α6 → α7 → α8 → α9 → α10 → α11 → α12 → α13 → α14 → α15 → α16 → α17 → α18 → α19 → Option β} {R : α0 → α1 → α2 → α3 → α4 → α5 → α6 → α7 → α8 → α9 → α10 → α11 → α12 → α13 → α14 → α15 → α16 → α17 → α18 → α19 → Prop} {Q : β → Prop} (h : wp x (cu20 R)) (g : ∀ a0 a1 a2 a3 a4 a5 a6 a7 a8 a9 a10 a11 a12 a13 a14 a15 a16 a17 a18 a19, R a0 a1 a2 a3 a4 a5 a6 a7 a8 a9 a10 a11 a12 a13 a14 a15 a16 a17 a18 a19 → wp (k a0 a1 a2 a3 a4 a5 a6 a7 a8 a9 a10 a11 a12 a13 a14 a15 a16 a17 a18 a19) Q) : wp (mm_bd20 x k) Q := by
  obtain ⟨⟨a0, a1, a2, a3, a4, a5, a6, a7, a8, a9, a10, a11, a12, a13, a14, a15, a16, a17, a18, a19⟩, e, q⟩ := h
  rw [e]
  exact g a0 a1 a2 a3 a4 a5 a6 a7 a8 a9 a10 a11 a12 a13 a14 a15 a16 a17 a18 a19 q
theorem wp_in20 {α0 α1 α2 α3 α4 α5 α6 α7 α8 α9 α10 α11 α12 α13 α14 α15 α16 α17 α18 α19 β : Type} {x : Option (α0 × α1 × α2 × α3 × α4 × α5 × α6 × α7 × α8 × α9 × α10 × α11 × α12 × α13 × α14 × α15 × α16 × α17 × α18 × α19)} {k : α0 → α1 → α2 → α3 → α4 → α5 → α6 → α7 → α8 → α9 → α10 → α11 → α12 → α13 → α14 → α15 → α16 → α17 → α18 → α19 → Option β} {Q : β → Prop} (h : wp x (cu20 (fun a0 a1 a2 a3 a4 a5 a6 a7 a8 a9 a10 a11 a12 a13 a14 a15 a16 a17 a18 a19 => wp (k a0 a1 a2 a3 a4 a5 a6 a7 a8 a9 a10 a11 a12 a13 a14 a15 a16 a17 a18 a19) Q))) : wp (mm_bd20 x k) Q := wp_bd20 h (fun _ _ _ _ _ _ _ _ _ _ _ _ _ _ _ _ _ _ _ _ q => q)
theorem wp_cu20 {α0 α1 α2 α3 α4 α5 α6 α7 α8 α9 α10 α11 α12 α13 α14 α15 α16 α17 α18 α19 : Type} {x : Option (α0 × α1 × α2 × α3 × α4 × α5 × α6 × α7 × α8 × α9 × α10 × α11 × α12 × α13 × α14 × α15 × α16 × α17 × α18 × α19)} {R R' : α0 → α1 → α2 → α3 → α4 → α5 → α6 → α7 → α8 → α9 → α10 → α11 → α12 → α13 → α14 → α15 → α16 → α17 → α18 → α19 → Prop} (h : wp x (cu20 R)) (g : ∀ a0 a1 a2 a3 a4 a5 a6 a7 a8 a9 a10 a11 a12 a13 a14 a15 a16 a17 a18 a19, R a0 a1 a2 a3 a4 a5 a6 a7 a8 a9 a10 a11 a12 a13 a14 a15 a16 a17 a18 a19 → R' a0 a1 a2 a3 a4 a5 a6 a7 a8 a9 a10 a11 a12 a13 a14 a15 a16 a17 a18 a19) : wp x (cu20 R') := by
  obtain ⟨⟨a0, a1, a2, a3, a4, a5, a6, a7, a8, a9, a10, a11, a12, a13, a14, a15, a16, a17, a18, a19⟩, e, q⟩ := h
  exact ⟨_, e, g a0 a1 a2 a3 a4 a5 a6 a7 a8 a9 a10 a11 a12 a13 a14 a15 a16 a17 a18 a19 q⟩
def cu21 {α0 α1 α2 α3 α4 α5 α6 α7 α8 α9 α10 α11 α12 α13 α14 α15 α16 α17 α18 α19 α20 : Type} (R : α0 → α1 → α2 → α3 → α4 → α5 → α6 → α7 → α8 → α9 → α10 → α11 → α12 → α13 → α14 → α15 → α16 → α17 → α18 → α19 → α20 → Prop) : α0 × α1 × α2 × α3 × α4 × α5 × α6 × α7 × α8 × α9 × α10 × α11 × α12 × α13 × α14 × α15 × α16 × α17 × α18 × α19 × α20 → Prop := fun t => R t.1 t.2.1 t.2.2.1 t.2.2.2.1 t.2.2.2.2.1 t.2.2.2.2.2.1 t.2.2.2.2.2.2.1 t.2.2.2.2.2.2.2.1 t.2.2.2.2.2.2.2.2.1 t.2.2.2.2.2.2.2.2.2.1 t.2.2.2.2.2.2.2.2.2.2.1 t.2.2.2.2.2.2.2.2.2.2.2.1 t.2.2.2.2.2.2.2.2.2.2.2.2.1 t.2.2.2.2.2.2.2.2.2.2.2.2.2.1 t.2.2.2.2.2.2.2.2.2.2.2.2.2.2.1 t.2.2.2.2.2.2.2.2.2.2.2.2.2.2.2.1 t.2.2.2.2.2.2.2.2.2.2.2.2.2.2.2.2.1 t.2.2.2.2.2.2.2.2.2.2.2.2.2.2.2.2.2.1 t.2.2.2.2.2.2.2.2.2.2.2.2.2.2.2.2.2.2.1 t.2.2.2.2.2.2.2.2.2.2.2.2.2.2.2.2.2.2.2.1 t.2.2.2.2.2.2.2.2.2.2.2.2.2.2.2.2.2.2.2.2
theorem wp_so21 {α0 α1 α2 α3 α4 α5 α6 α7 α8 α9 α10 α11 α12 α13 α14 α15 α16 α17 α18 α19 α20 : Type} {a0 : α0} {a1 : α1} {a2 : α2} {a3 : α3} {a4 : α4} {a5 : α5} {a6 : α6} {a7 : α7} {a8 : α8} {a9 : α9} {a10 : α10} {a11 : α11} {a12 : α12} {a13 : α13} {a14 : α14} {a15 : α15} {a16 : α16} {a17 : α17} {a18 : α18} {a19 : α19} {a20 : α20} {R : α0 → α1 → α2 → α3 → α4 → α5 → α6 → α7 → α8 → α9 → α10 → α11 → α12 → α13 → α14 → α15 → α16 → α17 → α18 → α19 → α20 → Prop} (h : R a0 a1 a2 a3 a4 a5 a6 a7 a8 a9 a10 a11 a12 a13 a14 a15 a16 a17 a18 a19 a20) : wp (some (a0, a1, a2, a3, a4, a5, a6, a7, a8, a9, a10, a11, a12, a13, a14, a15, a16, a17, a18, a19, a20)) (cu21 R) := ⟨_, rfl, h⟩
theorem wp_bd21 {α0 α1 α2 α3 α4 α5 α6 α7 α8 α9 α10 α11 α12 α13 α14 α15 α16 α17 α18 α19 α20 β : Type} {x : Option (α0 × α1 × α2 × α3 × α4 × α5 × α6 × α7 × α8 × α9 × α10 × α11 × α12 × α13 × α14 × α15 × α16 × α17 × α18 × α19 × α20)} {k : α0 → α1 → α2 → α3 → α4 → α5 → α6 → α7 → α8 → α9 → α10 → α11 → α12 → α13 → α14 → α15 → α16 → α17 → α18 → α19 → α20 → Option β} {R : α0 → α1 → α2 → α3 → α4 → α5 → α6 → α7 → α8 → α9 → α10 → α11 → α12 → α13 → α14 → α15 → α16 → α17 → α18 → α19 → α20 → Prop} {Q : β → Prop} (h : wp x (cu21 R)) (g : ∀ a0 a1 a2 a3 a4 a5 a6 a7 a8 a9 a10 a11 a12 a13 a14 a15 a16 a17 a18 a19 a20, R a0 a1 a2 a3 a4 a5 a6 a7 a8 a9 a10 a11 a12 a13 a14 a15 a16 a17 a18 a19 a20 → wp (k a0 a1 a2 a3 a4 a5 a6 a7 a8 a9 a10 a11 a12 a13 a14 a15 a16 a17 a18 a19 a20) Q) : wp (mm_bd21 x k) Q := by
  obtain ⟨⟨a0, a1, a2, a3, a4, a5, a6, a7, a8, a9, a10, a11, a12, a13, a14, a15, a16, a17, a18, a19, a20⟩, e, q⟩ := h
  rw [e]
  exact g a0 a1 a2 a3 a4 a5 a6 a7 a8 a9 a10 a11 a12 a13 a14 a15 a16 a17 a18 a19 a20 q
theorem wp_in21 {α0 α1 α2 α3 α4 α5 α6 α7 α8 α9 α10 α11 α12 α13 α14 α15 α16 α17 α18 α19 α20 β : Type} {x : Option (α0 × α1 × α2 × α3 × α4 × α5 × α6 × α7 × α8 × α9 × α10 × α11 × α12 × α13 × α14 × α15 × α16 × α17 × α18 × α19 × α20)} {k : α0 → α1 → α2 → α3 → α4 → α5 → α6 → α7 → α8 → α9 → α10 → α11 → α12 → α13 → α14 → α15 → α16 → α17 → α18 → α19 → α20 → Option β} {Q : β → Prop} (h : wp x (cu21 (fun a0 a1 a2 a3 a4 a5 a6 a7 a8 a9 a10 a11 a12 a13 a14 a15 a16 a17 a18 a19 a20 => wp (k a0 a1 a2 a3 a4 a5 a6 a7 a8 a9 a10 a11 a12 a13 a14 a15 a16 a17 a18 a19 a20) Q))) : wp (mm_bd21 x k) Q := wp_bd21 h (fun _ _ _ _ _ _ _ _ _ _ _ _ _ _ _ _ _ _ _ _ _ q => q)
theorem wp_cu21 {α0 α1 α2 α3 α4 α5 α6 α7 α8 α9 α10 α11 α12 α13 α14 α15 α16 α17 α18 α19 α20 : Type} {x : Option (α0 × α1 × α2 × α3 × α4 × α5 × α6 × α7 × α8 × α9 × α10 × α11 × α12 × α13 × α14 × α15 × α16 × α17 × α18 × α19 × α20)} {R R' : α0 → α1 → α2 → α3 → α4 → α5 → α6 → α7 → α8 → α9 → α10 → α11 → α12 → α13 → α14 → α15 → α16 → α17 → α18 → α19 → α20 → Prop} (h : wp x (cu21 R)) (g : ∀ a0 a1 a2 a3 a4 a5 a6 a7 a8 a9 a10 a11 a12 a13 a14 a15 a16 a17 a18 a19 a20, R a0 a1 a2 a3 a4 a5 a6 a7 a8 a9 a10 a11 a12 a13 a14 a15 a16 a17 a18 a19 a20 → R' a0 a1 a2 a3 a4 a5 a6 a7 a8 a9 a10 a11 a12 a13 a14 a15 a16 a17 a18 a19 a20) : wp x (cu21 R') := by
  obtain ⟨⟨a0, a1, a2, a3, a4, a5, a6, a7, a8, a9, a10, a11, a12, a13, a14, a15, a16, a17, a18, a19, a20⟩, e, q⟩ := h
  exact ⟨_, e, g a0 a1 a2 a3 a4 a5 a6 a7 a8 a9 a10 a11 a12 a13 a14 a15 a16 a17 a18 a19 a20 q⟩
def cu23 {α0 α1 α2 α3 α4 α5 α6 α7 α8 α9 α10 α11 α12 α13 α14 α15 α16 α17 α18 α19 α20 α21 α22 : Type} (R : α0 → α1 → α2 → α3 → α4 → α5 → α6 → α7 → α8 → α9 → α10 → α11 → α12 → α13 → α14 → α15 → α16 → α17 → α18 → α19 → α20 → α21 → α22 → Prop) : α0 × α1 × α2 × α3 × α4 × α5 × α6 × α7 × α8 × α9 × α10 × α11 × α12 × α13 × α14 × α15 × α16 × α17 × α18 × α19 × α20 × α21 × α22 → Prop := fun t => R t.1 t.2.1 t.2.2.1 t.2.2.2.1 t.2.2.2.2.1 t.2.2.2.2.2.1 t.2.2.2.2.2.2.1 t.2.2.2.2.2.2.2.1 t.2.2.2.2.2.2.2.2.1 t.2.2.2.2.2.2.2.2.2.1 t.2.2.2.2.2.2.2.2.2.2.1 t.2.2.2.2.2.2.2.2.2.2.2.1 t.2.2.2.2.2.2.2.2.2.2.2.2.1 t.2.2.2.2.2.2.2.2.2.2.2.2.2.1 t.2.2.2.2.2.2.2.2.2.2.2.2.2.2.1 t.2.2.2.2.2.2.2.2.2.2.2.2.2.2.2.1 t.2.2.2.2.2.2.2.2.2.2.2.2.2.2.2.2.1 t.2.2.2.2.2.2.2.2.2.2.2.2.2.2.2.2.2.1 t.2.2.2.2.2.2.2.2.2.2.2.2.2.2.2.2.2.2.1 t.2.2.2.2.2.2.2.2.2.2.2.2.2.2.2.2.2.2.2.1 t.2.2.2.2.2.2.2.2.2.2.2.2.2.2.2.2.2.2.2.2.1 t.2.2.2.2.2.2.2.2.2.2.2.2.2.2.2.2.2.2.2.2.2.1 t.2.2.2.2.2.2.2.2.2.2.2.2.2.2.2.2.2.2.2.2.2.2
theorem wp_so23 {α0 α1 α2 α3 α4 α5 α6 α7 α8 α9 α10 α11 α12 α13 α14 α15 α16 α17 α18 α19 α20 α21 α22 : Type} {a0 : α0} {a1 : α1} {a2 : α2} {a3 : α3} {a4 : α4} {a5 : α5} {a6 : α6} {a7 : α7} {a8 : α8} {a9 : α9} {a10 : α10} {a11 : α11} {a12 : α12} {a13 : α13} {a14 : α14} {a15 : α15} {a16 : α16} {a17 : α17} {a18 : α18} {a19 : α19} {a20 : α20} {a21 : α21} {a22 : α22} {R : α0 → α1 → α2 → α3 → α4 → α5 → α6 → α7 → α8 → α9 → α10 → α11 → α12 → α13 → α14 → α15 → α16 → α17 → α18 → α19 → α20 → α21 → α22 → Prop} (h : R a0 a1 a2 a3 a4 a5 a6 a7 a8 a9 a10 a11 a12 a13 a14 a15 a16 a17 a18 a19 a20 a21 a22) : wp (some (a0, a1, a2, a3, a4, a5, a6, a7, a8, a9, a10, a11, a12, a13, a14, a15, a16, a17, a18, a19, a20, a21, a22)) (cu23 R) := ⟨_, rfl, h⟩
theorem wp_bd23 {α0 α1 α2 α3 α4 α5 α6 α7 α8 α9 α10 α11 α12 α13 α14 α15 α16 α17 α18 α19 α20 α21 α22 β : Type} {x : Option (α0 × α1 × α2 × α3 × α4 × α5 × α6 × α7 × α8 × α9 × α10 × α11 × α12 × α13 × α14 × α15 × α16 × α17 × α18 × α19 × α20 × α21 × α22)} {k : α0 → α1 → α2 → α3 → α4 → α5 → α6 → α7 → α8 → α9 → α10 → α11 → α12 → α13 → α14 → α15 → α16 → α17 → α18 → α19 → α20 → α21 → α22 → Option β} {R : α0 → α1 → α2 → α3 → α4 → α5 → α6 → α7 → α8 → α9 → α10 → α11 → α12 → α13 → α14 → α15 → α16 → α17 → α18 → α19 → α20 → α21 → α22 → Prop} {Q : β → Prop} (h : wp x (cu23 R)) (g : ∀ a0 a1 a2 a3 a4 a5 a6 a7 a8 a9 a10 a11 a12 a13 a14 a15 a16 a17 a18 a19 a20 a21 a22, R a0 a1 a2 a3 a4 a5 a6 a7 a8 a9 a10 a11 a12 a13 a14 a15 a16 a17 a18 a19 a20 a21 a22 → wp (k a0 a1 a2 a3 a4 a5 a6 a7 a8 a9 a10 a11 a12 a13 a14 a15 a16 a17 a18 a19 a20 a21 a22) Q) : wp (mm_bd23 x k) Q := by
  obtain ⟨⟨a0, a1, a2, a3, a4, a5, a6, a7, a8, a9, a10, a11, a12, a13, a14, a15, a16, a17, a18, a19, a20, a21, a22⟩, e, q⟩ := h
  rw [e]
  exact g a0 a1 a2 a3 a4 a5 a6 a7 a8 a9 a10 a11 a12 a13 a14 a15 a16 a17 a18 a19 a20 a21 a22 q
theorem wp_in23 {α0 α1 α2 α3 α4 α5 α6 α7 α8 α9 α10 α11 α12 α13 α14 α15 α16 α17 α18 α19 α20 α21 α22 β : Type} {x : Option (α0 × α1 × α2 × α3 × α4 × α5 × α6 × α7 × α8 × α9 × α10 × α11 × α12 × α13 × α14 × α15 × α16 × α17 × α18 × α19 × α20 × α21 × α22)} {k : α0 → α1 → α2 → α3 → α4 → α5 → α6 → α7 → α8 → α9 → α10 → α11 → α12 → α13 → α14 → α15 → α16 → α17 → α18 → α19 → α20 → α21 → α22 → Option β} {Q : β → Prop} (h : wp x (cu23 (fun a0 a1 a2 a3 a4 a5 a6 a7 a8 a9 a10 a11 a12 a13 a14 a15 a16 a17 a18 a19 a20 a21 a22 => wp (k a0 a1 a2 a3 a4 a5 a6 a7 a8 a9 a10 a11 a12 a13 a14 a15 a16 a17 a18 a19 a20 a21 a22) Q))) : wp (mm_bd23 x k) Q := wp_bd23 h (fun _ _ _ _ _ _ _ _ _ _ _ _ _ _ _ _ _ _ _ _ _ _ _ q => q)
theorem wp_cu23 {α0 α1 α2 α3 α4 α5 α6 α7 α8 α9 α10 α11 α12 α13 α14 α15 α16 α17 α18 α19 α20 α21 α22 : Type} {x : Option (α0 × α1 × α2 × α3 × α4 × α5 × α6 × α7 × α8 × α9 × α10 × α11 × α12 × α13 × α14 × α15 × α16 × α17 × α18 × α19 × α20 × α21 × α22)} {R R' : α0 → α1 → α2 → α3 → α4 → α5 → α6 → α7 → α8 → α9 → α10 → α11 → α12 → α13 → α14 → α15 → α16 → α17 → α18 → α19 → α20 → α21 → α22 → Prop} (h : wp x (cu23 R)) (g : ∀ a0 a1 a2 a3 a4 a5 a6 a7 a8 a9 a10 a11 a12 a13 a14 a15 a16 a17 a18 a19 a20 a21 a22, R a0 a1 a2 a3 a4 a5 a6 a7 a8 a9 a10 a11 a12 a13 a14 a15 a16 a17 a18 a19 a20 a21 a22 → R' a0 a1 a2 a3 a4 a5 a6 a7 a8 a9 a10 a11 a12 a13 a14 a15 a16 a17 a18 a19 a20 a21 a22) : wp x (cu23 R') := by
  obtain ⟨⟨a0, a1, a2, a3, a4, a5, a6, a7, a8, a9, a10, a11, a12, a13, a14, a15, a16, a17, a18, a19, a20, a21, a22⟩, e, q⟩ := h
  exact ⟨_, e, g a0 a1 a2 a3 a4 a5 a6 a7 a8 a9 a10 a11 a12 a13 a14 a15 a16 a17 a18 a19 a20 a21 a22 q⟩
def cu24 {α0 α1 α2 α3 α4 α5 α6 α7 α8 α9 α10 α11 α12 α13 α14 α15 α16 α17 α18 α19 α20 α21 α22 α23 : Type} (R : α0 → α1 → α2 → α3 → α4 → α5 → α6 → α7 → α8 → α9 → α10 → α11 → α12 → α13 → α14 → α15 → α16 → α17 → α18 → α19 → α20 → α21 → α22 → α23 → Prop) : α0 × α1 × α2 × α3 × α4 × α5 × α6 × α7 × α8 × α9 × α10 × α11 × α12 × α13 × α14 × α15 × α16 × α17 × α18 × α19 × α20 × α21 × α22 × α23 → Prop := fun t => R t.1 t.2.1 t.2.2.1 t.2.2.2.1 t.2.2.2.2.1 t.2.2.2.2.2.1 t.2.2.2.2.2.2.1 t.2.2.2.2.2.2.2.1 t.2.2.2.2.2.2.2.2.1 t.2.2.2.2.2.2.2.2.2.1 t.2.2.2.2.2.2.2.2.2.2.1 t.2.2.2.2.2.2.2.2.2.2.2.1 t.2.2.2.2.2.2.2.2.2.2.2.2.1 t.2.2.2.2.2.2.2.2.2.2.2.2.2.1 t.2.2.2.2.2.2.2.2.2.2.2.2.2.2.1 t.2.2.2.2.2.2.2.2.2.2.2.2.2.2.2.1 t.2.2.2.2.2.2.2.2.2.2.2.2.2.2.2.2.1 t.2.2.2.2.2.2.2.2.2.2.2.2.2.2.2.2.2.1 t.2.2.2.2.2.2.2.2.2.2.2.2.2.2.2.2.2.2.1 t.2.2.2.2.2.2.2.2.2.2.2.2.2.2.2.2.2.2.2.1 t.2.2.2.2.2.2.2.2.2.2.2.2.2.2.2.2.2.2.2.2.1 t.2.2.2.2.2.2.2.2.2.2.2.2.2.2.2.2.2.2.2.2.2.1 t.2.2.2.2.2.2.2.2.2.2.2.2.2.2.2.2.2.2.2.2.2.2.1 t.2.2.2.2.2.2.2.2.2.2.2.2.2.2.2.2.2.2.2.2.2.2.2
theorem wp_so24 {α0 α1 α2 α3 α4 α5 α6 α7 α8 α9 α10 α11 α12 α13 α14 α15 α16 α17 α18 α19 α20 α21 α22 α23 : Type} {a0 : α0} {a1 : α1} {a2 : α2} {a3 : α3} {a4 : α4} {a5 : α5} {a6 : α6} {a7 : α7} {a8 : α8} {a9 : α9} {a10 : α10} {a11 : α11} {a12 : α12} {a13 : α13} {a14 : α14} {a15 : α15} {a16 : α16} {a17 : α17} {a18 : α18} {a19 : α19} {a20 : α20} {a21 : α21} {a22 : α22} {a23 : α23} {R : α0 → α1 → α2 → α3 → α4 → α5 → α6 → α7 → α8 → α9 → α10 → α11 → α12 → α13 → α14 → α15 → α16 → α17 → α18 → α19 → α20 → α21 → α22 → α23 → Prop} (h : R a0 a1 a2 a3 a4 a5 a6 a7 a8 a9 a10 a11 a12 a13 a14 a15 a16 a17 a18 a19 a20 a21 a22 a23) : wp (some (a0, a1, a2, a3, a4, a5, a6, a7, a8, a9, a10, a11, a12, a13, a14, a15, a16, a17, a18, a19, a20, a21, a22, a23)) (cu24 R) := ⟨_, rfl, h⟩
theorem wp_cu24 {α0 α1 α2 α3 α4 α5 α6 α7 α8 α9 α10 α11 α12 α13 α14 α15 α16 α17 α18 α19 α20 α21 α22 α23 : Type} {x : Option (α0 × α1 × α2 × α3 × α4 × α5 × α6 × α7 × α8 × α9 × α10 × α11 × α12 × α13 × α14 × α15 × α16 × α17 × α18 × α19 × α20 × α21 × α22 × α23)} {R R' : α0 → α1 → α2 → α3 → α4 → α5 → α6 → α7 → α8 → α9 → α10 → α11 → α12 → α13 → α14 → α15 → α16 → α17 → α18 → α19 → α20 → α21 → α22 → α23 → Prop} (h : wp x (cu24 R)) (g : ∀ a0 a1 a2 a3 a4 a5 a6 a7 a8 a9 a10 a11 a12 a13 a14 a15 a16 a17 a18 a19 a20 a21 a22 a23, R a0 a1 a2 a3 a4 a5 a6 a7 a8 a9 a10 a11 a12 a13 a14 a15 a16 a17 a18 a19 a20 a21 a22 a23 → R' a0 a1 a2 a3 a4 a5 a6 a7 a8 a9 a10 a11 a12 a13 a14 a15 a16 a17 a18 a19 a20 a21 a22 a23) : wp x (cu24 R') := by
  obtain ⟨⟨a0, a1, a2, a3, a4, a5, a6, a7, a8, a9, a10, a11, a12, a13, a14, a15, a16, a17, a18, a19, a20, a21, a22, a23⟩, e, q⟩ := h
  exact ⟨_, e, g a0 a1 a2 a3 a4 a5 a6 a7 a8 a9 a10 a11 a12 a13 a14 a15 a16 a17 a18 a19 a20 a21 a22 a23 q⟩
def cu25 {α0 α1 α2 α3 α4 α5 α6 α7 α8 α9 α10 α11 α12 α13 α14 α15 α16 α17 α18 α19 α20 α21 α22 α23 α24 : Type} (R : α0 → α1 → α2 → α3 → α4 → α5 → α6 → α7 → α8 → α9 → α10 → α11 → α12 → α13 → α14 → α15 → α16 → α17 → α18 → α19 → α20 → α21 → α22 → α23 → α24 → Prop) : α0 × α1 × α2 × α3 × α4 × α5 × α6 × α7 × α8 × α9 × α10 × α11 × α12 × α13 × α14 × α15 × α16 × α17 × α18 × α19 × α20 × α21 × α22 × α23 × α24 → Prop := fun t => R t.1 t.2.1 t.2.2.1 t.2.2.2.1 t.2.2.2.2.1 t.2.2.2.2.2.1 t.2.2.2.2.2.2.1 t.2.2.2.2.2.2.2.1 t.2.2.2.2.2.2.2.2.1 t.2.2.2.2.2.2.2.2.2.1 t.2.2.2.2.2.2.2.2.2.2.1 t.2.2.2.2.2.2.2.2.2.2.2.1 t.2.2.2.2.2.2.2.2.2.2.2.2.1 t.2.2.2.2.2.2.2.2.2.2.2.2.2.1 t.2.2.2.2.2.2.2.2.2.2.2.2.2.2.1 t.2.2.2.2.2.2.2.2.2.2.2.2.2.2.2.1 t.2.2.2.2.2.2.2.2.2.2.2.2.2.2.2.2.1 t.2.2.2.2.2.2.2.2.2.2.2.2.2.2.2.2.2.1 t.2.2.2.2.2.2.2.2.2.2.2.2.2.2.2.2.2.2.1 t.2.2.2.2.2.2.2.2.2.2.2.2.2.2.2.2.2.2.2.1 t.2.2.2.2.2.2.2.2.2.2.2.2.2.2.2.2.2.2.2.2.1 t.2.2.2.2.2.2.2.2.2.2.2.2.2.2.2.2.2.2.2.2.2.1 t.2.2.2.2.2.2.2.2.2.2.2.2.2.2.2.2.2.2.2.2.2.2.1 t.2.2.2.2.2.2.2.2.2.2.2.2.2.2.2.2.2.2.2.2.2.2.2.1 t.2.2.2.2.2.2.2.2.2.2.2.2.2.2.2.2.2.2.2.2.2.2.2.2
theorem wp_so25 {α0 α1 α2 α3 α4 α5 α6 α7 α8 α9 α10 α11 α12 α13 α14 α15 α16 α17 α18 α19 α20 α21 α22 α23 α24 : Type} {a0 : α0} {a1 : α1} {a2 : α2} {a3 : α3} {a4 : α4} {a5 : α5} {a6 : α6} {a7 : α7} {a8 : α8} {a9 : α9} {a10 : α10} {a11 : α11} {a12 : α12} {a13 : α13} {a14 : α14} {a15 : α15} {a16 : α16} {a17 : α17} {a18 : α18} {a19 : α19} {a20 : α20} {a21 : α21} {a22 : α22} {a23 : α23} {a24 : α24} {R : α0 → α1 → α2 → α3 → α4 → α5 → α6 → α7 → α8 → α9 → α10 → α11 → α12 → α13 → α14 → α15 → α16 → α17 → α18 → α19 → α20 → α21 → α22 → α23 → α24 → Prop} (h : R a0 a1 a2 a3 a4 a5 a6 a7 a8 a9 a10 a11 a12 a13 a14 a15 a16 a17 a18 a19 a20 a21 a22 a23 a24) : wp (some (a0, a1, a2, a3, a4, a5, a6, a7, a8, a9, a10, a11, a12, a13, a14, a15, a16, a17, a18, a19, a20, a21, a22, a23, a24)) (cu25 R) := ⟨_, rfl, h⟩
theorem wp_bd25 {α0 α1 α2 α3 α4 α5 α6 α7 α8 α9 α10 α11 α12 α13 α14 α15 α16 α17 α18 α19 α20 α21 α22 α23 α24 β : Type} {x : Option (α0 × α1 × α2 × α3 × α4 × α5 × α6 × α7 × α8 × α9 × α10 × α11 × α12 × α13 × α14 × α15 × α16 × α17 × α18 × α19 × α20 × α21 × α22 × α23 × α24)} {k : α0 → α1 → α2 → α3 → α4 → α5 → α6 → α7 → α8 → α9 → α10 → α11 → α12 → α13 → α14 → α15 → α16 → α17 → α18 → α19 → α20 → α21 → α22 → α23 → α24 → Option β} {R : α0 → α1 → α2 → α3 → α4 → α5 → α6 → α7 → α8 → α9 → α10 → α11 → α12 → α13 → α14 → α15 → α16 → α17 → α18 → α19 → α20 → α21 → α22 → α23 → α24 → Prop} {Q : β → Prop} (h : wp x (cu25 R)) (g : ∀ a0 a1 a2 a3 a4 a5 a6 a7 a8 a9 a10 a11 a12 a13 a14 a15 a16 a17 a18 a19 a20 a21 a22 a23 a24, R a0 a1 a2 a3 a4 a5 a6 a7 a8 a9 a10 a11 a12 a13 a14 a15 a16 a17 a18 a19 a20 a21 a22 a23 a24 → wp (k a0 a1 a2 a3 a4 a5 a6 a7 a8 a9 a10 a11 a12 a13 a14 a15 a16 a17 a18 a19 a20 a21 a22 a23 a24) Q) : wp (mm_bd25 x k) Q := by
  obtain ⟨⟨a0, a1, a2, a3, a4, a5, a6, a7, a8, a9, a10, a11, a12, a13, a14, a15, a16, a17, a18, a19, a20, a21, a22, a23, a24⟩, e, q⟩ := h
  rw [e]
  exact g a0 a1 a2 a3 a4 a5 a6 a7 a8 a9 a10 a11 a12 a13 a14 a15 a16 a17 a18 a19 a20 a21 a22 a23 a24 q
theorem wp_in25 {α0 α1 α2 α3 α4 α5 α6 α7 α8 α9 α10 α11 α12 α13 α14 α15 α16 α17 α18 α19 α20 α21 α22 α23 α24 β : Type} {x : Option (α0 × α1 × α2 × α3 × α4 × α5 × α6 × α7 × α8 × α9 × α10 × α11 × α12 × α13 × α14 × α15 × α16 × α17 × α18 × α19 × α20 × α21 × α22 × α23 × α24)} {k : α0 → α1 → α2 → α3 → α4 → α5 → α6 → α7 → α8 → α9 → α10 → α11 → α12 → α13 → α14 → α15 → α16 → α17 → α18 → α19 → α20 → α21 → α22 → α23 → α24 → Option β} {Q : β → Prop} (h : wp x (cu25 (fun a0 a1 a2 a3 a4 a5 a6 a7 a8 a9 a10 a11 a12 a13 a14 a15 a16 a17 a18 a19 a20 a21 a22 a23 a24 => wp (k a0 a1 a2 a3 a4 a5 a6 a7 a8 a9 a10 a11 a12 a13 a14 a15 a16 a17 a18 a19 a20 a21 a22 a23 a24) Q))) : wp (mm_bd25 x k) Q := wp_bd25 h (fun _ _ _ _ _ _ _ _ _ _ _ _ _ _ _ _ _ _ _ _ _ _ _ _ _ q => q)
theorem wp_cu25 {α0 α1 α2 α3 α4 α5 α6 α7 α8 α9 α10 α11 α12 α13 α14 α15 α16 α17 α18 α19 α20 α21 α22 α23 α24 : Type} {x : Option (α0 × α1 × α2 × α3 × α4 × α5 × α6 × α7 × α8 × α9 × α10 × α11 × α12 × α13 × α14 × α15 × α16 × α17 × α18 × α19 × α20 × α21 × α22 × α23 × α24)} {R R' : α0 → α1 → α2 → α3 → α4 → α5 → α6 → α7 → α8 → α9 → α10 → α11 → α12 → α13 → α14 → α15 → α16 → α17 → α18 → α19 → α20 → α21 → α22 → α23 → α24 → Prop} (h : wp x (cu25 R)) (g : ∀ a0 a1 a2 a3 a4 a5 a6 a7 a8 a9 a10 a11 a12 a13 a14 a15 a16 a17 a18 a19 a20 a21 a22 a23 a24, R a0 a1 a2 a3 a4 a5 a6 a7 a8 a9 a10 a11 a12 a13 a14 a15 a16 a17 a18 a19 a20 a21 a22 a23 a24 → R' a0 a1 a2 a3 a4 a5 a6 a7 a8 a9 a10 a11 a12 a13 a14 a15 a16 a17 a18 a19 a20 a21 a22 a23 a24) : wp x (cu25 R') := by
  obtain ⟨⟨a0, a1, a2, a3, a4, a5, a6, a7, a8, a9, a10, a11, a12, a13, a14, a15, a16, a17, a18, a19, a20, a21, a22, a23, a24⟩, e, q⟩ := h
  exact ⟨_, e, g a0 a1 a2 a3 a4 a5 a6 a7 a8 a9 a10 a11 a12 a13 a14 a15 a16 a17 a18 a19 a20 a21 a22 a23 a24 q⟩
def cu27 {α0 α1 α2 α3 α4 α5 α6 α7 α8 α9 α10 α11 α12 α13 α14 α15 α16 α17 α18 α19 α20 α21 α22 α23 α24 α25 α26 : Type} (R : α0 → α1 → α2 → α3 → α4 → α5 → α6 → α7 → α8 → α9 → α10 → α11 → α12 → α13 → α14 → α15 → α16 → α17 → α18 → α19 → α20 → α21 → α22 → α23 → α24 → α25 → α26 → Prop) : α0 × α1 × α2 × α3 × α4 × α5 × α6 × α7 × α8 × α9 × α10 × α11 × α12 × α13 × α14 × α15 × α16 × α17 × α18 × α19 × α20 × α21 × α22 × α23 × α24 × α25 × α26 → Prop := fun t => R t.1 t.2.1 t.2.2.1 t.2.2.2.1 t.2.2.2.2.1 t.2.2.2.2.2.1 t.2.2.2.2.2.2.1 t.2.2.2.2.2.2.2.1 t.2.2.2.2.2.2.2.2.1 t.2.2.2.2.2.2.2.2.2.1 t.2.2.2.2.2.2.2.2.2.2.1 t.2.2.2.2.2.2.2.2.2.2.2.1 t.2.2.2.2.2.2.2.2.2.2.2.2.1 t.2.2.2.2.2.2.2.2.2.2.2.2.2.1 t.2.2.2.2.2.2.2.2.2.2.2.2.2.2.1 t.2.2.2.2.2.2.2.2.2.2.2.2.2.2.2.1 t.2.2.2.2.2.2.2.2.2.2.2.2.2.2.2.2.1 t.2.2.2.2.2.2.2.2.2.2.2.2.2.2.2.2.2.1 t.2.2.2.2.2.2.2.2.2.2.2.2.2.2.2.2.2.2.1 t.2.2.2.2.2.2.2.2.2.2.2.2.2.2.2.2.2.2.2.1 t.2.2.2.2.2.2.2.2.2.2.2.2.2.2.2.2.2.2.2.2.1 t.2.2.2.2.2.2.2.2.2.2.2.2.2.2.2.2.2.2.2.2.2.1 t.2.2.2.2.2.2.2.2.2.2.2.2.2.2.2.2.2.2.2.2.2.2.1 t.2.2.2.2.2.2.2.2.2.2.2.2.2.2.2.2.2.2.2.2.2.2.2.1 t.2.2.2.2.2.2.2.2.2.2.2.2.2.2.2.2.2.2.2.2.2.2.2.2.1 t.2.2.2.2.2.2.2.2.2.2.2.2.2.2.2.2.2.2.2.2.2.2.2.2.2.1 t.2.2.2.2.2.2.2.2.2.2.2.2.2.2.2.2.2.2.2.2.2.2.2.2.2.2
theorem wp_so27 {α0 α1 α2 α3 α4 α5 α6 α7 α8 α9 α10 α11 α12 α13 α14 α15 α16 α17 α18 α19 α20 α21 α22 α23 α24 α25 α26 : Type} {a0 : α0} {a1 : α1} {a2 : α2} {a3 : α3} {a4 : α4} {a5 : α5} {a6 : α6} {a7 : α7} {a8 : α8} {a9 : α9} {a10 : α10} {a11 : α11} {a12 : α12} {a13 : α13} {a14 : α14} {a15 : α15} {a16 : α16} {a17 : α17} {a18 : α18} {a19 : α19} {a20 : α20} {a21 : α21} {a22 : α22} {a23 : α23} {a24 : α24} {a25 : α25} {a26 : α26} {R : α0 → α1 → α2 → α3 → α4 → α5 → α6 → α7 → α8 → α9 → α10 → α11 → α12 → α13 → α14 → α15 → α16 → α17 → α18 → α19 → α20 → α21 → α22 → α23 → α24 → α25 → α26 → Prop} (h : R a0 a1 a2 a3 a4 a5 a6 a7 a8 a9 a10 a11 a12 a13 a14 a15 a16 a17 a18 a19 a20 a21 a22 a23 a24 a25 a26) : wp (some (a0, a1, a2, a3, a4, a5, a6, a7, a8, a9, a10, a11, a12, a13, a14, a15, a16, a17, a18, a19, a20, a21, a22, a23, a24, a25, a26)) (cu27 R) := ⟨_, rfl, h⟩
theorem wp_bd27 {α0 α1 α2 α3 α4 α5 α6 α7 α8 α9 α10 α11 α12 α13 α14 α15 α16 α17 α18 α19 α20 α21 α22 α23 α24 α25 α26 β : Type} {x : Option (α0 × α1 × α2 × α3 × α4 × α5 × α6 × α7 × α8 × α9 × α10 × α11 × α12 × α13 × α14 × α15 × α16 × α17 × α18 × α19 × α20 × α21 × α22 × α23 × α24 × α25 × α26)} {k : α0 → α1 → α2 → α3 → α4 → α5 → α6 → α7 → α8 → α9 → α10 → α11 → α12 → α13 → α14 → α15 → α16 → α17 → α18 → α19 → α20 → α21 → α22 → α23 → α24 → α25 → α26 → Option β} {R : α0 → α1 → α2 → α3 → α4 → α5 → α6 → α7 → α8 → α9 → α10 → α11 → α12 → α13 → α14 → α15 → α16 → α17 → α18 → α19 → α20 → α21 → α22 → α23 → α24 → α25 → α26 → Prop} {Q : β → Prop} (h : wp x (cu27 R)) (g : ∀ a0 a1 a2 a3 a4 a5 a6 a7 a8 a9 a10 a11 a12 a13 a14 a15 a16 a17 a18 a19 a20 a21 a22 a23 a24 a25 a26, R a0 a1 a2 a3 a4 a5 a6 a7 a8 a9 a10 a11 a12 a13 a14 a15 a16 a17 a18 a19 a20 a21 a22 a23 a24 a25 a26 → wp (k a0 a1 a2 a3 a4 a5 a6 a7 a8 a9 a10 a11 a12 a13 a14 a15 a16 a17 a18 a19 a20 a21 a22 a23 a24 a25 a26) Q) : wp (mm_bd27 x k) Q := by
  obtain ⟨⟨a0, a1, a2, a3, a4, a5, a6, a7, a8, a9, a10, a11, a12, a13, a14, a15, a16, a17, a18, a19, a20, a21, a22, a23, a24, a25, a26⟩, e, q⟩ := h
  rw [e]
  exact g a0 a1 a2 a3 a4 a5 a6 a7 a8 a9 a10 a11 a12 a13 a14 a15 a16 a17 a18 a19 a20 a21 a22 a23 a24 a25 a26 q
theorem wp_in27 {α0 α1 α2 α3 α4 α5 α6 α7 α8 α9 α10 α11 α12 α13 α14 α15 α16 α17 α18 α19 α20 α21 α22 α23 α24 α25 α26 β : Type} {x : Option (α0 × α1 × α2 × α3 × α4 × α5 × α6 × α7 × α8 × α9 × α10 × α11 × α12 × α13 × α14 × α15 × α16 × α17 × α18 × α19 × α20 × α21 × α22 × α23 × α24 × α25 × α26)} {k : α0 → α1 → α2 → α3 → α4 → α5 → α6 → α7 → α8 → α9 → α10 → α11 → α12 → α13 → α14 → α15 → α16 → α17 → α18 → α19 → α20 → α21 → α22 → α23 → α24 → α25 → α26 → Option β} {Q : β → Prop} (h : wp x (cu27 (fun a0 a1 a2 a3 a4 a5 a6 a7 a8 a9 a10 a11 a12 a13 a14 a15 a16 a17 a18 a19 a20 a21 a22 a23 a24 a25 a26 => wp (k a0 a1 a2 a3 a4 a5 a6 a7 a8 a9 a10 a11 a12 a13 a14 a15 a16 a17 a18 a19 a20 a21 a22 a23 a24 a25 a26) Q))) : wp (mm_bd27 x k) Q := wp_bd27 h (fun _ _ _ _ _ _ _ _ _ _ _ _ _ _ _ _ _ _ _ _ _ _ _ _ _ _ _ q => q)
theorem wp_cu27 {α0 α1 α2 α3 α4 α5 α6 α7 α8 α9 α10 α11 α12 α13 α14 α15 α16 α17 α18 α19 α20 α21 α22 α23 α24 α25 α26 : Type} {x : Option (α0 × α1 × α2 × α3 × α4 × α5 × α6 × α7 × α8 × α9 × α10 × α11 × α12 × α13 × α14 × α15 × α16 × α17 × α18 × α19 × α20 × α21 × α22 × α23 × α24 × α25 × α26)} {R R' : α0 → α1 → α2 → α3 → α4 → α5 → α6 → α7 → α8 → α9 → α10 → α11 → α12 → α13 → α14 → α15 → α16 → α17 → α18 → α19 → α20 → α21 → α22 → α23 → α24 → α25 → α26 → Prop} (h : wp x (cu27 R)) (g : ∀ a0 a1 a2 a3 a4 a5 a6 a7 a8 a9 a10 a11 a12 a13 a14 a15 a16 a17 a18 a19 a20 a21 a22 a23 a24 a25 a26, R a0 a1 a2 a3 a4 a5 a6 a7 a8 a9 a10 a11 a12 a13 a14 a15 a16 a17 a18 a19 a20 a21 a22 a23 a24 a25 a26 → R' a0 a1 a2 a3 a4 a5 a6 a7 a8 a9 a10 a11 a12 a13 a14 a15 a16 a17 a18 a19 a20 a21 a22 a23 a24 a25 a26) : wp x (cu27 R') := by
  obtain ⟨⟨a0, a1, a2, a3, a4, a5, a6, a7, a8, a9, a10, a11, a12, a13, a14, a15, a16, a17, a18, a19, a20, a21, a22, a23, a24, a25, a26⟩, e, q⟩ := h
  exact ⟨_, e, g a0 a1 a2 a3 a4 a5 a6 a7 a8 a9 a10 a11 a12 a13 a14 a15 a16 a17 a18 a19 a20 a21 a22 a23 a24 a25 a26 q⟩
def cu28 {α0 α1 α2 α3 α4 α5 α6 α7 α8 α9 α10 α11 α12 α13 α14 α15 α16 α17 α18 α19 α20 α21 α22 α23 α24 α25 α26 α27 : Type} (R : α0 → α1 → α2 → α3 → α4 → α5 → α6 → α7 → α8 → α9 → α10 → α11 → α12 → α13 → α14 → α15 → α16 → α17 → α18 → α19 → α20 → α21 → α22 → α23 → α24 → α25 → α26 → α27 → Prop) : α0 × α1 × α2 × α3 × α4 × α5 × α6 × α7 × α8 × α9 × α10 × α11 × α12 × α13 × α14 × α15 × α16 × α17 × α18 × α19 × α20 × α21 × α22 × α23 × α24 × α25 × α26 × α27 → Prop := fun t => R t.1 t.2.1 t.2.2.1 t.2.2.2.1 t.2.2.2.2.1 t.2.2.2.2.2.1 t.2.2.2.2.2.2.1 t.2.2.2.2.2.2.2.1 t.2.2.2.2.2.2.2.2.1 t.2.2.2.2.2.2.2.2.2.1 t.2.2.2.2.2.2.2.2.2.2.1 t.2.2.2.2.2.2.2.2.2.2.2.1 t.2.2.2.2.2.2.2.2.2.2.2.2.1 t.2.2.2.2.2.2.2.2.2.2.2.2.2.1 t.2.2.2.2.2.2.2.2.2.2.2.2.2.2.1 t.2.2.2.2.2.2.2.2.2.2.2.2.2.2.2.1 t.2.2.2.2.2.2.2.2.2.2.2.2.2.2.2.2.1 t.2.2.2.2.2.2.2.2.2.2.2.2.2.2.2.2.2.1 t.2.2.2.2.2.2.2.2.2.2.2.2.2.2.2.2.2.2.1 t.2.2.2.2.2.2.2.2.2.2.2.2.2.2.2.2.2.2.2.1 t.2.2.2.2.2.2.2.2.2.2.2.2.2.2.2.2.2.2.2.2.1 t.2.2.2.2.2.2.2.2.2.2.2.2.2.2.2.2.2.2.2.2.2.1 t.2.2.2.2.2.2.2.2.2.2.2.2.2.2.2.2.2.2.2.2.2.2.1 t.2.2.2.2.2.2.2.2.2.2.2.2.2.2.2.2.2.2.2.2.2.2.2.1 t.2.2.2.2.2.2.2.2.2.2.2.2.2.2.2.2.2.2.2.2.2.2.2.2.1 t.2.2.2.2.2.2.2.2.2.2.2.2.2.2.2.2.2.2.2.2.2.2.2.2.2.1 t.2.2.2.2.2.2.2.2.2.2.2.2.2.2.2.2.2.2.2.2.2.2.2.2.2.2.1 t.2.2.2.2.2.2.2.2.2.2.2.2.2.2.2.2.2.2.2.2.2.2.2.2.2.2.2
theorem wp_so28 {α0 α1 α2 α3 α4 α5 α6 α7 α8 α9 α10 α11 α12 α13 α14 α15 α16 α17 α18 α19 α20 α21 α22 α23 α24 α25 α26 α27 : Type} {a0 : α0} {a1 : α1} {a2 : α2} {a3 : α3} {a4 : α4} {a5 : α5} {a6 : α6} {a7 : α7} {a8 : α8} {a9 : α9} {a10 : α10} {a11 : α11} {a12 : α12} {a13 : α13} {a14 : α14} {a15 : α15} {a16 : α16} {a17 : α17} {a18 : α18} {a19 : α19} {a20 : α20} {a21 : α21} {a22 : α22} {a23 : α23} {a24 : α24} {a25 : α25} {a26 : α26} {a27 : α27} {R : α0 → α1 → α2 → α3 → α4 → α5 → α6 → α7 → α8 → α9 → α10 → α11 → α12 → α13 → α14 → α15 → α16 → α17 → α18 → α19 → α20 → α21 → α22 → α23 → α24 → α25 → α26 → α27 → Prop} (h : R a0 a1 a2 a3 a4 a5 a6 a7 a8 a9 a10 a11 a12 a13 a14 a15 a16 a17 a18 a19 a20 a21 a22 a23 a24 a25 a26 a27) : wp (some (a0, a1, a2, a3, a4, a5, a6, a7, a8, a9, a10, a11, a12, a13, a14, a15, a16, a17, a18, a19, a20, a21, a22, a23, a24, a25, a26, a27)) (cu28 R) := ⟨_, rfl, h⟩
theorem wp_bd28 {α0 α1 α2 α3 α4 α5 α6 α7 α8 α9 α10 α11 α12 α13 α14 α15 α16 α17 α18 α19 α20 α21 α22 α23 α24 α25 α26 α27 β : Type} {x : Option (α0 × α1 × α2 × α3 × α4 × α5 × α6 × α7 × α8 × α9 × α10 × α11 × α12 × α13 × α14 × α15 × α16 × α17 × α18 × α19 × α20 × α21 × α22 × α23 × α24 × α25 × α26 × α27)} {k : α0 → α1 → α2 → α3 → α4 → α5 → α6 → α7 → α8 → α9 → α10 → α11 → α12 → α13 → α14 → α15 → α16 → α17 → α18 → α19 → α20 → α21 → α22 → α23 → α24 → α25 → α26 → α27 → Option β} {R : α0 → α1 → α2 → α3 → α4 → α5 → α6 → α7 → α8 → α9 → α10 → α11 → α12 → α13 → α14 → α15 → α16 → α17 → α18 → α19 → α20 → α21 → α22 → α23 → α24 → α25 → α26 → α27 → Prop} {Q : β → Prop} (h : wp x (cu28 R)) (g : ∀ a0 a1 a2 a3 a4 a5 a6 a7 a8 a9 a10 a11 a12 a13 a14 a15 a16 a17 a18 a19 a20 a21 a22 a23 a24 a25 a26 a27, R a0 a1 a2 a3 a4 a5 a6 a7 a8 a9 a10 a11 a12 a13 a14 a15 a16 a17 a18 a19 a20 a21 a22 a23 a24 a25 a26 a27 → wp (k a0 a1 a2 a3 a4 a5 a6 a7 a8 a9 a10 a11 a12 a13 a14 a15 a16 a17 a18 a19 a20 a21 a22 a23 a24 a25 a26 a27) Q) : wp (mm_bd28 x k) Q := by
  obtain ⟨⟨a0, a1, a2, a3, a4, a5, a6, a7, a8, a9, a10, a11, a12, a13, a14, a15, a16, a17, a18, a19, a20, a21, a22, a23, a24, a25, a26, a27⟩, e, q⟩ := h
  rw [e]
  exact g a0 a1 a2 a3 a4 a5 a6 a7 a8 a9 a10 a11 a12 a13 a14 a15 a16 a17 a18 a19 a20 a21 a22 a23 a24 a25 a26 a27 q
theorem wp_in28 {α0 α1 α2 α3 α4 α5 α6 α7 α8 α9 α10 α11 α12 α13 α14 α15 α16 α17 α18 α19 α20 α21 α22 α23 α24 α25 α26 α27 β : Type} {x : Option (α0 × α1 × α2 × α3 × α4 × α5 × α6 × α7 × α8 × α9 × α10 × α11 × α12 × α13 × α14 × α15 × α16 × α17 × α18 × α19 × α20 × α21 × α22 × α23 × α24 × α25 × α26 × α27)} {k : α0 → α1 → α2 → α3 → α4 → α5 → α6 → α7 → α8 → α9 → α10 → α11 → α12 → α13 → α14 → α15 → α16 → α17 → α18 → α19 → α20 → α21 → α22 → α23 → α24 → α25 → α26 → α27 → Option β} {Q : β → Prop} (h : wp x (cu28 (fun a0 a1 a2 a3 a4 a5 a6 a7 a8 a9 a10 a11 a12 a13 a14 a15 a16 a17 a18 a19 a20 a21 a22 a23 a24 a25 a26 a27 => wp (k a0 a1 a2 a3 a4 a5 a6 a7 a8 a9 a10 a11 a12 a13 a14 a15 a16 a17 a18 a19 a20 a21 a22 a23 a24 a25 a26 a27) Q))) : wp (mm_bd28 x k) Q := wp_bd28 h (fun _ _ _ _ _ _ _ _ _ _ _ _ _ _ _ _ _ _ _ _ _ _ _ _ _ _ _ _ q => q)
theorem wp_cu28 {α0 α1 α2 α3 α4 α5 α6 α7 α8 α9 α10 α11 α12 α13 α14 α15 α16 α17 α18 α19 α20 α21 α22 α23 α24 α25 α26 α27 : Type} {x : Option (α0 × α1 × α2 × α3 × α4 × α5 × α6 × α7 × α8 × α9 × α10 × α11 × α12 × α13 × α14 × α15 × α16 × α17 × α18 × α19 × α20 × α21 × α22 × α23 × α24 × α25 × α26 × α27)} {R R' : α0 → α1 → α2 → α3 → α4 → α5 → α6 → α7 → α8 → α9 → α10 → α11 → α12 → α13 → α14 → α15 → α16 → α17 → α18 → α19 → α20 → α21 → α22 → α23 → α24 → α25 → α26 → α27 → Prop} (h : wp x (cu28 R)) (g : ∀ a0 a1 a2 a3 a4 a5 a6 a7 a8 a9 a10 a11 a12 a13 a14 a15 a16 a17 a18 a19 a20 a21 a22 a23 a24 a25 a26 a27, R a0 a1 a2 a3 a4 a5 a6 a7 a8 a9 a10 a11 a12 a13 a14 a15 a16 a17 a18 a19 a20 a21 a22 a23 a24 a25 a26 a27 → R' a0 a1 a2 a3 a4 a5 a6 a7 a8 a9 a10 a11 a12 a13 a14 a15 a16 a17 a18 a19 a20 a21 a22 a23 a24 a25 a26 a27) : wp x (cu28 R') := by
  obtain ⟨⟨a0, a1, a2, a3, a4, a5, a6, a7, a8, a9, a10, a11, a12, a13, a14, a15, a16, a17, a18, a19, a20, a21, a22, a23, a24, a25, a26, a27⟩, e, q⟩ := h
  exact ⟨_, e, g a0 a1 a2 a3 a4 a5 a6 a7 a8 a9 a10 a11 a12 a13 a14 a15 a16 a17 a18 a19 a20 a21 a22 a23 a24 a25 a26 a27 q⟩
def cu29 {α0 α1 α2 α3 α4 α5 α6 α7 α8 α9 α10 α11 α12 α13 α14 α15 α16 α17 α18 α19 α20 α21 α22 α23 α24 α25 α26 α27 α28 : Type} (R : α0 → α1 → α2 → α3 → α4 → α5 → α6 → α7 → α8 → α9 → α10 → α11 → α12 → α13 → α14 → α15 → α16 → α17 → α18 → α19 → α20 → α21 → α22 → α23 → α24 → α25 → α26 → α27 → α28 → Prop) : α0 × α1 × α2 × α3 × α4 × α5 × α6 × α7 × α8 × α9 × α10 × α11 × α12 × α13 × α14 × α15 × α16 × α17 × α18 × α19 × α20 × α21 × α22 × α23 × α24 × α25 × α26 × α27 × α28 → Prop := fun t => R t.1 t.2.1 t.2.2.1 t.2.2.2.1 t.2.2.2.2.1 t.2.2.2.2.2.1 t.2.2.2.2.2.2.1 t.2.2.2.2.2.2.2.1 t.2.2.2.2.2.2.2.2.1 t.2.2.2.2.2.2.2.2.2.1 t.2.2.2.2.2.2.2.2.2.2.1 t.2.2.2.2.2.2.2.2.2.2.2.1 t.2.2.2.2.2.2.2.2.2.2.2.2.1 t.2.2.2.2.2.2.2.2.2.2.2.2.2.1 t.2.2.2.2.2.2.2.2.2.2.2.2.2.2.1 t.2.2.2.2.2.2.2.2.2.2.2.2.2.2.2.1 t.2.2.2.2.2.2.2.2.2.2.2.2.2.2.2.2.1 t.2.2.2.2.2.2.2.2.2.2.2.2.2.2.2.2.2.1 t.2.2.2.2.2.2.2.2.2.2.2.2.2.2.2.2.2.2.1 t.2.2.2.2.2.2.2.2.2.2.2.2.2.2.2.2.2.2.2.1 t.2.2.2.2.2.2.2.2.2.2.2.2.2.2.2.2.2.2.2.2.1 t.2.2.2.2.2.2.2.2.2.2.2.2.2.2.2.2.2.2.2.2.2.1 t.2.2.2.2.2.2.2.2.2.2.2.2.2.2.2.2.2.2.2.2.2.2.1 t.2.2.2.2.2.2.2.2.2.2.2.2.2.2.2.2.2.2.2.2.2.2.2.1 t.2.2.2.2.2.2.2.2.2.2.2.2.2.2.2.2.2.2.2.2.2.2.2.2.1 t.2.2.2.2.2.2.2.2.2.2.2.2.2.2.2.2.2.2.2.2.2.2.2.2.2.1 t.2.2.2.2.2.2.2.2.2.2.2.2.2.2.2.2.2.2.2.2.2.2.2.2.2.2.1 t.2.2.2.2.2.2.2.2.2.2.2.2.2.2.2.2.2.2.2.2.2.2.2.2.2.2.2.1 t.2.2.2.2.2.2.2.2.2.2.2.2.2.2.2.2.2.2.2.2.2.2.2.2.2.2.2.2
theorem wp_so29 {α0 α1 α2 α3 α4 α5 α6 α7 α8 α9 α10 α11 α12 α13 α14 α15 α16 α17 α18 α19 α20 α21 α22 α23 α24 α25 α26 α27 α28 : Type} {a0 : α0} {a1 : α1} {a2 : α2} {a3 : α3} {a4 : α4} {a5 : α5} {a6 : α6} {a7 : α7} {a8 : α8} {a9 : α9} {a10 : α10} {a11 : α11} {a12 : α12} {a13 : α13} {a14 : α14} {a15 : α15} {a16 : α16} {a17 : α17} {a18 : α18} {a19 : α19} {a20 : α20} {a21 : α21} {a22 : α22} {a23 : α23} {a24 : α24} {a25 : α25} {a26 : α26} {a27 : α27} {a28 : α28} {R : α0 → α1 → α2 → α3 → α4 → α5 → α6 → α7 → α8 → α9 → α10 → α11 → α12 → α13 → α14 → α15 → α16 → α17 → α18 → α19 → α20 → α21 → α22 → α23 → α24 → α25 → α26 → α27 → α28 → Prop} (h : R a0 a1 a2 a3 a4 a5 a6 a7 a8 a9 a10 a11 a12 a13 a14 a15 a16 a17 a18 a19 a20 a21 a22 a23 a24 a25 a26 a27 a28) : wp (some (a0, a1, a2, a3, a4, a5, a6, a7, a8, a9, a10, a11, a12, a13, a14, a15, a16, a17, a18, a19, a20, a21, a22, a23, a24, a25, a26, a27, a28)) (cu29 R) := ⟨_, rfl, h⟩
theorem wp_cu29 {α0 α1 α2 α3 α4 α5 α6 α7 α8 α9 α10 α11 α12 α13 α14 α15 α16 α17 α18 α19 α20 α21 α22 α23 α24 α25 α26 α27 α28 : Type} {x : Option (α0 × α1 × α2 × α3 × α4 × α5 × α6 × α7 × α8 × α9 × α10 × α11 × α12 × α13 × α14 × α15 × α16 × α17 × α18 × α19 × α20 × α21 × α22 × α23 × α24 × α25 × α26 × α27 × α28)} {R R' : α0 → α1 → α2 → α3 → α4 → α5 → α6 → α7 → α8 → α9 → α10 → α11 → α12 → α13 → α14 → α15 → α16 → α17 → α18 → α19 → α20 → α21 → α22 → α23 → α24 → α25 → α26 → α27 → α28 → Prop} (h : wp x (cu29 R)) (g : ∀ a0 a1 a2 a3 a4 a5 a6 a7 a8 a9 a10 a11 a12 a13 a14 a15 a16 a17 a18 a19 a20 a21 a22 a23 a24 a25 a26 a27 a28, R a0 a1 a2 a3 a4 a5 a6 a7 a8 a9 a10 a11 a12 a13 a14 a15 a16 a17 a18 a19 a20 a21 a22 a23 a24 a25 a26 a27 a28 → R' a0 a1 a2 a3 a4 a5 a6 a7 a8 a9 a10 a11 a12 a13 a14 a15 a16 a17 a18 a19 a20 a21 a22 a23 a24 a25 a26 a27 a28) : wp x (cu29 R') := by
  obtain ⟨⟨a0, a1, a2, a3, a4, a5, a6, a7, a8, a9, a10, a11, a12, a13, a14, a15, a16, a17, a18, a19, a20, a21, a22, a23, a24, a25, a26, a27, a28⟩, e, q⟩ := h
  exact ⟨_, e, g a0 a1 a2 a3 a4 a5 a6 a7 a8 a9 a10 a11 a12 a13 a14 a15 a16 a17 a18 a19 a20 a21 a22 a23 a24 a25 a26 a27 a28 q⟩
def cu34 {α0 α1 α2 α3 α4 α5 α6 α7 α8 α9 α10 α11 α12 α13 α14 α15 α16 α17 α18 α19 α20 α21 α22 α23 α24 α25 α26 α27 α28 α29 α30 α31 α32 α33 : Type} (R : α0 → α1 → α2 → α3 → α4 → α5 → α6 → α7 → α8 → α9 → α10 → α11 → α12 → α13 → α14 → α15 → α16 → α17 → α18 → α19 → α20 → α21 → α22 → α23 → α24 → α25 → α26 → α27 → α28 → α29 → α30 → α31 → α32 → α33 → Prop) : α0 × α1 × α2 × α3 × α4 × α5 × α6 × α7 × α8 × α9 × α10 × α11 × α12 × α13 × α14 × α15 × α16 × α17 × α18 × α19 × α20 × α21 × α22 × α23 × α24 × α25 × α26 × α27 × α28 × α29 × α30 × α31 × α32 × α33 → Prop := fun t => R t.1 t.2.1 t.2.2.1 t.2.2.2.1 t.2.2.2.2.1 t.2.2.2.2.2.1 t.2.2.2.2.2.2.1 t.2.2.2.2.2.2.2.1 t.2.2.2.2.2.2.2.2.1 t.2.2.2.2.2.2.2.2.2.1 t.2.2.2.2.2.2.2.2.2.2.1 t.2.2.2.2.2.2.2.2.2.2.2.1 t.2.2.2.2.2.2.2.2.2.2.2.2.1 t.2.2.2.2.2.2.2.2.2.2.2.2.2.1 t.2.2.2.2.2.2.2.2.2.2.2.2.2.2.1 t.2.2.2.2.2.2.2.2.2.2.2.2.2.2.2.1 t.2.2.2.2.2.2.2.2.2.2.2.2.2.2.2.2.1 t.2.2.2.2.2.2.2.2.2.2.2.2.2.2.2.2.2.1 t.2.2.2.2.2.2.2.2.2.2.2.2.2.2.2.2.2.2.1 t.2.2.2.2.2.2.2.2.2.2.2.2.2.2.2.2.2.2.2.1 t.2.2.2.2.2.2.2.2.2.2.2.2.2.2.2.2.2.2.2.2.1 t.2.2.2.2.2.2.2.2.2.2.2.2.2.2.2.2.2.2.2.2.2.1 t.2.2.2.2.2.2.2.2.2.2.2.2.2.2.2.2.2.2.2.2.2.2.1 t.2.2.2.2.2.2.2.2.2.2.2.2.2.2.2.2.2.2.2.2.2.2.2.1 t.2.2.2.2.2.2.2.2.2.2.2.2.2.2.2.2.2.2.2.2.2.2.2.2.1 t.2.2.2.2.2.2.2.2.2.2.2.2.2.2.2.2.2.2.2.2.2.2.2.2.2.1 t.2.2.2.2.2.2.2.2.2.2.2.2.2.2.2.2.2.2.2.2.2.2.2.2.2.2.1 t.2.2.2.2.2.2.2.2.2.2.2.2.2.2.2.2.2.2.2.2.2.2.2.2.2.2.2.1 t.2.2.2.2.2.2.2.2.2.2.2.2.2.2.2.2.2.2.2.2.2.2.2.2.2.2.2.2.1 t.2.2.2.2.2.2.2.2.2.2.2.2.2.2.2.2.2.2.2.2.2.2.2.2.2.2.2.2.2.1 t.2.2.2.2.2.2.2.2.2.2.2.2.2.2.2.2.2.2.2.2.2.2.2.2.2.2.2.2.2.2.1 t.2.2.2.2.2.2.2.2.2.2.2.2.2.2.2.2.2.2.2.2.2.2.2.2.2.2.2.2.2.2.2.1 t.2.2.2.2.2.2.2.2.2.2.2.2.2.2.2.2.2.2.2.2.2.2.2.2.2.2.2.2.2.2.2.2.1 t.2.2.2.2.2.2.2.2.2.2.2.2.2.2.2.2.2.2.2.2.2.2.2.2.2.2.2.2.2.2.2.2.2
theorem wp_so34 {α0 α1 α2 α3 α4 α5 α6 α7 α8 α9 α10 α11 α12 α13 α14 α15 α16 α17 α18 α19 α20 α21 α22 α23 α24 α25 α26 α27 α28 α29 α30 α31 α32 α33 : Type} {a0 : α0} {a1 : α1} {a2 : α2} {a3 : α3} {a4 : α4} {a5 : α5} {a6 : α6} {a7 : α7} {a8 : α8} {a9 : α9} {a10 : α10} {a11 : α11} {a12 : α12} {a13 : α13} {a14 : α14} {a15 : α15} {a16 : α16} {a17 : α17} {a18 : α18} {a19 : α19} {a20 : α20} {a21 : α21} {a22 : α22} {a23 : α23} {a24 : α24} {a25 : α25} {a26 : α26} {a27 : α27} {a28 : α28} {a29 : α29} {a30 : α30} {a31 : α31} {a32 : α32} {a33 : α33} {R : α0 → α1 → α2 → α3 → α4 → α5 → α6 → α7 → α8 → α9 → α10 → α11 → α12 → α13 → α14 → α15 → α16 → α17 → α18 → α19 → α20 → α21 → α22 → α23 → α24 → α25 → α26 → α27 → α28 → α29 → α30 → α31 → α32 → α33 → Prop} (h : R a0 a1 a2 a3 a4 a5 a6 a7 a8 a9 a10 a11 a12 a13 a14 a15 a16 a17 a18 a19 a20 a21 a22 a23 a24 a25 a26 a27 a28 a29 a30 a31 a32 a33) : wp (some (a0, a1, a2, a3, a4, a5, a6, a7, a8, a9, a10, a11, a12, a13, a14, a15, a16, a17, a18, a19, a20, a21, a22, a23, a24, a25, a26, a27, a28, a29, a30, a31, a32, a33)) (cu34 R) := ⟨_, rfl, h⟩
theorem wp_bd34 {α0 α1 α2 α3 α4 α5 α6 α7 α8 α9 α10 α11 α12 α13 α14 α15 α16 α17 α18 α19 α20 α21 α22 α23 α24 α25 α26 α27 α28 α29 α30 α31 α32 α33 β : Type} {x : Option (α0 × α1 × α2 × α3 × α4 × α5 × α6 × α7 × α8 × α9 × α10 × α11 × α12 × α13 × α14 × α15 × α16 × α17 × α18 × α19 × α20 × α21 × α22 × α23 × α24 × α25 × α26 × α27 × α28 × α29 × α30 × α31 × α32 × α33)} {k : α0 → α1 → α2 → α3 → α4 → α5 → α6 → α7 → α8 → α9 → α10 → α11 → α12 → α13 → α14 → α15 → α16 → α17 → α18 → α19 → α20 → α21 → α22 → α23 → α24 → α25 → α26 → α27 → α28 → α29 → α30 → α31 → α32 → α33 → Option β} {R : α0 → α1 → α2 → α3 → α4 → α5 → α6 → α7 → α8 → α9 → α10 → α11 → α12 → α13 → α14 → α15 → α16 → α17 → α18 → α19 → α20 → α21 → α22 → α23 → α24 → α25 → α26 → α27 → α28 → α29 → α30 → α31 → α32 → α33 → Prop} {Q : β → Prop} (h : wp x (cu34 R)) (g : ∀ a0 a1 a2 a3 a4 a5 a6 a7 a8 a9 a10 a11 a12 a13 a14 a15 a16 a17 a18 a19 a20 a21 a22 a23 a24 a25 a26 a27 a28 a29 a30 a31 a32 a33, R a0 a1 a2 a3 a4 a5 a6 a7 a8 a9 a10 a11 a12 a13 a14 a15 a16 a17 a18 a19 a20 a21 a22 a23 a24 a25 a26 a27 a28 a29 a30 a31 a32 a33 → wp (k a0 a1 a2 a3 a4 a5 a6 a7 a8 a9 a10 a11 a12 a13 a14 a15 a16 a17 a18 a19 a20 a21 a22 a23 a24 a25 a26 a27 a28 a29 a30 a31 a32 a33) Q) : wp (mm_bd34 x k) Q := by
  obtain ⟨⟨a0, a1, a2, a3, a4, a5, a6, a7, a8, a9, a10, a11, a12, a13, a14, a15, a16, a17, a18, a19, a20, a21, a22, a23, a24, a25, a26, a27, a28, a29, a30, a31, a32, a33⟩, e, q⟩ := h
  rw [e]
  exact g a0 a1 a2 a3 a4 a5 a6 a7 a8 a9 a10 a11 a12 a13 a14 a15 a16 a17 a18 a19 a20 a21 a22 a23 a24 a25 a26 a27 a28 a29 a30 a31 a32 a33 q
theorem wp_in34 {α0 α1 α2 α3 α4 α5 α6 α7 α8 α9 α10 α11 α12 α13 α14 α15 α16 α17 α18 α19 α20 α21 α22 α23 α24 α25 α26 α27 α28 α29 α30 α31 α32 α33 β : Type} {x : Option (α0 × α1 × α2 × α3 × α4 × α5 × α6 × α7 × α8 × α9 × α10 × α11 × α12 × α13 × α14 × α15 × α16 × α17 × α18 × α19 × α20 × α21 × α22 × α23 × α24 × α25 × α26 × α27 × α28 × α29 × α30 × α31 × α32 × α33)} {k : α0 → α1 → α2 → α3 → α4 → α5 → α6 → α7 → α8 → α9 → α10 → α11 → α12 → α13 → α14 → α15 → α16 → α17 → α18 → α19 → α20 → α21 → α22 → α23 → α24 → α25 → α26 → α27 → α28 → α29 → α30 → α31 → α32 → α33 → Option β} {Q : β → Prop} (h : wp x (cu34 (fun a0 a1 a2 a3 a4 a5 a6 a7 a8 a9 a10 a11 a12 a13 a14 a15 a16 a17 a18 a19 a20 a21 a22 a23 a24 a25 a26 a27 a28 a29 a30 a31 a32 a33 => wp (k a0 a1 a2 a3 a4 a5 a6 a7 a8 a9 a10 a11 a12 a13 a14 a15 a16 a17 a18 a19 a20 a21 a22 a23 a24 a25 a26 a27 a28 a29 a30 a31 a32 a33) Q))) : wp (mm_bd34 x k) Q := wp_bd34 h (fun _ _ _ _ _ _ _ _ _ _ _ _ _ _ _ _ _ _ _ _ _ _ _ _ _ _ _ _ _ _ _ _ _ _ q => q)
theorem wp_cu34 {α0 α1 α2 α3 α4 α5 α6 α7 α8 α9 α10 α11 α12 α13 α14 α15 α16 α17 α18 α19 α20 α21 α22 α23 α24 α25 α26 α27 α28 α29 α30 α31 α32 α33 : Type} {x : Option (α0 × α1 × α2 × α3 × α4 × α5 × α6 × α7 × α8 × α9 × α10 × α11 × α12 × α13 × α14 × α15 × α16 × α17 × α18 × α19 × α20 × α21 × α22 × α23 × α24 × α25 × α26 × α27 × α28 × α29 × α30 × α31 × α32 × α33)} {R R' : α0 → α1 → α2 → α3 → α4 → α5 → α6 → α7 → α8 → α9 → α10 → α11 → α12 → α13 → α14 → α15 → α16 → α17 → α18 → α19 → α20 → α21 → α22 → α23 → α24 → α25 → α26 → α27 → α28 → α29 → α30 → α31 → α32 → α33 → Prop} (h : wp x (cu34 R)) (g : ∀ a0 a1 a2 a3 a4 a5 a6 a7 a8 a9 a10 a11 a12 a13 a14 a15 a16 a17 a18 a19 a20 a21 a22 a23 a24 a25 a26 a27 a28 a29 a30 a31 a32 a33, R a0 a1 a2 a3 a4 a5 a6 a7 a8 a9 a10 a11 a12 a13 a14 a15 a16 a17 a18 a19 a20 a21 a22 a23 a24 a25 a26 a27 a28 a29 a30 a31 a32 a33 → R' a0 a1 a2 a3 a4 a5 a6 a7 a8 a9 a10 a11 a12 a13 a14 a15 a16 a17 a18 a19 a20 a21 a22 a23 a24 a25 a26 a27 a28 a29 a30 a31 a32 a33) : wp x (cu34 R') := by
  obtain ⟨⟨a0, a1, a2, a3, a4, a5, a6, a7, a8, a9, a10, a11, a12, a13, a14, a15, a16, a17, a18, a19, a20, a21, a22, a23, a24, a25, a26, a27, a28, a29, a30, a31, a32, a33⟩, e, q⟩ := h
  exact ⟨_, e, g a0 a1 a2 a3 a4 a5 a6 a7 a8 a9 a10 a11 a12 a13 a14 a15 a16 a17 a18 a19 a20 a21 a22 a23 a24 a25 a26 a27 a28 a29 a30 a31 a32 a33 q⟩
def cu38 {α0 α1 α2 α3 α4 α5 α6 α7 α8 α9 α10 α11 α12 α13 α14 α15 α16 α17 α18 α19 α20 α21 α22 α23 α24 α25 α26 α27 α28 α29 α30 α31 α32 α33 α34 α35 α36 α37 : Type} (R : α0 → α1 → α2 → α3 → α4 → α5 → α6 → α7 → α8 → α9 → α10 → α11 → α12 → α13 → α14 → α15 → α16 → α17 → α18 → α19 → α20 → α21 → α22 → α23 → α24 → α25 → α26 → α27 → α28 → α29 → α30 → α31 → α32 → α33 → α34 → α35 → α36 → α37 → Prop) : α0 × α1 × α2 × α3 × α4 × α5 × α6 × α7 × α8 × α9 × α10 × α11 × α12 × α13 × α14 × α15 × α16 × α17 × α18 × α19 × α20 × α21 × α22 × α23 × α24 × α25 × α26 × α27 × α28 × α29 × α30 × α31 × α32 × α33 × α34 × α35 × α36 × α37 → Prop := fun t => R t.1 t.2.1 t.2.2.1 t.2.2.2.1 t.2.2.2.2.1 t.2.2.2.2.2.1 t.2.2.2.2.2.2.1 t.2.2.2.2.2.2.2.1 t.2.2.2.2.2.2.2.2.1 t.2.2.2.2.2.2.2.2.2.1 t.2.2.2.2.2.2.2.2.2.2.1 t.2.2.2.2.2.2.2.2.2.2.2.1 t.2.2.2.2.2.2.2.2.2.2.2.2.1 t.2.2.2.2.2.2.2.2.2.2.2.2.2.1 t.2.2.2.2.2.2.2.2.2.2.2.2.2.2.1 t.2.2.2.2.2.2.2.2.2.2.2.2.2.2.2.1 t.2.2.2.2.2.2.2.2.2.2.2.2.2.2.2.2.1 t.2.2.2.2.2.2.2.2.2.2.2.2.2.2.2.2.2.1 t.2.2.2.2.2.2.2.2.2.2.2.2.2.2.2.2.2.2.1 t.2.2.2.2.2.2.2.2.2.2.2.2.2.2.2.2.2.2.2.1 t.2.2.2.2.2.2.2.2.2.2.2.2.2.2.2.2.2.2.2.2.1 t.2.2.2.2.2.2.2.2.2.2.2.2.2.2.2.2.2.2.2.2.2.1 t.2.2.2.2.2.2.2.2.2.2.2.2.2.2.2.2.2.2.2.2.2.2.1 t.2.2.2.2.2.2.2.2.2.2.2.2.2.2.2.2.2.2.2.2.2.2.2.1 t.2.2.2.2.2.2.2.2.2.2.2.2.2.2.2.2.2.2.2.2.2.2.2.2.1 t.2.2.2.2.2.2.2.2.2.2.2.2.2.2.2.2.2.2.2.2.2.2.2.2.2.1 t.2.2.2.2.2.2.2.2.2.2.2.2.2.2.2.2.2.2.2.2.2.2.2.2.2.2.1 t.2.2.2.2.2.2.2.2.2.2.2.2.2.2.2.2.2.2.2.2.2.2.2.2.2.2.2.1 t.2.2.2.2.2.2.2.2.2.2.2.2.2.2.2.2.2.2.2.2.2.2.2.2.2.2.2.2.1 t.2.2.2.2.2.2.2.2.2.2.2.2.2.2.2.2.2.2.2.2.2.2.2.2.2.2.2.2.2.1 t.2.2.2.2.2.2.2.2.2.2.2.2.2.2.2.2.2.2.2.2.2.2.2.2.2.2.2.2.2.2.1 t.2.2.2.2.2.2.2.2.2.2.2.2.2.2.2.2.2.2.2.2.2.2.2.2.2.2.2.2.2.2.2.1 t.2.2.2.2.2.2.2.2.2.2.2.2.2.2.2.2.2.2.2.2.2.2.2.2.2.2.2.2.2.2.2.2.1 t.2.2.2.2.2.2.2.2.2.2.2.2.2.2.2.2.2.2.2.2.2.2.2.2.2.2.2.2.2.2.2.2.2.1 t.2.2.2.2.2.2.2.2.2.2.2.2.2.2.2.2.2.2.2.2.2.2.2.2.2.2.2.2.2.2.2.2.2.2.1 t.2.2.2.2.2.2.2.2.2.2.2.2.2.2.2.2.2.2.2.2.2.2.2.2.2.2.2.2.2.2.2.2.2.2.2.1 t.2.2.2.2.2.2.2.2.2.2.2.2.2.2.2.2.2.2.2.2.2.2.2.2.2.2.2.2.2.2.2.2.2.2.2.2.1 t.2.2.2.2.2.2.2.2.2.2.2.2.2.2.2.2.2.2.2.2.2.2.2.2.2.2.2.2.2.2.2.2.2.2.2.2.2
theorem wp_so38 {α0 α1 α2 α3 α4 α5 α6 α7 α8 α9 α10 α11 α12 α13 α14 α15 α16 α17 α18 α19 α20 α21 α22 α23 α24 α25 α26 α27 α28 α29 α30 α31 α32 α33 α34 α35 α36 α37 : Type} {a0 : α0} {a1 : α1} {a2 : α2} {a3 : α3} {a4 : α4} {a5 : α5} {a6 : α6} {a7 : α7} {a8 : α8} {a9 : α9} {a10 : α10} {a11 : α11} {a12 : α12} {a13 : α13} {a14 : α14} {a15 : α15} {a16 : α16} {a17 : α17} {a18 : α18} {a19 : α19} {a20 : α20} {a21 : α21} {a22 : α22} {a23 : α23} {a24 : α24} {a25 : α25} {a26 : α26} {a27 : α27} {a28 : α28} {a29 : α29} {a30 : α30} {a31 : α31} {a32 : α32} {a33 : α33} {a34 : α34} {a35 : α35} {a36 : α36} {a37 : α37} {R : α0 → α1 → α2 → α3 → α4 → α5 → α6 → α7 → α8 → α9 → α10 → α11 → α12 → α13 → α14 → α15 → α16 → α17 → α18 → α19 → α20 → α21 → α22 → α23 → α24 → α25 → α26 → α27 → α28 → α29 → α30 → α31 → α32 → α33 → α34 → α35 → α36 → α37 → Prop} (h : R a0 a1 a2 a3 a4 a5 a6 a7 a8 a9 a10 a11 a12 a13 a14 a15 a16 a17 a18 a19 a20 a21 a22 a23 a24 a25 a26 a27 a28 a29 a30 a31 a32 a33 a34 a35 a36 a37) : wp (some (a0, a1, a2, a3, a4, a5, a6, a7, a8, a9, a10, a11, a12, a13, a14, a15, a16, a17, a18, a19, a20, a21, a22, a23, a24, a25, a26, a27, a28, a29, a30, a31, a32, a33, a34, a35, a36, a37)) (cu38 R) := ⟨_, rfl, h⟩
theorem wp_bd38 {α0 α1 α2 α3 α4 α5 α6 α7 α8 α9 α10 α11 α12 α13 α14 α15 α16 α17 α18 α19 α20 α21 α22 α23 α24 α25 α26 α27 α28 α29 α30 α31 α32 α33 α34 α35 α36 α37 β : Type} {x : Option (α0 × α1 × α2 × α3 × α4 × α5 × α6 × α7 × α8 × α9 × α10 × α11 × α12 × α13 × α14 × α15 × α16 × α17 × α18 × α19 × α20 × α21 × α22 × α23 × α24 × α25 × α26 × α27 × α28 × α29 × α30 × α31 × α32 × α33 × α34 × α35 × α36 × α37)} {k : α0 → α1 → α2 → α3 → α4 → α5 → α6 → α7 → α8 → α9 → α10 → α11 → α12 → α13 → α14 → α15 → α16 → α17 → α18 → α19 → α20 → α21 → α22 → α23 → α24 → α25 → α26 → α27 → α28 → α29 → α30 → α31 → α32 → α33 → α34 → α35 → α36 → α37 → Option β} {R : α0 → α1 → α2 → α3 → α4 → α5 → α6 → α7 → α8 → α9 → α10 → α11 → α12 → α13 → α14 → α15 → α16 → α17 → α18 → α19 → α20 → α21 → α22 → α23 → α24 → α25 → α26 → α27 → α28 → α29 → α30 → α31 → α32 → α33 → α34 → α35 → α36 → α37 → Prop} {Q : β → Prop} (h : wp x (cu38 R)) (g : ∀ a0 a1 a2 a3 a4 a5 a6 a7 a8 a9 a10 a11 a12 a13 a14 a15 a16 a17 a18 a19 a20 a21 a22 a23 a24 a25 a26 a27 a28 a29 a30 a31 a32 a33 a34 a35 a36 a37, R a0 a1 a2 a3 a4 a5 a6 a7 a8 a9 a10 a11 a12 a13 a14 a15 a16 a17 a18 a19 a20 a21 a22 a23 a24 a25 a26 a27 a28 a29 a30 a31 a32 a33 a34 a35 a36 a37 → wp (k a0 a1 a2 a3 a4 a5 a6 a7 a8 a9 a10 a11 a12 a13 a14 a15 a16 a17 a18 a19 a20 a21 a22 a23 a24 a25 a26 a27 a28 a29 a30 a31 a32 a33 a34 a35 a36 a37) Q) : wp (mm_bd38 x k) Q := by
  obtain ⟨⟨a0, a1, a2, a3, a4, a5, a6, a7, a8, a9, a10, a11, a12, a13, a14, a15, a16, a17, a18, a19, a20, a21, a22, a23, a24, a25, a26, a27, a28, a29, a30, a31, a32, a33, a34, a35, a36, a37⟩, e, q⟩ := h
  rw [e]
  exact g a0 a1 a2 a3 a4 a5 a6 a7 a8 a9 a10 a11 a12 a13 a14 a15 a16 a17 a18 a19 a20 a21 a22 a23 a24 a25 a26 a27 a28 a29 a30 a31 a32 a33 a34 a35 a36 a37 q
theorem wp_in38 {α0 α1 α2 α3 α4 α5 α6 α7 α8 α9 α10 α11 α12 α13 α14 α15 α16 α17 α18 α19 α20 α21 α22 α23 α24 α25 α26 α27 α28 α29 α30 α31 α32 α33 α34 α35 α36 α37 β : Type} {x : Option (α0 × α1 × α2 × α3 × α4 × α5 × α6 × α7 × α8 × α9 × α10 × α11 × α12 × α13 × α14 × α15 × α16 × α17 × α18 × α19 × α20 × α21 × α22 × α23 × α24 × α25 × α26 × α27 × α28 × α29 × α30 × α31 × α32 × α33 × α34 × α35 × α36 × α37)} {k : α0 → α1 → α2 → α3 → α4 → α5 → α6 → α7 → α8 → α9 → α10 → α11 → α12 → α13 → α14 → α15 → α16 → α17 → α18 → α19 → α20 → α21 → α22 → α23 → α24 → α25 → α26 → α27 → α28 → α29 → α30 → α31 → α32 → α33 → α34 → α35 → α36 → α37 → Option β} {Q : β → Prop} (h : wp x (cu38 (fun a0 a1 a2 a3 a4 a5 a6 a7 a8 a9 a10 a11 a12 a13 a14 a15 a16 a17 a18 a19 a20 a21 a22 a23 a24 a25 a26 a27 a28 a29 a30 a31 a32 a33 a34 a35 a36 a37 => wp (k a0 a1 a2 a3 a4 a5 a6 a7 a8 a9 a10 a11 a12 a13 a14 a15 a16 a17 a18 a19 a20 a21 a22 a23 a24 a25 a26 a27 a28 a29 a30 a31 a32 a33 a34 a35 a36 a37) Q))) : wp (mm_bd38 x k) Q := wp_bd38 h (fun _ _ _ _ _ _ _ _ _ _ _ _ _ _ _ _ _ _ _ _ _ _ _ _ _ _ _ _ _ _ _ _ _ _ _ _ _ _ q => q)
theorem wp_cu38 {α0 α1 α2 α3 α4 α5 α6 α7 α8 α9 α10 α11 α12 α13 α14 α15 α16 α17 α18 α19 α20 α21 α22 α23 α24 α25 α26 α27 α28 α29 α30 α31 α32 α33 α34 α35 α36 α37 : Type} {x : Option (α0 × α1 × α2 × α3 × α4 × α5 × α6 × α7 × α8 × α9 × α10 × α11 × α12 × α13 × α14 × α15 × α16 × α17 × α18 × α19 × α20 × α21 × α22 × α23 × α24 × α25 × α26 × α27 × α28 × α29 × α30 × α31 × α32 × α33 × α34 × α35 × α36 × α37)} {R R' : α0 → α1 → α2 → α3 → α4 → α5 → α6 → α7 → α8 → α9 → α10 → α11 → α12 → α13 → α14 → α15 → α16 → α17 → α18 → α19 → α20 → α21 → α22 → α23 → α24 → α25 → α26 → α27 → α28 → α29 → α30 → α31 → α32 → α33 → α34 → α35 → α36 → α37 → Prop} (h : wp x (cu38 R)) (g : ∀ a0 a1 a2 a3 a4 a5 a6 a7 a8 a9 a10 a11 a12 a13 a14 a15 a16 a17 a18 a19 a20 a21 a22 a23 a24 a25 a26 a27 a28 a29 a30 a31 a32 a33 a34 a35 a36 a37, R a0 a1 a2 a3 a4 a5 a6 a7 a8 a9 a10 a11 a12 a13 a14 a15 a16 a17 a18 a19 a20 a21 a22 a23 a24 a25 a26 a27 a28 a29 a30 a31 a32 a33 a34 a35 a36 a37 → R' a0 a1 a2 a3 a4 a5 a6 a7 a8 a9 a10 a11 a12 a13 a14 a15 a16 a17 a18 a19 a20 a21 a22 a23 a24 a25 a26 a27 a28 a29 a30 a31 a32 a33 a34 a35 a36 a37) : wp x (cu38 R') := by
  obtain ⟨⟨a0, a1, a2, a3, a4, a5, a6, a7, a8, a9, a10, a11, a12, a13, a14, a15, a16, a17, a18, a19, a20, a21, a22, a23, a24, a25, a26, a27, a28, a29, a30, a31, a32, a33, a34, a35, a36, a37⟩, e, q⟩ := h
  exact ⟨_, e, g a0 a1 a2 a3 a4 a5 a6 a7 a8 a9 a10 a11 a12 a13 a14 a15 a16 a17 a18 a19 a20 a21 a22 a23 a24 a25 a26 a27 a28 a29 a30 a31 a32 a33 a34 a35 a36 a37 q⟩
def cu48 {α0 α1 α2 α3 α4 α5 α6 α7 α8 α9 α10 α11 α12 α13 α14 α15 α16 α17 α18 α19 α20 α21 α22 α23 α24 α25 α26 α27 α28 α29 α30 α31 α32 α33 α34 α35 α36 α37 α38 α39 α40 α41 α42 α43 α44 α45 α46 α47 : Type} (R : α0 → α1 → α2 → α3 → α4 → α5 → α6 → α7 → α8 → α9 → α10 → α11 → α12 → α13 → α14 → α15 → α16 → α17 → α18 → α19 → α20 → α21 → α22 → α23 → α24 → α25 → α26 → α27 → α28 → α29 → α30 → α31 → α32 → α33 → α34 → α35 → α36 → α37 → α38 → α39 → α40 → α41 → α42 → α43 → α44 → α45 → α46 → α47 → Prop) : α0 × α1 × α2 × α3 × α4 × α5 × α6 × α7 × α8 × α9 × α10 × α11 × α12 × α13 × α14 × α15 × α16 × α17 × α18 × α19 × α20 × α21 × α22 × α23 × α24 × α25 × α26 × α27 × α28 × α29 × α30 × α31 × α32 × α33 × α34 × α35 × α36 × α37 × α38 × α39 × α40 × α41 × α42 × α43 × α44 × α45 × α46 × α47 → Prop := fun t => R t.1 t.2.1 t.2.2.1 t.2.2.2.1 t.2.2.2.2.1 t.2.2.2.2.2.1 t.2.2.2.2.2.2.1 t.2.2.2.2.2.2.2.1 t.2.2.2.2.2.2.2.2.1 t.2.2.2.2.2.2.2.2.2.1 t.2.2.2.2.2.2.2.2.2.2.1 t.2.2.2.2.2.2.2.2.2.2.2.1 t.2.2.2.2.2.2.2.2.2.2.2.2.1 t.2.2.2.2.2.2.2.2.2.2.2.2.2.1 t.2.2.2.2.2.2.2.2.2.2.2.2.2.2.1 t.2.2.2.2.2.2.2.2.2.2.2.2.2.2.2.1 t.2.2.2.2.2.2.2.2.2.2.2.2.2.2.2.2.1 t.2.2.2.2.2.2.2.2.2.2.2.2.2.2.2.2.2.1 t.2.2.2.2.2.2.2.2.2.2.2.2.2.2.2.2.2.2.1 t.2.2.2.2.2.2.2.2.2.2.2.2.2.2.2.2.2.2.2.1 t.2.2.2.2.2.2.2.2.2.2.2.2.2.2.2.2.2.2.2.2.1 t.2.2.2.2.2.2.2.2.2.2.2.2.2.2.2.2.2.2.2.2.2.1 t.2.2.2.2.2.2.2.2.2.2.2.2.2.2.2.2.2.2.2.2.2.2.1 t.2.2.2.2.2.2.2.2.2.2.2.2.2.2.2.2.2.2.2.2.2.2.2.1 t.2.2.2.2.2.2.2.2.2.2.2.2.2.2.2.2.2.2.2.2.2.2.2.2.1 t.2.2.2.2.2.2.2.2.2.2.2.2.2.2.2.2.2.2.2.2.2.2.2.2.2.1 t.2.2.2.2.2.2.2.2.2.2.2.2.2.2.2.2.2.2.2.2.2.2.2.2.2.2.1 t.2.2.2.2.2.2.2.2.2.2.2.2.2.2.2.2.2.2.2.2.2.2.2.2.2.2.2.1 t.2.2.2.2.2.2.2.2.2.2.2.2.2.2.2.2.2.2.2.2.2.2.2.2.2.2.2.2.1 t.2.2.2.2.2.2.2.2.2.2.2.2.2.2.2.2.2.2.2.2.2.2.2.2.2.2.2.2.2.1 t.2.2.2.2.2.2.2.2.2.2.2.2.2.2.2.2.2.2.2.2.2.2.2.2.2.2.2.2.2.2.1 t.2.2.2.2.2.2.2.2.2.2.2.2.2.2.2.2.2.2.2.2.2.2.2.2.2.2.2.2.2.2.2.1 t.2.2.2.2.2.2.2.2.2.2.2.2.2.2.2.2.2.2.2.2.2.2.2.2.2.2.2.2.2.2.2.2.1 t.2.2.2.2.2.2.2.2.2.2.2.2.2.2.2.2.2.2.2.2.2.2.2.2.2.2.2.2.2.2.2.2.2.1 t.2.2.2.2.2.2.2.2.2.2.2.2.2.2.2.2.2.2.2.2.2.2.2.2.2.2.2.2.2.2.2.2.2.2.1 t.2.2.2.2.2.2.2.2.2.2.2.2.2.2.2.2.2.2.2.2.2.2.2.2.2.2.2.2.2.2.2.2.2.2.2.1 t.2.2.2.2.2.2.2.2.2.2.2.2.2.2.2.2.2.2.2.2.2.2.2.2.2.2.2.2.2.2.2.2.2.2.2.2.1 t.2.2.2.2.2.2.2.2.2.2.2.2.2.2.2.2.2.2.2.2.2.2.2.2.2.2.2.2.2.2.2.2.2.2.2.2.2.1 t.2.2.2.2.2.2.2.2.2.2.2.2.2.2.2.2.2.2.2.2.2.2.2.2.2.2.2.2.2.2.2.2.2.2.2.2.2.2.1 t.2.2.2.2.2.2.2.2.2.2.2.2.2.2.2.2.2.2.2.2.2.2.2.2.2.2.2.2.2.2.2.2.2.2.2.2.2.2.2.1 t.2.2.2.2.2.2.2.2.2.2.2.2.2.2.2.2.2.2.2.2.2.2.2.2.2.2.2.2.2.2.2.2.2.2.2.2.2.2.2.2.1 t.2.2.2.2.2.2.2.2.2.2.2.2.2.2.2.2.2.2.2.2.2.2.2.2.2.2.2.2.2.2.2.2.2.2.2.2.2.2.2.2.2.1 t.2.2.2.2.2.2.2.2.2.2.2.2.2.2.2.2.2.2.2.2.2.2.2.2.2.2.2.2.2.2.2.2.2.2.2.2.2.2.2.2.2.2.1 t.2.2.2.2.2.2.2.2.2.2.2.2.2.2.2.2.2.2.2.2.2.2.2.2.2.2.2.2.2.2.2.2.2.2.2.2.2.2.2.2.2.2.2.1 t.2.2.2.2.2.2.2.2.2.2.2.2.2.2.2.2.2.2.2.2.2.2.2.2.2.2.2.2.2.2.2.2.2.2.2.2.2.2.2.2.2.2.2.2.1 t.2.2.2.2.2.2.2.2.2.2.2.2.2.2.2.2.2.2.2.2.2.2.2.2.2.2.2.2.2.2.2.2.2.2.2.2.2.2.2.2.2.2.2.2.2.1 t.2.2.2.2.2.2.2.2.2.2.2.2.2.2.2.2.2.2.2.2.2.2.2.2.2.2.2.2.2.2.2.2.2.2.2.2.2.2.2.2.2.2.2.2.2.2.1 t.2.2.2.2.2.2.2.2.2.2.2.2.2.2.2.2.2.2.2.2.2.2.2.2.2.2.2.2.2.2.2.2.2.2.2.2.2.2.2.2.2.2.2.2.2.2.2
theorem wp_so48 {α0 α1 α2 α3 α4 α5 α6 α7 α8 α9 α10 α11 α12 α13 α14 α15 α16 α17 α18 α19 α20 α21 α22 α23 α24 α25 α26 α27 α28 α29 α30 α31 α32 α33 α34 α35 α36 α37 α38 α39 α40 α41 α42 α43 α44 α45 α46 α47 : Type} {a0 : α0} {a1 : α1} {a2 : α2} {a3 : α3} {a4 : α4} {a5 : α5} {a6 : α6} {a7 : α7} {a8 : α8} {a9 : α9} {a10 : α10} {a11 : α11} {a12 : α12} {a13 : α13} {a14 : α14} {a15 : α15} {a16 : α16} {a17 : α17} {a18 : α18} {a19 : α19} {a20 : α20} {a21 : α21} {a22 : α22} {a23 : α23} {a24 : α24} {a25 : α25} {a26 : α26} {a27 : α27} {a28 : α28} {a29 : α29} {a30 : α30} {a31 : α31} {a32 : α32} {a33 : α33} {a34 : α34} {a35 : α35} {a36 : α36} {a37 : α37} {a38 : α38} {a39 : α39} {a40 : α40} {a41 : α41} {a42 : α42} {a43 : α43} {a44 : α44} {a45 : α45} {a46 : α46} {a47 : α47} {R : α0 → α1 → α2 → α3 → α4 → α5 → α6 → α7 → α8 → α9 → α10 → α11 → α12 → α13 → α14 → α15 → α16 → α17 → α18 → α19 → α20 → α21 → α22 → α23 → α24 → α25 → α26 → α27 → α28 → α29 → α30 → α31 → α32 → α33 → α34 → α35 → α36 → α37 → α38 → α39 → α40 → α41 → α42 → α43 → α44 → α45 → α46 → α47 → Prop} (h : R a0 a1 a2 a3 a4 a5 a6 a7 a8 a9 a10 a11 a12 a13 a14 a15 a16 a17 a18 a19 a20 a21 a22 a23 a24 a25 a26 a27 a28 a29 a30 a31 a32 a33 a34 a35 a36 a37 a38 a39 a40 a41 a42 a43 a44 a45 a46 a47) : wp (some (a0, a1, a2, a3, a4, a5, a6, a7, a8, a9, a10, a11, a12, a13, a14, a15, a16, a17, a18, a19, a20, a21, a22, a23, a24, a25, a26, a27, a28, a29, a30, a31, a32, a33, a34, a35, a36, a37, a38, a39, a40, a41, a42, a43, a44, a45, a46, a47)) (cu48 R) := ⟨_, rfl, h⟩
theorem wp_bd48 {α0 α1 α2 α3 α4 α5 α6 α7 α8 α9 α10 α11 α12 α13 α14 α15 α16 α17 α18 α19 α20 α21 α22 α23 α24 α25 α26 α27 α28 α29 α30 α31 α32 α33 α34 α35 α36 α37 α38 α39 α40 α41 α42 α43 α44 α45 α46 α47 β : Type} {x : Option (α0 × α1 × α2 × α3 × α4 × α5 × α6 × α7 × α8 × α9 × α10 × α11 × α12 × α13 × α14 × α15 × α16 × α17 × α18 × α19 × α20 × α21 × α22 × α23 × α24 × α25 × α26 × α27 × α28 × α29 × α30 × α31 × α32 × α33 × α34 × α35 × α36 × α37 × α38 × α39 × α40 × α41 × α42 × α43 × α44 × α45 × α46 × α47)} {k : α0 → α1 → α2 → α3 → α4 → α5 → α6 → α7 → α8 → α9 → α10 → α11 → α12 → α13 → α14 → α15 → α16 → α17 → α18 → α19 → α20 → α21 → α22 → α23 → α24 → α25 → α26 → α27 → α28 → α29 → α30 → α31 → α32 → α33 → α34 → α35 → α36 → α37 → α38 → α39 → α40 → α41 → α42 → α43 → α44 → α45 → α46 → α47 → Option β} {R : α0 → α1 → α2 → α3 → α4 → α5 → α6 → α7 → α8 → α9 → α10 → α11 → α12 → α13 → α14 → α15 → α16 → α17 → α18 → α19 → α20 → α21 → α22 → α23 → α24 → α25 → α26 → α27 → α28 → α29 → α30 → α31 → α32 → α33 → α34 → α35 → α36 → α37 → α38 → α39 → α40 → α41 → α42 → α43 → α44 → α45 → α46 → α47 → Prop} {Q : β → Prop} (h : wp x (cu48 R)) (g : ∀ a0 a1 a2 a3 a4 a5 a6 a7 a8 a9 a10 a11 a12 a13 a14 a15 a16 a17 a18 a19 a20 a21 a22 a23 a24 a25 a26 a27 a28 a29 a30 a31 a32 a33 a34 a35 a36 a37 a38 a39 a40 a41 a42 a43 a44 a45 a46 a47, R a0 a1 a2 a3 a4 a5 a6 a7 a8 a9 a10 a11 a12 a13 a14 a15 a16 a17 a18 a19 a20 a21 a22 a23 a24 a25 a26 a27 a28 a29 a30 a31 a32 a33 a34 a35 a36 a37 a38 a39 a40 a41 a42 a43 a44 a45 a46 a47 → wp (k a0 a1 a2 a3 a4 a5 a6 a7 a8 a9 a10 a11 a12 a13 a14 a15 a16 a17 a18 a19 a20 a21 a22 a23 a24 a25 a26 a27 a28 a29 a30 a31 a32 a33 a34 a35 a36 a37 a38 a39 a40 a41 a42 a43 a44 a45 a46 a47) Q) : wp (mm_bd48 x k) Q := by
  obtain ⟨⟨a0, a1, a2, a3, a4, a5, a6, a7, a8, a9, a10, a11, a12, a13, a14, a15, a16, a17, a18, a19, a20, a21, a22, a23, a24, a25, a26, a27, a28, a29, a30, a31, a32, a33, a34, a35, a36, a37, a38, a39, a40, a41, a42, a43, a44, a45, a46, a47⟩, e, q⟩ := h
  rw [e]
  exact g a0 a1 a2 a3 a4 a5 a6 a7 a8 a9 a10 a11 a12 a13 a14 a15 a16 a17 a18 a19 a20 a21 a22 a23 a24 a25 a26 a27 a28 a29 a30 a31 a32 a33 a34 a35 a36 a37 a38 a39 a40 a41 a42 a43 a44 a45 a46 a47 q
theorem wp_in48 {α0 α1 α2 α3 α4 α5 α6 α7 α8 α9 α10 α11 α12 α13 α14 α15 α16 α17 α18 α19 α20 α21 α22 α23 α24 α25 α26 α27 α28 α29 α30 α31 α32 α33 α34 α35 α36 α37 α38 α39 α40 α41 α42 α43 α44 α45 α46 α47 β : Type} {x : Option (α0 × α1 × α2 × α3 × α4 × α5 × α6 × α7 × α8 × α9 × α10 × α11 × α12 × α13 × α14 × α15 × α16 × α17 × α18 × α19 × α20 × α21 × α22 × α23 × α24 × α25 × α26 × α27 × α28 × α29 × α30 × α31 × α32 × α33 × α34 × α35 × α36 × α37 × α38 × α39 × α40 × α41 × α42 × α43 × α44 × α45 × α46 × α47)} {k : α0 → α1 → α2 → α3 → α4 → α5 → α6 → α7 → α8 → α9 → α10 → α11 → α12 → α13 → α14 → α15 → α16 → α17 → α18 → α19 → α20 → α21 → α22 → α23 → α24 → α25 → α26 → α27 → α28 → α29 → α30 → α31 → α32 → α33 → α34 → α35 → α36 → α37 → α38 → α39 → α40 → α41 → α42 → α43 → α44 → α45 → α46 → α47 → Option β} {Q : β → Prop} (h : wp x (cu48 (fun a0 a1 a2 a3 a4 a5 a6 a7 a8 a9 a10 a11 a12 a13 a14 a15 a16 a17 a18 a19 a20 a21 a22 a23 a24 a25 a26 a27 a28 a29 a30 a31 a32 a33 a34 a35 a36 a37 a38 a39 a40 a41 a42 a43 a44 a45 a46 a47 => wp (k a0 a1 a2 a3 a4 a5 a6 a7 a8 a9 a10 a11 a12 a13 a14 a15 a16 a17 a18 a19 a20 a21 a22 a23 a24 a25 a26 a27 a28 a29 a30 a31 a32 a33 a34 a35 a36 a37 a38 a39 a40 a41 a42 a43 a44 a45 a46 a47) Q))) : wp (mm_bd48 x k) Q := wp_bd48 h (fun _ _ _ _ _ _ _ _ _ _ _ _ _ _ _ _ _ _ _ _ _ _ _ _ _ _ _ _ _ _ _ _ _ _ _ _ _ _ _ _ _ _ _ _ _ _ _ _ q => q)
theorem wp_cu48 {α0 α1 α2 α3 α4 α5 α6 α7 α8 α9 α10 α11 α12 α13 α14 α15 α16 α17 α18 α19 α20 α21 α22 α23 α24 α25 α26 α27 α28 α29 α30 α31 α32 α33 α34 α35 α36 α37 α38 α39 α40 α41 α42 α43 α44 α45 α46 α47 : Type} {x : Option (α0 × α1 × α2 × α3 × α4 × α5 × α6 × α7 × α8 × α9 × α10 × α11 × α12 × α13 × α14 × α15 × α16 × α17 × α18 × α19 × α20 × α21 × α22 × α23 × α24 × α25 × α26 × α27 × α28 × α29 × α30 × α31 × α32 × α33 × α34 × α35 × α36 × α37 × α38 × α39 × α40 × α41 × α42 × α43 × α44 × α45 × α46 × α47)} {R R' : α0 → α1 → α2 → α3 → α4 → α5 → α6 → α7 → α8 → α9 → α10 → α11 → α12 → α13 → α14 → α15 → α16 → α17 → α18 → α19 → α20 → α21 → α22 → α23 → α24 → α25 → α26 → α27 → α28 → α29 → α30 → α31 → α32 → α33 → α34 → α35 → α36 → α37 → α38 → α39 → α40 → α41 → α42 → α43 → α44 → α45 → α46 → α47 → Prop} (h : wp x (cu48 R)) (g : ∀ a0 a1 a2 a3 a4 a5 a6 a7 a8 a9 a10 a11 a12 a13 a14 a15 a16 a17 a18 a19 a20 a21 a22 a23 a24 a25 a26 a27 a28 a29 a30 a31 a32 a33 a34 a35 a36 a37 a38 a39 a40 a41 a42 a43 a44 a45 a46 a47, R a0 a1 a2 a3 a4 a5 a6 a7 a8 a9 a10 a11 a12 a13 a14 a15 a16 a17 a18 a19 a20 a21 a22 a23 a24 a25 a26 a27 a28 a29 a30 a31 a32 a33 a34 a35 a36 a37 a38 a39 a40 a41 a42 a43 a44 a45 a46 a47 → R' a0 a1 a2 a3 a4 a5 a6 a7 a8 a9 a10 a11 a12 a13 a14 a15 a16 a17 a18 a19 a20 a21 a22 a23 a24 a25 a26 a27 a28 a29 a30 a31 a32 a33 a34 a35 a36 a37 a38 a39 a40 a41 a42 a43 a44 a45 a46 a47) : wp x (cu48 R') := by
  obtain ⟨⟨a0, a1, a2, a3, a4, a5, a6, a7, a8, a9, a10, a11, a12, a13, a14, a15, a16, a17, a18, a19, a20, a21, a22, a23, a24, a25, a26, a27, a28, a29, a30, a31, a32, a33, a34, a35, a36, a37, a38, a39, a40, a41, a42, a43, a44, a45, a46, a47⟩, e, q⟩ := h
  exact ⟨_, e, g a0 a1 a2 a3 a4 a5 a6 a7 a8 a9 a10 a11 a12 a13 a14 a15 a16 a17 a18 a19 a20 a21 a22 a23 a24 a25 a26 a27 a28 a29 a30 a31 a32 a33 a34 a35 a36 a37 a38 a39 a40 a41 a42 a43 a44 a45 a46 a47 q⟩
def cu53 {α0 α1 α2 α3 α4 α5 α6 α7 α8 α9 α10 α11 α12 α13 α14 α15 α16 α17 α18 α19 α20 α21 α22 α23 α24 α25 α26 α27 α28 α29 α30 α31 α32 α33 α34 α35 α36 α37 α38 α39 α40 α41 α42 α43 α44 α45 α46 α47 α48 α49 α50 α51 α52 : Type} (R : α0 → α1 → α2 → α3 → α4 → α5 → α6 → α7 → α8 → α9 → α10 → α11 → α12 → α13 → α14 → α15 → α16 → α17 → α18 → α19 → α20 → α21 → α22 → α23 → α24 → α25 → α26 → α27 → α28 → α29 → α30 → α31 → α32 → α33 → α34 → α35 → α36 → α37 → α38 → α39 → α40 → α41 → α42 → α43 → α44 → α45 → α46 → α47 → α48 → α49 → α50 → α51 → α52 → Prop) : α0 × α1 × α2 × α3 × α4 × α5 × α6 × α7 × α8 × α9 × α10 × α11 × α12 × α13 × α14 × α15 × α16 × α17 × α18 × α19 × α20 × α21 × α22 × α23 × α24 × α25 × α26 × α27 × α28 × α29 × α30 × α31 × α32 × α33 × α34 × α35 × α36 × α37 × α38 × α39 × α40 × α41 × α42 × α43 × α44 × α45 × α46 × α47 × α48 × α49 × α50 × α51 × α52 → Prop := fun t => R t.1 t.2.1 t.2.2.1 t.2.2.2.1 t.2.2.2.2.1 t.2.2.2.2.2.1 t.2.2.2.2.2.2.1 t.2.2.2.2.2.2.2.1 t.2.2.2.2.2.2.2.2.1 t.2.2.2.2.2.2.2.2.2.1 t.2.2.2.2.2.2.2.2.2.2.1 t.2.2.2.2.2.2.2.2.2.2.2.1 t.2.2.2.2.2.2.2.2.2.2.2.2.1 t.2.2.2.2.2.2.2.2.2.2.2.2.2.1 t.2.2.2.2.2.2.2.2.2.2.2.2.2.2.1 t.2.2.2.2.2.2.2.2.2.2.2.2.2.2.2.1 t.2.2.2.2.2.2.2.2.2.2.2.2.2.2.2.2.1 t.2.2.2.2.2.2.2.2.2.2.2.2.2.2.2.2.2.1 t.2.2.2.2.2.2.2.2.2.2.2.2.2.2.2.2.2.2.1 t.2.2.2.2.2.2.2.2.2.2.2.2.2.2.2.2.2.2.2.1 t.2.2.2.2.2.2.2.2.2.2.2.2.2.2.2.2.2.2.2.2.1 t.2.2.2.2.2.2.2.2.2.2.2.2.2.2.2.2.2.2.2.2.2.1 t.2.2.2.2.2.2.2.2.2.2.2.2.2.2.2.2.2.2.2.2.2.2.1 t.2.2.2.2.2.2.2.2.2.2.2.2.2.2.2.2.2.2.2.2.2.2.2.1 t.2.2.2.2.2.2.2.2.2.2.2.2.2.2.2.2.2.2.2.2.2.2.2.2.1 t.2.2.2.2.2.2.2.2.2.2.2.2.2.2.2.2.2.2.2.2.2.2.2.2.2.1 t.2.2.2.2.2.2.2.2.2.2.2.2.2.2.2.2.2.2.2.2.2.2.2.2.2.2.1 t.2.2.2.2.2.2.2.2.2.2.2.2.2.2.2.2.2.2.2.2.2.2.2.2.2.2.2.1 t.2.2.2.2.2.2.2.2.2.2.2.2.2.2.2.2.2.2.2.2.2.2.2.2.2.2.2.2.1 t.2.2.2.2.2.2.2.2.2.2.2.2.2.2.2.2.2.2.2.2.2.2.2.2.2.2.2.2.2.1 t.2.2.2.2.2.2.2.2.2.2.2.2.2.2.2.2.2.2.2.2.2.2.2.2.2.2.2.2.2.2.1 t.2.2.2.2.2.2.2.2.2.2.2.2.2.2.2.2.2.2.2.2.2.2.2.2.2.2.2.2.2.2.2.1 t.2.2.2.2.2.2.2.2.2.2.2.2.2.2.2.2.2.2.2.2.2.2.2.2.2.2.2.2.2.2.2.2.1 t.2.2.2.2.2.2.2.2.2.2.2.2.2.2.2.2.2.2.2.2.2.2.2.2.2.2.2.2.2.2.2.2.2.1 t.2.2.2.2.2.2.2.2.2.2.2.2.2.2.2.2.2.2.2.2.2.2.2.2.2.2.2.2.2.2.2.2.2.2.1 t.2.2.2.2.2.2.2.2.2.2.2.2.2.2.2.2.2.2.2.2.2.2.2.2.2.2.2.2.2.2.2.2.2.2.2.1 t.2.2.2.2.2.2.2.2.2.2.2.2.2.2.2.2.2.2.2.2.2.2.2.2.2.2.2.2.2.2.2.2.2.2.2.2.1 t.2.2.2.2.2.2.2.2.2.2.2.2.2.2.2.2.2.2.2.2.2.2.2.2.2.2.2.2.2.2.2.2.2.2.2.2.2.1 t.2.2.2.2.2.2.2.2.2.2.2.2.2.2.2.2.2.2.2.2.2.2.2.2.2.2.2.2.2.2.2.2.2.2.2.2.2.2.1 t.2.2.2.2.2.2.2.2.2.2.2.2.2.2.2.2.2.2.2.2.2.2.2.2.2.2.2.2.2.2.2.2.2.2.2.2.2.2.2.1 t.2.2.2.2.2.2.2.2.2.2.2.2.2.2.2.2.2.2.2.2.2.2.2.2.2.2.2.2.2.2.2.2.2.2.2.2.2.2.2.2.1 t.2.2.2.2.2.2.2.2.2.2.2.2.2.2.2.2.2.2.2.2.2.2.2.2.2.2.2.2.2.2.2.2.2.2.2.2.2.2.2.2.2.1 t.2.2.2.2.2.2.2.2.2.2.2.2.2.2.2.2.2.2.2.2.2.2.2.2.2.2.2.2.2.2.2.2.2.2.2.2.2.2.2.2.2.2.1 t.2.2.2.2.2.2.2.2.2.2.2.2.2.2.2.2.2.2.2.2.2.2.2.2.2.2.2.2.2.2.2.2.2.2.2.2.2.2.2.2.2.2.2.1 t.2.2.2.2.2.2.2.2.2.2.2.2.2.2.2.2.2.2.2.2.2.2.2.2.2.2.2.2.2.2.2.2.2.2.2.2.2.2.2.2.2.2.2.2.1 t.2.2.2.2.2.2.2.2.2.2.2.2.2.2.2.2.2.2.2.2.2.2.2.2.2.2.2.2.2.2.2.2.2.2.2.2.2.2.2.2.2.2.2.2.2.1 t.2.2.2.2.2.2.2.2.2.2.2.2.2.2.2.2.2.2.2.2.2.2.2.2.2.2.2.2.2.2.2.2.2.2.2.2.2.2.2.2.2.2.2.2.2.2.1 t.2.2.2.2.2.2.2.2.2.2.2.2.2.2.2.2.2.2.2.2.2.2.2.2.2.2.2.2.2.2.2.2.2.2.2.2.2.2.2.2.2.2.2.2.2.2.2.1 t.2.2.2.2.2.2.2.2.2.2.2.2.2.2.2.2.2.2.2.2.2.2.2.2.2.2.2.2.2.2.2.2.2.2.2.2.2.2.2.2.2.2.2.2.2.2.2.2.1 t.2.2.2.2.2.2.2.2.2.2.2.2.2.2.2.2.2.2.2.2.2.2.2.2.2.2.2.2.2.2.2.2.2.2.2.2.2.2.2.2.2.2.2.2.2.2.2.2.2.1 t.2.2.2.2.2.2.2.2.2.2.2.2.2.2.2.2.2.2.2.2.2.2.2.2.2.2.2.2.2.2.2.2.2.2.2.2.2.2.2.2.2.2.2.2.2.2.2.2.2.2.1 t.2.2.2.2.2.2.2.2.2.2.2.2.2.2.2.2.2.2.2.2.2.2.2.2.2.2.2.2.2.2.2.2.2.2.2.2.2.2.2.2.2.2.2.2.2.2.2.2.2.2.2.1 t.2.2.2.2.2.2.2.2.2.2.2.2.2.2.2.2.2.2.2.2.2.2.2.2.2.2.2.2.2.2.2.2.2.2.2.2.2.2.2.2.2.2.2.2.2.2.2.2.2.2.2.2
theorem wp_so53 {α0 α1 α2 α3 α4 α5 α6 α7 α8 α9 α10 α11 α12 α13 α14 α15 α16 α17 α18 α19 α20 α21 α22 α23 α24 α25 α26 α27 α28 α29 α30 α31 α32 α33 α34 α35 α36 α37 α38 α39 α40 α41 α42 α43 α44 α45 α46 α47 α48 α49 α50 α51 α52 : Type} {a0 : α0} {a1 : α1} {a2 : α2} {a3 : α3} {a4 : α4} {a5 : α5} {a6 : α6} {a7 : α7} {a8 : α8} {a9 : α9} {a10 : α10} {a11 : α11} {a12 : α12} {a13 : α13} {a14 : α14} {a15 : α15} {a16 : α16} {a17 : α17} {a18 : α18} {a19 : α19} {a20 : α20} {a21 : α21} {a22 : α22} {a23 : α23} {a24 : α24} {a25 : α25} {a26 : α26} {a27 : α27} {a28 : α28} {a29 : α29} {a30 : α30} {a31 : α31} {a32 : α32} {a33 : α33} {a34 : α34} {a35 : α35} {a36 : α36} {a37 : α37} {a38 : α38} {a39 : α39} {a40 : α40} {a41 : α41} {a42 : α42} {a43 : α43} {a44 : α44} {a45 : α45} {a46 : α46} {a47 : α47} {a48 : α48} {a49 : α49} {a50 : α50} {a51 : α51} {a52 : α52} {R : α0 → α1 → α2 → α3 → α4 → α5 → α6 → α7 → α8 → α9 → α10 → α11 → α12 → α13 → α14 → α15 → α16 → α17 → α18 → α19 → α20 → α21 → α22 → α23 → α24 → α25 → α26 → α27 → α28 → α29 → α30 → α31 → α32 → α33 → α34 → α35 → α36 → α37 → α38 → α39 → α40 → α41 → α42 → α43 → α44 → α45 → α46 → α47 → α48 → α49 → α50 → α51 → α52 → Prop} (h : R a0 a1 a2 a3 a4 a5 a6 a7 a8 a9 a10 a11 a12 a13 a14 a15 a16 a17 a18 a19 a20 a21 a22 a23 a24 a25 a26 a27 a28 a29 a30 a31 a32 a33 a34 a35 a36 a37 a38 a39 a40 a41 a42 a43 a44 a45 a46 a47 a48 a49 a50 a51 a52) : wp (some (a0, a1, a2, a3, a4, a5, a6, a7, a8, a9, a10, a11, a12, a13, a14, a15, a16, a17, a18, a19, a20, a21, a22, a23, a24, a25, a26, a27, a28, a29, a30, a31, a32, a33, a34, a35, a36, a37, a38, a39, a40, a41, a42, a43, a44, a45, a46, a47, a48, a49, a50, a51, a52)) (cu53 R) := ⟨_, rfl, h⟩
theorem wp_bd53 {α0 α1 α2 α3 α4 α5 α6 α7 α8 α9 α10 α11 α12 α13 α14 α15 α16 α17 α18 α19 α20 α21 α22 α23 α24 α25 α26 α27 α28 α29 α30 α31 α32 α33 α34 α35 α36 α37 α38 α39 α40 α41 α42 α43 α44 α45 α46 α47 α48 α49 α50 α51 α52 β : Type} {x : Option (α0 × α1 × α2 × α3 × α4 × α5 × α6 × α7 × α8 × α9 × α10 × α11 × α12 × α13 × α14 × α15 × α16 × α17 × α18 × α19 × α20 × α21 × α22 × α23 × α24 × α25 × α26 × α27 × α28 × α29 × α30 × α31 × α32 × α33 × α34 × α35 × α36 × α37 × α38 × α39 × α40 × α41 × α42 × α43 × α44 × α45 × α46 × α47 × α48 × α49 × α50 × α51 × α52)} {k : α0 → α1 → α2 → α3 → α4 → α5 → α6 → α7 → α8 → α9 → α10 → α11 → α12 → α13 → α14 → α15 → α16 → α17 → α18 → α19 → α20 → α21 → α22 → α23 → α24 → α25 → α26 → α27 → α28 → α29 → α30 → α31 → α32 → α33 → α34 → α35 → α36 → α37 → α38 → α39 → α40 → α41 → α42 → α43 → α44 → α45 → α46 → α47 → α48 → α49 → α50 → α51 → α52 → Option β} {R : α0 → α1 → α2 → α3 → α4 → α5 → α6 → α7 → α8 → α9 → α10 → α11 → α12 → α13 → α14 → α15 → α16 → α17 → α18 → α19 → α20 → α21 → α22 → α23 → α24 → α25 → α26 → α27 → α28 → α29 → α30 → α31 → α32 → α33 → α34 → α35 → α36 → α37 → α38 → α39 → α40 → α41 → α42 → α43 → α44 → α45 → α46 → α47 → α48 → α49 → α50 → α51 → α52 → Prop} {Q : β → Prop} (h : wp x (cu53 R)) (g : ∀ a0 a1 a2 a3 a4 a5 a6 a7 a8 a9 a10 a11 a12 a13 a14 a15 a16 a17 a18 a19 a20 a21 a22 a23 a24 a25 a26 a27 a28 a29 a30 a31 a32 a33 a34 a35 a36 a37 a38 a39 a40 a41 a42 a43 a44 a45 a46 a47 a48 a49 a50 a51 a52, R a0 a1 a2 a3 a4 a5 a6 a7 a8 a9 a10 a11 a12 a13 a14 a15 a16 a17 a18 a19 a20 a21 a22 a23 a24 a25 a26 a27 a28 a29 a30 a31 a32 a33 a34 a35 a36 a37 a38 a39 a40 a41 a42 a43 a44 a45 a46 a47 a48 a49 a50 a51 a52 → wp (k a0 a1 a2 a3 a4 a5 a6 a7 a8 a9 a10 a11 a12 a13 a14 a15 a16 a17 a18 a19 a20 a21 a22 a23 a24 a25 a26 a27 a28 a29 a30 a31 a32 a33 a34 a35 a36 a37 a38 a39 a40 a41 a42 a43 a44 a45 a46 a47 a48 a49 a50 a51 a52) Q) : wp (mm_bd53 x k) Q := by
  obtain ⟨⟨a0, a1, a2, a3, a4, a5, a6, a7, a8, a9, a10, a11, a12, a13, a14, a15, a16, a17, a18, a19, a20, a21, a22, a23, a24, a25, a26, a27, a28, a29, a30, a31, a32, a33, a34, a35, a36, a37, a38, a39, a40, a41, a42, a43, a44, a45, a46, a47, a48, a49, a50, a51, a52⟩, e, q⟩ := h
  rw [e]
  exact g a0 a1 a2 a3 a4 a5 a6 a7 a8 a9 a10 a11 a12 a13 a14 a15 a16 a17 a18 a19 a20 a21 a22 a23 a24 a25 a26 a27 a28 a29 a30 a31 a32 a33 a34 a35 a36 a37 a38 a39 a40 a41 a42 a43 a44 a45 a46 a47 a48 a49 a50 a51 a52 q
theorem wp_in53 {α0 α1 α2 α3 α4 α5 α6 α7 α8 α9 α10 α11 α12 α13 α14 α15 α16 α17 α18 α19 α20 α21 α22 α23 α24 α25 α26 α27 α28 α29 α30 α31 α32 α33 α34 α35 α36 α37 α38 α39 α40 α41 α42 α43 α44 α45 α46 α47 α48 α49 α50 α51 α52 β : Type} {x : Option (α0 × α1 × α2 × α3 × α4 × α5 × α6 × α7 × α8 × α9 × α10 × α11 × α12 × α13 × α14 × α15 × α16 × α17 × α18 × α19 × α20 × α21 × α22 × α23 × α24 × α25 × α26 × α27 × α28 × α29 × α30 × α31 × α32 × α33 × α34 × α35 × α36 × α37 × α38 × α39 × α40 × α41 × α42 × α43 × α44 × α45 × α46 × α47 × α48 × α49 × α50 × α51 × α52)} {k : α0 → α1 → α2 → α3 → α4 → α5 → α6 → α7 → α8 → α9 → α10 → α11 → α12 → α13 → α14 → α15 → α16 → α17 → α18 → α19 → α20 → α21 → α22 → α23 → α24 → α25 → α26 → α27 → α28 → α29 → α30 → α31 → α32 → α33 → α34 → α35 → α36 → α37 → α38 → α39 → α40 → α41 → α42 → α43 → α44 → α45 → α46 → α47 → α48 → α49 → α50 → α51 → α52 → Option β} {Q : β → Prop} (h : wp x (cu53 (fun a0 a1 a2 a3 a4 a5 a6 a7 a8 a9 a10 a11 a12 a13 a14 a15 a16 a17 a18 a19 a20 a21 a22 a23 a24 a25 a26 a27 a28 a29 a30 a31 a32 a33 a34 a35 a36 a37 a38 a39 a40 a41 a42 a43 a44 a45 a46 a47 a48 a49 a50 a51 a52 => wp (k a0 a1 a2 a3 a4 a5 a6 a7 a8 a9 a10 a11 a12 a13 a14 a15 a16 a17 a18 a19 a20 a21 a22 a23 a24 a25 a26 a27 a28 a29 a30 a31 a32 a33 a34 a35 a36 a37 a38 a39 a40 a41 a42 a43 a44 a45 a46 a47 a48 a49 a50 a51 a52) Q))) : wp (mm_bd53 x k) Q := wp_bd53 h (fun _ _ _ _ _ _ _ _ _ _ _ _ _ _ _ _ _ _ _ _ _ _ _ _ _ _ _ _ _ _ _ _ _ _ _ _ _ _ _ _ _ _ _ _ _ _ _ _ _ _ _ _ _ q => q)
theorem wp_cu53 {α0 α1 α2 α3 α4 α5 α6 α7 α8 α9 α10 α11 α12 α13 α14 α15 α16 α17 α18 α19 α20 α21 α22 α23 α24 α25 α26 α27 α28 α29 α30 α31 α32 α33 α34 α35 α36 α37 α38 α39 α40 α41 α42 α43 α44 α45 α46 α47 α48 α49 α50 α51 α52 : Type} {x : Option (α0 × α1 × α2 × α3 × α4 × α5 × α6 × α7 × α8 × α9 × α10 × α11 × α12 × α13 × α14 × α15 × α16 × α17 × α18 × α19 × α20 × α21 × α22 × α23 × α24 × α25 × α26 × α27 × α28 × α29 × α30 × α31 × α32 × α33 × α34 × α35 × α36 × α37 × α38 × α39 × α40 × α41 × α42 × α43 × α44 × α45 × α46 × α47 × α48 × α49 × α50 × α51 × α52)} {R R' : α0 → α1 → α2 → α3 → α4 → α5 → α6 → α7 → α8 → α9 → α10 → α11 → α12 → α13 → α14 → α15 → α16 → α17 → α18 → α19 → α20 → α21 → α22 → α23 → α24 → α25 → α26 → α27 → α28 → α29 → α30 → α31 → α32 → α33 → α34 → α35 → α36 → α37 → α38 → α39 → α40 → α41 → α42 → α43 → α44 → α45 → α46 → α47 → α48 → α49 → α50 → α51 → α52 → Prop} (h : wp x (cu53 R)) (g : ∀ a0 a1 a2 a3 a4 a5 a6 a7 a8 a9 a10 a11 a12 a13 a14 a15 a16 a17 a18 a19 a20 a21 a22 a23 a24 a25 a26 a27 a28 a29 a30 a31 a32 a33 a34 a35 a36 a37 a38 a39 a40 a41 a42 a43 a44 a45 a46 a47 a48 a49 a50 a51 a52, R a0 a1 a2 a3 a4 a5 a6 a7 a8 a9 a10 a11 a12 a13 a14 a15 a16 a17 a18 a19 a20 a21 a22 a23 a24 a25 a26 a27 a28 a29 a30 a31 a32 a33 a34 a35 a36 a37 a38 a39 a40 a41 a42 a43 a44 a45 a46 a47 a48 a49 a50 a51 a52 → R' a0 a1 a2 a3 a4 a5 a6 a7 a8 a9 a10 a11 a12 a13 a14 a15 a16 a17 a18 a19 a20 a21 a22 a23 a24 a25 a26 a27 a28 a29 a30 a31 a32 a33 a34 a35 a36 a37 a38 a39 a40 a41 a42 a43 a44 a45 a46 a47 a48 a49 a50 a51 a52) : wp x (cu53 R') := by
  obtain ⟨⟨a0, a1, a2, a3, a4, a5, a6, a7, a8, a9, a10, a11, a12, a13, a14, a15, a16, a17, a18, a19, a20, a21, a22, a23, a24, a25, a26, a27, a28, a29, a30, a31, a32, a33, a34, a35, a36, a37, a38, a39, a40, a41, a42, a43, a44, a45, a46, a47, a48, a49, a50, a51, a52⟩, e, q⟩ := h
  exact ⟨_, e, g a0 a1 a2 a3 a4 a5 a6 a7 a8 a9 a10 a11 a12 a13 a14 a15 a16 a17 a18 a19 a20 a21 a22 a23 a24 a25 a26 a27 a28 a29 a30 a31 a32 a33 a34 a35 a36 a37 a38 a39 a40 a41 a42 a43 a44 a45 a46 a47 a48 a49 a50 a51 a52 q⟩
def cu62 {α0 α1 α2 α3 α4 α5 α6 α7 α8 α9 α10 α11 α12 α13 α14 α15 α16 α17 α18 α19 α20 α21 α22 α23 α24 α25 α26 α27 α28 α29 α30 α31 α32 α33 α34 α35 α36 α37 α38 α39 α40 α41 α42 α43 α44 α45 α46 α47 α48 α49 α50 α51 α52 α53 α54 α55 α56 α57 α58 α59 α60 α61 : Type} (R : α0 → α1 → α2 → α3 → α4 → α5 → α6 → α7 → α8 → α9 → α10 → α11 → α12 → α13 → α14 → α15 → α16 → α17 → α18 → α19 → α20 → α21 → α22 → α23 → α24 → α25 → α26 → α27 → α28 → α29 → α30 → α31 → α32 → α33 → α34 → α35 → α36 → α37 → α38 → α39 → α40 → α41 → α42 → α43 → α44 → α45 → α46 → α47 → α48 → α49 → α50 → α51 → α52 → α53 → α54 → α55 → α56 → α57 → α58 → α59 → α60 → α61 → Prop) : α0 × α1 × α2 × α3 × α4 × α5 × α6 × α7 × α8 × α9 × α10 × α11 × α12 × α13 × α14 × α15 × α16 × α17 × α18 × α19 × α20 × α21 × α22 × α23 × α24 × α25 × α26 × α27 × α28 × α29 × α30 × α31 × α32 × α33 × α34 × α35 × α36 × α37 × α38 × α39 × α40 × α41 × α42 × α43 × α44 × α45 × α46 × α47 × α48 × α49 × α50 × α51 × α52 × α53 × α54 × α55 × α56 × α57 × α58 × α59 × α60 × α61 → Prop := fun t => R t.1 t.2.1 t.2.2.1 t.2.2.2.1 t.2.2.2.2.1 t.2.2.2.2.2.1 t.2.2.2.2.2.2.1 t.2.2.2.2.2.2.2.1 t.2.2.2.2.2.2.2.2.1 t.2.2.2.2.2.2.2.2.2.1 t.2.2.2.2.2.2.2.2.2.2.1 t.2.2.2.2.2.2.2.2.2.2.2.1 t.2.2.2.2.2.2.2.2.2.2.2.2.1 t.2.2.2.2.2.2.2.2.2.2.2.2.2.1 t.2.2.2.2.2.2.2.2.2.2.2.2.2.2.1 t.2.2.2.2.2.2.2.2.2.2.2.2.2.2.2.1 t.2.2.2.2.2.2.2.2.2.2.2.2.2.2.2.2.1 t.2.2.2.2.2.2.2.2.2.2.2.2.2.2.2.2.2.1 t.2.2.2.2.2.2.2.2.2.2.2.2.2.2.2.2.2.2.1 t.2.2.2.2.2.2.2.2.2.2.2.2.2.2.2.2.2.2.2.1 t.2.2.2.2.2.2.2.2.2.2.2.2.2.2.2.2.2.2.2.2.1 t.2.2.2.2.2.2.2.2.2.2.2.2.2.2.2.2.2.2.2.2.2.1 t.2.2.2.2.2.2.2.2.2.2.2.2.2.2.2.2.2.2.2.2.2.2.1 t.2.2.2.2.2.2.2.2.2.2.2.2.2.2.2.2.2.2.2.2.2.2.2.1 t.2.2.2.2.2.2.2.2.2.2.2.2.2.2.2.2.2.2.2.2.2.2.2.2.1 t.2.2.2.2.2.2.2.2.2.2.2.2.2.2.2.2.2.2.2.2.2.2.2.2.2.1 t.2.2.2.2.2.2.2.2.2.2.2.2.2.2.2.2.2.2.2.2.2.2.2.2.2.2.1 t.2.2.2.2.2.2.2.2.2.2.2.2.2.2.2.2.2.2.2.2.2.2.2.2.2.2.2.1 t.2.2.2.2.2.2.2.2.2.2.2.2.2.2.2.2.2.2.2.2.2.2.2.2.2.2.2.2.1 t.2.2.2.2.2.2.2.2.2.2.2.2.2.2.2.2.2.2.2.2.2.2.2.2.2.2.2.2.2.1 t.2.2.2.2.2.2.2.2.2.2.2.2.2.2.2.2.2.2.2.2.2.2.2.2.2.2.2.2.2.2.1 t.2.2.2.2.2.2.2.2.2.2.2.2.2.2.2.2.2.2.2.2.2.2.2.2.2.2.2.2.2.2.2.1 t.2.2.2.2.2.2.2.2.2.2.2.2.2.2.2.2.2.2.2.2.2.2.2.2.2.2.2.2.2.2.2.2.1 t.2.2.2.2.2.2.2.2.2.2.2.2.2.2.2.2.2.2.2.2.2.2.2.2.2.2.2.2.2.2.2.2.2.1 t.2.2.2.2.2.2.2.2.2.2.2.2.2.2.2.2.2.2.2.2.2.2.2.2.2.2.2.2.2.2.2.2.2.2.1 t.2.2.2.2.2.2.2.2.2.2.2.2.2.2.2.2.2.2.2.2.2.2.2.2.2.2.2.2.2.2.2.2.2.2.2.1 t.2.2.2.2.2.2.2.2.2.2.2.2.2.2.2.2.2.2.2.2.2.2.2.2.2.2.2.2.2.2.2.2.2.2.2.2.1 t.2.2.2.2.2.2.2.2.2.2.2.2.2.2.2.2.2.2.2.2.2.2.2.2.2.2.2.2.2.2.2.2.2.2.2.2.2.1 t.2.2.2.2.2.2.2.2.2.2.2.2.2.2.2.2.2.2.2.2.2.2.2.2.2.2.2.2.2.2.2.2.2.2.2.2.2.2.1 t.2.2.2.2.2.2.2.2.2.2.2.2.2.2.2.2.2.2.2.2.2.2.2.2.2.2.2.2.2.2.2.2.2.2.2.2.2.2.2.1 t.2.2.2.2.2.2.2.2.2.2.2.2.2.2.2.2.2.2.2.2.2.2.2.2.2.2.2.2.2.2.2.2.2.2.2.2.2.2.2.2.1 t.2.2.2.2.2.2.2.2.2.2.2.2.2.2.2.2.2.2.2.2.2.2.2.2.2.2.2.2.2.2.2.2.2.2.2.2.2.2.2.2.2.1 t.2.2.2.2.2.2.2.2.2.2.2.2.2.2.2.2.2.2.2.2.2.2.2.2.2.2.2.2.2.2.2.2.2.2.2.2.2.2.2.2.2.2.1 t.2.2.2.2.2.2.2.2.2.2.2.2.2.2.2.2.2.2.2.2.2.2.2.2.2.2.2.2.2.2.2.2.2.2.2.2.2.2.2.2.2.2.2.1 t.2.2.2.2.2.2.2.2.2.2.2.2.2.2.2.2.2.2.2.2.2.2.2.2.2.2.2.2.2.2.2.2.2.2.2.2.2.2.2.2.2.2.2.2.1 t.2.2.2.2.2.2.2.2.2.2.2.2.2.2.2.2.2.2.2.2.2.2.2.2.2.2.2.2.2.2.2.2.2.2.2.2.2.2.2.2.2.2.2.2.2.1 t.2.2.2.2.2.2.2.2.2.2.2.2.2.2.2.2.2.2.2.2.2.2.2.2.2.2.2.2.2.2.2.2.2.2.2.2.2.2.2.2.2.2.2.2.2.2.1 t.2.2.2.2.2.2.2.2.2.2.2.2.2.2.2.2.2.2.2.2.2.2.2.2.2.2.2.2.2.2.2.2.2.2.2.2.2.2.2.2.2.2.2.2.2.2.2.1 t.2.2.2.2.2.2.2.2.2.2.2.2.2.2.2.2.2.2.2.2.2.2.2.2.2.2.2.2.2.2.2.2.2.2.2.2.2.2.2.2.2.2.2.2.2.2.2.2.1 t.2.2.2.2.2.2.2.2.2.2.2.2.2.2.2.2.2.2.2.2.2.2.2.2.2.2.2.2.2.2.2.2.2.2.2.2.2.2.2.2.2.2.2.2.2.2.2.2.2.1 t.2.2.2.2.2.2.2.2.2.2.2.2.2.2.2.2.2.2.2.2.2.2.2.2.2.2.2.2.2.2.2.2.2.2.2.2.2.2.2.2.2.2.2.2.2.2.2.2.2.2.1 t.2.2.2.2.2.2.2.2.2.2.2.2.2.2.2.2.2.2.2.2.2.2.2.2.2.2.2.2.2.2.2.2.2.2.2.2.2.2.2.2.2.2.2.2.2.2.2.2.2.2.2.1 t.2.2.2.2.2.2.2.2.2.2.2.2.2.2.2.2.2.2.2.2.2.2.2.2.2.2.2.2.2.2.2.2.2.2.2.2.2.2.2.2.2.2.2.2.2.2.2.2.2.2.2.2.1 t.2.2.2.2.2.2.2.2.2.2.2.2.2.2.2.2.2.2.2.2.2.2.2.2.2.2.2.2.2.2.2.2.2.2.2.2.2.2.2.2.2.2.2.2.2.2.2.2.2.2.2.2.2.1 t.2.2.2.2.2.2.2.2.2.2.2.2.2.2.2.2.2.2.2.2.2.2.2.2.2.2.2.2.2.2.2.2.2.2.2.2.2.2.2.2.2.2.2.2.2.2.2.2.2.2.2.2.2.2.1 t.2.2.2.2.2.2.2.2.2.2.2.2.2.2.2.2.2.2.2.2.2.2.2.2.2.2.2.2.2.2.2.2.2.2.2.2.2.2.2.2.2.2.2.2.2.2.2.2.2.2.2.2.2.2.2.1 t.2.2.2.2.2.2.2.2.2.2.2.2.2.2.2.2.2.2.2.2.2.2.2.2.2.2.2.2.2.2.2.2.2.2.2.2.2.2.2.2.2.2.2.2.2.2.2.2.2.2.2.2.2.2.2.2.1 t.2.2.2.2.2.2.2.2.2.2.2.2.2.2.2.2.2.2.2.2.2.2.2.2.2.2.2.2.2.2.2.2.2.2.2.2.2.2.2.2.2.2.2.2.2.2.2.2.2.2.2.2.2.2.2.2.2.1 t.2.2.2.2.2.2.2.2.2.2.2.2.2.2.2.2.2.2.2.2.2.2.2.2.2.2.2.2.2.2.2.2.2.2.2.2.2.2.2.2.2.2.2.2.2.2.2.2.2.2.2.2.2.2.2.2.2.2.1 t.2.2.2.2.2.2.2.2.2.2.2.2.2.2.2.2.2.2.2.2.2.2.2.2.2.2.2.2.2.2.2.2.2.2.2.2.2.2.2.2.2.2.2.2.2.2.2.2.2.2.2.2.2.2.2.2.2.2.2.1 t.2.2.2.2.2.2.2.2.2.2.2.2.2.2.2.2.2.2.2.2.2.2.2.2.2.2.2.2.2.2.2.2.2.2.2.2.2.2.2.2.2.2.2.2.2.2.2.2.2.2.2.2.2.2.2.2.2.2.2.2.1 t.2.2.2.2.2.2.2.2.2.2.2.2.2.2.2.2.2.2.2.2.2.2.2.2.2.2.2.2.2.2.2.2.2.2.2.2.2.2.2.2.2.2.2.2.2.2.2.2.2.2.2.2.2.2.2.2.2.2.2.2.2
theorem wp_so62 {α0 α1 α2 α3 α4 α5 α6 α7 α8 α9 α10 α11 α12 α13 α14 α15 α16 α17 α18 α19 α20 α21 α22 α23 α24 α25 α26 α27 α28 α29 α30 α31 α32 α33 α34 α35 α36 α37 α38 α39 α40 α41 α42 α43 α44 α45 α46 α47 α48 α49 α50 α51 α52 α53 α54 α55 α56 α57 α58 α59 α60 α61 : Type} {a0 : α0} {a1 : α1} {a2 : α2} {a3 : α3} {a4 : α4} {a5 : α5} {a6 : α6} {a7 : α7} {a8 : α8} {a9 : α9} {a10 : α10} {a11 : α11} {a12 : α12} {a13 : α13} {a14 : α14} {a15 : α15} {a16 : α16} {a17 : α17} {a18 : α18} {a19 : α19} {a20 : α20} {a21 : α21} {a22 : α22} {a23 : α23} {a24 : α24} {a25 : α25} {a26 : α26} {a27 : α27} {a28 : α28} {a29 : α29} {a30 : α30} {a31 : α31} {a32 : α32} {a33 : α33} {a34 : α34} {a35 : α35} {a36 : α36} {a37 : α37} {a38 : α38} {a39 : α39} {a40 : α40} {a41 : α41} {a42 : α42} {a43 : α43} {a44 : α44} {a45 : α45} {a46 : α46} {a47 : α47} {a48 : α48} {a49 : α49} {a50 : α50} {a51 : α51} {a52 : α52} {a53 : α53} {a54 : α54} {a55 : α55} {a56 : α56} {a57 : α57} {a58 : α58} {a59 : α59} {a60 : α60} {a61 : α61} {R : α0 → α1 → α2 → α3 → α4 → α5 → α6 → α7 → α8 → α9 → α10 → α11 → α12 → α13 → α14 → α15 → α16 → α17 → α18 → α19 → α20 → α21 → α22 → α23 → α24 → α25 → α26 → α27 → α28 → α29 → α30 → α31 → α32 → α33 → α34 → α35 → α36 → α37 → α38 → α39 → α40 → α41 → α42 → α43 → α44 → α45 → α46 → α47 → α48 → α49 → α50 → α51 → α52 → α53 → α54 → α55 → α56 → α57 → α58 → α59 → α60 → α61 → Prop} (h : R a0 a1 a2 a3 a4 a5 a6 a7 a8 a9 a10 a11 a12 a13 a14 a15 a16 a17 a18 a19 a20 a21 a22 a23 a24 a25 a26 a27 a28 a29 a30 a31 a32 a33 a34 a35 a36 a37 a38 a39 a40 a41 a42 a43 a44 a45 a46 a47 a48 a49 a50 a51 a52 a53 a54 a55 a56 a57 a58 a59 a60 a61) : wp (some (a0, a1, a2, a3, a4, a5, a6, a7, a8, a9, a10, a11, a12, a13, a14, a15, a16, a17, a18, a19, a20, a21, a22, a23, a24, a25, a26, a27, a28, a29, a30, a31, a32, a33, a34, a35, a36, a37, a38, a39, a40, a41, a42, a43, a44, a45, a46, a47, a48, a49, a50, a51, a52, a53, a54, a55, a56, a57, a58, a59, a60, a61)) (cu62 R) := ⟨_, rfl, h⟩
theorem wp_bd62 {α0 α1 α2 α3 α4 α5 α6 α7 α8 α9 α10 α11 α12 α13 α14 α15 α16 α17 α18 α19 α20 α21 α22 α23 α24 α25 α26 α27 α28 α29 α30 α31 α32 α33 α34 α35 α36 α37 α38 α39 α40 α41 α42 α43 α44 α45 α46 α47 α48 α49 α50 α51 α52 α53 α54 α55 α56 α57 α58 α59 α60 α61 β : Type} {x : Option (α0 × α1 × α2 × α3 × α4 × α5 × α6 × α7 × α8 × α9 × α10 × α11 × α12 × α13 × α14 × α15 × α16 × α17 × α18 × α19 × α20 × α21 × α22 × α23 × α24 × α25 × α26 × α27 × α28 × α29 × α30 × α31 × α32 × α33 × α34 × α35 × α36 × α37 × α38 × α39 × α40 × α41 × α42 × α43 × α44 × α45 × α46 × α47 × α48 × α49 × α50 × α51 × α52 × α53 × α54 × α55 × α56 × α57 × α58 × α59 × α60 × α61)} {k : α0 → α1 → α2 → α3 → α4 → α5 → α6 → α7 → α8 → α9 → α10 → α11 → α12 → α13 → α14 → α15 → α16 → α17 → α18 → α19 → α20 → α21 → α22 → α23 → α24 → α25 → α26 → α27 → α28 → α29 → α30 → α31 → α32 → α33 → α34 → α35 → α36 → α37 → α38 → α39 → α40 → α41 → α42 → α43 → α44 → α45 → α46 → α47 → α48 → α49 → α50 → α51 → α52 → α53 → α54 → α55 → α56 → α57 → α58 → α59 → α60 → α61 → Option β} {R : α0 → α1 → α2 → α3 → α4 → α5 → α6 → α7 → α8 → α9 → α10 → α11 → α12 → α13 → α14 → α15 → α16 → α17 → α18 → α19 → α20 → α21 → α22 → α23 → α24 → α25 → α26 → α27 → α28 → α29 → α30 → α31 → α32 → α33 → α34 → α35 → α36 → α37 → α38 → α39 → α40 → α41 → α42 → α43 → α44 → α45 → α46 → α47 → α48 → α49 → α50 → α51 → α52 → α53 → α54 → α55 → α56 → α57 → α58 → α59 → α60 → α61 → Prop} {Q : β → Prop} (h : wp x (cu62 R)) (g : ∀ a0 a1 a2 a3 a4 a5 a6 a7 a8 a9 a10 a11 a12 a13 a14 a15 a16 a17 a18 a19 a20 a21 a22 a23 a24 a25 a26 a27 a28 a29 a30 a31 a32 a33 a34 a35 a36 a37 a38 a39 a40 a41 a42 a43 a44 a45 a46 a47 a48 a49 a50 a51 a52 a53 a54 a55 a56 a57 a58 a59 a60 a61, R a0 a1 a2 a3 a4 a5 a6 a7 a8 a9 a10 a11 a12 a13 a14 a15 a16 a17 a18 a19 a20 a21 a22 a23 a24 a25 a26 a27 a28 a29 a30 a31 a32 a33 a34 a35 a36 a37 a38 a39 a40 a41 a42 a43 a44 a45 a46 a47 a48 a49 a50 a51 a52 a53 a54 a55 a56 a57 a58 a59 a60 a61 → wp (k a0 a1 a2 a3 a4 a5 a6 a7 a8 a9 a10 a11 a12 a13 a14 a15 a16 a17 a18 a19 a20 a21 a22 a23 a24 a25 a26 a27 a28 a29 a30 a31 a32 a33 a34 a35 a36 a37 a38 a39 a40 a41 a42 a43 a44 a45 a46 a47 a48 a49 a50 a51 a52 a53 a54 a55 a56 a57 a58 a59 a60 a61) Q) : wp (mm_bd62 x k) Q := by
  obtain ⟨⟨a0, a1, a2, a3, a4, a5, a6, a7, a8, a9, a10, a11, a12, a13, a14, a15, a16, a17, a18, a19, a20, a21, a22, a23, a24, a25, a26, a27, a28, a29, a30, a31, a32, a33, a34, a35, a36, a37, a38, a39, a40, a41, a42, a43, a44, a45, a46, a47, a48, a49, a50, a51, a52, a53, a54, a55, a56, a57, a58, a59, a60, a61⟩, e, q⟩ := h
  rw [e]
  exact g a0 a1 a2 a3 a4 a5 a6 a7 a8 a9 a10 a11 a12 a13 a14 a15 a16 a17 a18 a19 a20 a21 a22 a23 a24 a25 a26 a27 a28 a29 a30 a31 a32 a33 a34 a35 a36 a37 a38 a39 a40 a41 a42 a43 a44 a45 a46 a47 a48 a49 a50 a51 a52 a53 a54 a55 a56 a57 a58 a59 a60 a61 q
theorem wp_in62 {α0 α1 α2 α3 α4 α5 α6 α7 α8 α9 α10 α11 α12 α13 α14 α15 α16 α17 α18 α19 α20 α21 α22 α23 α24 α25 α26 α27 α28 α29 α30 α31 α32 α33 α34 α35 α36 α37 α38 α39 α40 α41 α42 α43 α44 α45 α46 α47 α48 α49 α50 α51 α52 α53 α54 α55 α56 α57 α58 α59 α60 α61 β : Type} {x : Option (α0 × α1 × α2 × α3 × α4 × α5 × α6 × α7 × α8 × α9 × α10 × α11 × α12 × α13 × α14 × α15 × α16 × α17 × α18 × α19 × α20 × α21 × α22 × α23 × α24 × α25 × α26 × α27 × α28 × α29 × α30 × α31 × α32 × α33 × α34 × α35 × α36 × α37 × α38 × α39 × α40 × α41 × α42 × α43 × α44 × α45 × α46 × α47 × α48 × α49 × α50 × α51 × α52 × α53 × α54 × α55 × α56 × α57 × α58 × α59 × α60 × α61)} {k : α0 → α1 → α2 → α3 → α4 → α5 → α6 → α7 → α8 → α9 → α10 → α11 → α12 → α13 → α14 → α15 → α16 → α17 → α18 → α19 → α20 → α21 → α22 → α23 → α24 → α25 → α26 → α27 → α28 → α29 → α30 → α31 → α32 → α33 → α34 → α35 → α36 → α37 → α38 → α39 → α40 → α41 → α42 → α43 → α44 → α45 → α46 → α47 → α48 → α49 → α50 → α51 → α52 → α53 → α54 → α55 → α56 → α57 → α58 → α59 → α60 → α61 → Option β} {Q : β → Prop} (h : wp x (cu62 (fun a0 a1 a2 a3 a4 a5 a6 a7 a8 a9 a10 a11 a12 a13 a14 a15 a16 a17 a18 a19 a20 a21 a22 a23 a24 a25 a26 a27 a28 a29 a30 a31 a32 a33 a34 a35 a36 a37 a38 a39 a40 a41 a42 a43 a44 a45 a46 a47 a48 a49 a50 a51 a52 a53 a54 a55 a56 a57 a58 a59 a60 a61 => wp (k a0 a1 a2 a3 a4 a5 a6 a7 a8 a9 a10 a11 a12 a13 a14 a15 a16 a17 a18 a19 a20 a21 a22 a23 a24 a25 a26 a27 a28 a29 a30 a31 a32 a33 a34 a35 a36 a37 a38 a39 a40 a41 a42 a43 a44 a45 a46 a47 a48 a49 a50 a51 a52 a53 a54 a55 a56 a57 a58 a59 a60 a61) Q))) : wp (mm_bd62 x k) Q := wp_bd62 h (fun _ _ _ _ _ _ _ _ _ _ _ _ _ _ _ _ _ _ _ _ _ _ _ _ _ _ _ _ _ _ _ _ _ _ _ _ _ _ _ _ _ _ _ _ _ _ _ _ _ _ _ _ _ _ _ _ _ _ _ _ _ _ q => q)
theorem wp_cu62 {α0 α1 α2 α3 α4 α5 α6 α7 α8 α9 α10 α11 α12 α13 α14 α15 α16 α17 α18 α19 α20 α21 α22 α23 α24 α25 α26 α27 α28 α29 α30 α31 α32 α33 α34 α35 α36 α37 α38 α39 α40 α41 α42 α43 α44 α45 α46 α47 α48 α49 α50 α51 α52 α53 α54 α55 α56 α57 α58 α59 α60 α61 : Type} {x : Option (α0 × α1 × α2 × α3 × α4 × α5 × α6 × α7 × α8 × α9 × α10 × α11 × α12 × α13 × α14 × α15 × α16 × α17 × α18 × α19 × α20 × α21 × α22 × α23 × α24 × α25 × α26 × α27 × α28 × α29 × α30 × α31 × α32 × α33 × α34 × α35 × α36 × α37 × α38 × α39 × α40 × α41 × α42 × α43 × α44 × α45 × α46 × α47 × α48 × α49 × α50 × α51 × α52 × α53 × α54 × α55 × α56 × α57 × α58 × α59 × α60 × α61)} {R R' : α0 → α1 → α2 → α3 → α4 → α5 → α6 → α7 → α8 → α9 → α10 → α11 → α12 → α13 → α14 → α15 → α16 → α17 → α18 → α19 → α20 → α21 → α22 → α23 → α24 → α25 → α26 → α27 → α28 → α29 → α30 → α31 → α32 → α33 → α34 → α35 → α36 → α37 → α38 → α39 → α40 → α41 → α42 → α43 → α44 → α45 → α46 → α47 → α48 → α49 → α50 → α51 → α52 → α53 → α54 → α55 → α56 → α57 → α58 → α59 → α60 → α61 → Prop} (h : wp x (cu62 R)) (g : ∀ a0 a1 a2 a3 a4 a5 a6 a7 a8 a9 a10 a11 a12 a13 a14 a15 a16 a17 a18 a19 a20 a21 a22 a23 a24 a25 a26 a27 a28 a29 a30 a31 a32 a33 a34 a35 a36 a37 a38 a39 a40 a41 a42 a43 a44 a45 a46 a47 a48 a49 a50 a51 a52 a53 a54 a55 a56 a57 a58 a59 a60 a61, R a0 a1 a2 a3 a4 a5 a6 a7 a8 a9 a10 a11 a12 a13 a14 a15 a16 a17 a18 a19 a20 a21 a22 a23 a24 a25 a26 a27 a28 a29 a30 a31 a32 a33 a34 a35 a36 a37 a38 a39 a40 a41 a42 a43 a44 a45 a46 a47 a48 a49 a50 a51 a52 a53 a54 a55 a56 a57 a58 a59 a60 a61 → R' a0 a1 a2 a3 a4 a5 a6 a7 a8 a9 a10 a11 a12 a13 a14 a15 a16 a17 a18 a19 a20 a21 a22 a23 a24 a25 a26 a27 a28 a29 a30 a31 a32 a33 a34 a35 a36 a37 a38 a39 a40 a41 a42 a43 a44 a45 a46 a47 a48 a49 a50 a51 a52 a53 a54 a55 a56 a57 a58 a59 a60 a61) : wp x (cu62 R') := by
  obtain ⟨⟨a0, a1, a2, a3, a4, a5, a6, a7, a8, a9, a10, a11, a12, a13, a14, a15, a16, a17, a18, a19, a20, a21, a22, a23, a24, a25, a26, a27, a28, a29, a30, a31, a32, a33, a34, a35, a36, a37, a38, a39, a40, a41, a42, a43, a44, a45, a46, a47, a48, a49, a50, a51, a52, a53, a54, a55, a56, a57, a58, a59, a60, a61⟩, e, q⟩ := h
  exact ⟨_, e, g a0 a1 a2 a3 a4 a5 a6 a7 a8 a9 a10 a11 a12 a13 a14 a15 a16 a17 a18 a19 a20 a21 a22 a23 a24 a25 a26 a27 a28 a29 a30 a31 a32 a33 a34 a35 a36 a37 a38 a39 a40 a41 a42 a43 a44 a45 a46 a47 a48 a49 a50 a51 a52 a53 a54 a55 a56 a57 a58 a59 a60 a61 q⟩
def cu63 {α0 α1 α2 α3 α4 α5 α6 α7 α8 α9 α10 α11 α12 α13 α14 α15 α16 α17 α18 α19 α20 α21 α22 α23 α24 α25 α26 α27 α28 α29 α30 α31 α32 α33 α34 α35 α36 α37 α38 α39 α40 α41 α42 α43 α44 α45 α46 α47 α48 α49 α50 α51 α52 α53 α54 α55 α56 α57 α58 α59 α60 α61 α62 : Type} (R : α0 → α1 → α2 → α3 → α4 → α5 → α6 → α7 → α8 → α9 → α10 → α11 → α12 → α13 → α14 → α15 → α16 → α17 → α18 → α19 → α20 → α21 → α22 → α23 → α24 → α25 → α26 → α27 → α28 → α29 → α30 → α31 → α32 → α33 → α34 → α35 → α36 → α37 → α38 → α39 → α40 → α41 → α42 → α43 → α44 → α45 → α46 → α47 → α48 → α49 → α50 → α51 → α52 → α53 → α54 → α55 → α56 → α57 → α58 → α59 → α60 → α61 → α62 → Prop) : α0 × α1 × α2 × α3 × α4 × α5 × α6 × α7 × α8 × α9 × α10 × α11 × α12 × α13 × α14 × α15 × α16 × α17 × α18 × α19 × α20 × α21 × α22 × α23 × α24 × α25 × α26 × α27 × α28 × α29 × α30 × α31 × α32 × α33 × α34 × α35 × α36 × α37 × α38 × α39 × α40 × α41 × α42 × α43 × α44 × α45 × α46 × α47 × α48 × α49 × α50 × α51 × α52 × α53 × α54 × α55 × α56 × α57 × α58 × α59 × α60 × α61 × α62 → Prop := fun t => R t.1 t.2.1 t.2.2.1 t.2.2.2.1 t.2.2.2.2.1 t.2.2.2.2.2.1 t.2.2.2.2.2.2.1 t.2.2.2.2.2.2.2.1 t.2.2.2.2.2.2.2.2.1 t.2.2.2.2.2.2.2.2.2.1 t.2.2.2.2.2.2.2.2.2.2.1 t.2.2.2.2.2.2.2.2.2.2.2.1 t.2.2.2.2.2.2.2.2.2.2.2.2.1 t.2.2.2.2.2.2.2.2.2.2.2.2.2.1 t.2.2.2.2.2.2.2.2.2.2.2.2.2.2.1 t.2.2.2.2.2.2.2.2.2.2.2.2.2.2.2.1 t.2.2.2.2.2.2.2.2.2.2.2.2.2.2.2.2.1 t.2.2.2.2.2.2.2.2.2.2.2.2.2.2.2.2.2.1 t.2.2.2.2.2.2.2.2.2.2.2.2.2.2.2.2.2.2.1 t.2.2.2.2.2.2.2.2.2.2.2.2.2.2.2.2.2.2.2.1 t.2.2.2.2.2.2.2.2.2.2.2.2.2.2.2.2.2.2.2.2.1 t.2.2.2.2.2.2.2.2.2.2.2.2.2.2.2.2.2.2.2.2.2.1 t.2.2.2.2.2.2.2.2.2.2.2.2.2.2.2.2.2.2.2.2.2.2.1 t.2.2.2.2.2.2.2.2.2.2.2.2.2.2.2.2.2.2.2.2.2.2.2.1 t.2.2.2.2.2.2.2.2.2.2.2.2.2.2.2.2.2.2.2.2.2.2.2.2.1 t.2.2.2.2.2.2.2.2.2.2.2.2.2.2.2.2.2.2.2.2.2.2.2.2.2.1 t.2.2.2.2.2.2.2.2.2.2.2.2.2.2.2.2.2.2.2.2.2.2.2.2.2.2.1 t.2.2.2.2.2.2.2.2.2.2.2.2.2.2.2.2.2.2.2.2.2.2.2.2.2.2.2.1 t.2.2.2.2.2.2.2.2.2.2.2.2.2.2.2.2.2.2.2.2.2.2.2.2.2.2.2.2.1 t.2.2.2.2.2.2.2.2.2.2.2.2.2.2.2.2.2.2.2.2.2.2.2.2.2.2.2.2.2.1 t.2.2.2.2.2.2.2.2.2.2.2.2.2.2.2.2.2.2.2.2.2.2.2.2.2.2.2.2.2.2.1 t.2.2.2.2.2.2.2.2.2.2.2.2.2.2.2.2.2.2.2.2.2.2.2.2.2.2.2.2.2.2.2.1 t.2.2.2.2.2.2.2.2.2.2.2.2.2.2.2.2.2.2.2.2.2.2.2.2.2.2.2.2.2.2.2.2.1 t.2.2.2.2.2.2.2.2.2.2.2.2.2.2.2.2.2.2.2.2.2.2.2.2.2.2.2.2.2.2.2.2.2.1 t.2.2.2.2.2.2.2.2.2.2.2.2.2.2.2.2.2.2.2.2.2.2.2.2.2.2.2.2.2.2.2.2.2.2.1 t.2.2.2.2.2.2.2.2.2.2.2.2.2.2.2.2.2.2.2.2.2.2.2.2.2.2.2.2.2.2.2.2.2.2.2.1 t.2.2.2.2.2.2.2.2.2.2.2.2.2.2.2.2.2.2.2.2.2.2.2.2.2.2.2.2.2.2.2.2.2.2.2.2.1 t.2.2.2.2.2.2.2.2.2.2.2.2.2.2.2.2.2.2.2.2.2.2.2.2.2.2.2.2.2.2.2.2.2.2.2.2.2.1 t.2.2.2.2.2.2.2.2.2.2.2.2.2.2.2.2.2.2.2.2.2.2.2.2.2.2.2.2.2.2.2.2.2.2.2.2.2.2.1 t.2.2.2.2.2.2.2.2.2.2.2.2.2.2.2.2.2.2.2.2.2.2.2.2.2.2.2.2.2.2.2.2.2.2.2.2.2.2.2.1 t.2.2.2.2.2.2.2.2.2.2.2.2.2.2.2.2.2.2.2.2.2.2.2.2.2.2.2.2.2.2.2.2.2.2.2.2.2.2.2.2.1 t.2.2.2.2.2.2.2.2.2.2.2.2.2.2.2.2.2.2.2.2.2.2.2.2.2.2.2.2.2.2.2.2.2.2.2.2.2.2.2.2.2.1 t.2.2.2.2.2.2.2.2.2.2.2.2.2.2.2.2.2.2.2.2.2.2.2.2.2.2.2.2.2.2.2.2.2.2.2.2.2.2.2.2.2.2.1 t.2.2.2.2.2.2.2.2.2.2.2.2.2.2.2.2.2.2.2.2.2.2.2.2.2.2.2.2.2.2.2.2.2.2.2.2.2.2.2.2.2.2.2.1 t.2.2.2.2.2.2.2.2.2.2.2.2.2.2.2.2.2.2.2.2.2.2.2.2.2.2.2.2.2.2.2.2.2.2.2.2.2.2.2.2.2.2.2.2.1 t.2.2.2.2.2.2.2.2.2.2.2.2.2.2.2.2.2.2.2.2.2.2.2.2.2.2.2.2.2.2.2.2.2.2.2.2.2.2.2.2.2.2.2.2.2.1 t.2.2.2.2.2.2.2.2.2.2.2.2.2.2.2.2.2.2.2.2.2.2.2.2.2.2.2.2.2.2.2.2.2.2.2.2.2.2.2.2.2.2.2.2.2.2.1 t.2.2.2.2.2.2.2.2.2.2.2.2.2.2.2.2.2.2.2.2.2.2.2.2.2.2.2.2.2.2.2.2.2.2.2.2.2.2.2.2.2.2.2.2.2.2.2.1 t.2.2.2.2.2.2.2.2.2.2.2.2.2.2.2.2.2.2.2.2.2.2.2.2.2.2.2.2.2.2.2.2.2.2.2.2.2.2.2.2.2.2.2.2.2.2.2.2.1 t.2.2.2.2.2.2.2.2.2.2.2.2.2.2.2.2.2.2.2.2.2.2.2.2.2.2.2.2.2.2.2.2.2.2.2.2.2.2.2.2.2.2.2.2.2.2.2.2.2.1 t.2.2.2.2.2.2.2.2.2.2.2.2.2.2.2.2.2.2.2.2.2.2.2.2.2.2.2.2.2.2.2.2.2.2.2.2.2.2.2.2.2.2.2.2.2.2.2.2.2.2.1 t.2.2.2.2.2.2.2.2.2.2.2.2.2.2.2.2.2.2.2.2.2.2.2.2.2.2.2.2.2.2.2.2.2.2.2.2.2.2.2.2.2.2.2.2.2.2.2.2.2.2.2.1 t.2.2.2.2.2.2.2.2.2.2.2.2.2.2.2.2.2.2.2.2.2.2.2.2.2.2.2.2.2.2.2.2.2.2.2.2.2.2.2.2.2.2.2.2.2.2.2.2.2.2.2.2.1 t.2.2.2.2.2.2.2.2.2.2.2.2.2.2.2.2.2.2.2.2.2.2.2.2.2.2.2.2.2.2.2.2.2.2.2.2.2.2.2.2.2.2.2.2.2.2.2.2.2.2.2.2.2.1 t.2.2.2.2.2.2.2.2.2.2.2.2.2.2.2.2.2.2.2.2.2.2.2.2.2.2.2.2.2.2.2.2.2.2.2.2.2.2.2.2.2.2.2.2.2.2.2.2.2.2.2.2.2.2.1 t.2.2.2.2.2.2.2.2.2.2.2.2.2.2.2.2.2.2.2.2.2.2.2.2.2.2.2.2.2.2.2.2.2.2.2.2.2.2.2.2.2.2.2.2.2.2.2.2.2.2.2.2.2.2.2.1 t.2.2.2.2.2.2.2.2.2.2.2.2.2.2.2.2.2.2.2.2.2.2.2.2.2.2.2.2.2.2.2.2.2.2.2.2.2.2.2.2.2.2.2.2.2.2.2.2.2.2.2.2.2.2.2.2.1 t.2.2.2.2.2.2.2.2.2.2.2.2.2.2.2.2.2.2.2.2.2.2.2.2.2.2.2.2.2.2.2.2.2.2.2.2.2.2.2.2.2.2.2.2.2.2.2.2.2.2.2.2.2.2.2.2.2.1 t.2.2.2.2.2.2.2.2.2.2.2.2.2.2.2.2.2.2.2.2.2.2.2.2.2.2.2.2.2.2.2.2.2.2.2.2.2.2.2.2.2.2.2.2.2.2.2.2.2.2.2.2.2.2.2.2.2.2.1 t.2.2.2.2.2.2.2.2.2.2.2.2.2.2.2.2.2.2.2.2.2.2.2.2.2.2.2.2.2.2.2.2.2.2.2.2.2.2.2.2.2.2.2.2.2.2.2.2.2.2.2.2.2.2.2.2.2.2.2.1 t.2.2.2.2.2.2.2.2.2.2.2.2.2.2.2.2.2.2.2.2.2.2.2.2.2.2.2.2.2.2.2.2.2.2.2.2.2.2.2.2.2.2.2.2.2.2.2.2.2.2.2.2.2.2.2.2.2.2.2.2.1 t.2.2.2.2.2.2.2.2.2.2.2.2.2.2.2.2.2.2.2.2.2.2.2.2.2.2.2.2.2.2.2.2.2.2.2.2.2.2.2.2.2.2.2.2.2.2.2.2.2.2.2.2.2.2.2.2.2.2.2.2.2.1 t.2.2.2.2.2.2.2.2.2.2.2.2.2.2.2.2.2.2.2.2.2.2.2.2.2.2.2.2.2.2.2.2.2.2.2.2.2.2.2.2.2.2.2.2.2.2.2.2.2.2.2.2.2.2.2.2.2.2.2.2.2.2
theorem wp_so63 {α0 α1 α2 α3 α4 α5 α6 α7 α8 α9 α10 α11 α12 α13 α14 α15 α16 α17 α18 α19 α20 α21 α22 α23 α24 α25 α26 α27 α28 α29 α30 α31 α32 α33 α34 α35 α36 α37 α38 α39 α40 α41 α42 α43 α44 α45 α46 α47 α48 α49 α50 α51 α52 α53 α54 α55 α56 α57 α58 α59 α60 α61 α62 : Type} {a0 : α0} {a1 : α1} {a2 : α2} {a3 : α3} {a4 : α4} {a5 : α5} {a6 : α6} {a7 : α7} {a8 : α8} {a9 : α9} {a10 : α10} {a11 : α11} {a12 : α12} {a13 : α13} {a14 : α14} {a15 : α15} {a16 : α16} {a17 : α17} {a18 : α18} {a19 : α19} {a20 : α20} {a21 : α21} {a22 : α22} {a23 : α23} {a24 : α24} {a25 : α25} {a26 : α26} {a27 : α27} {a28 : α28} {a29 : α29} {a30 : α30} {a31 : α31} {a32 : α32} {a33 : α33} {a34 : α34} {a35 : α35} {a36 : α36} {a37 : α37} {a38 : α38} {a39 : α39} {a40 : α40} {a41 : α41} {a42 : α42} {a43 : α43} {a44 : α44} {a45 : α45} {a46 : α46} {a47 : α47} {a48 : α48} {a49 : α49} {a50 : α50} {a51 : α51} {a52 : α52} {a53 : α53} {a54 : α54} {a55 : α55} {a56 : α56} {a57 : α57} {a58 : α58} {a59 : α59} {a60 : α60} {a61 : α61} {a62 : α62} {R : α0 → α1 → α2 → α3 → α4 → α5 → α6 → α7 → α8 → α9 → α10 → α11 → α12 → α13 → α14 → α15 → α16 → α17 → α18 → α19 → α20 → α21 → α22 → α23 → α24 → α25 → α26 → α27 → α28 → α29 → α30 → α31 → α32 → α33 → α34 → α35 → α36 → α37 → α38 → α39 → α40 → α41 → α42 → α43 → α44 → α45 → α46 → α47 → α48 → α49 → α50 → α51 → α52 → α53 → α54 → α55 → α56 → α57 → α58 → α59 → α60 → α61 → α62 → Prop} (h : R a0 a1 a2 a3 a4 a5 a6 a7 a8 a9 a10 a11 a12 a13 a14 a15 a16 a17 a18 a19 a20 a21 a22 a23 a24 a25 a26 a27 a28 a29 a30 a31 a32 a33 a34 a35 a36 a37 a38 a39 a40 a41 a42 a43 a44 a45 a46 a47 a48 a49 a50 a51 a52 a53 a54 a55 a56 a57 a58 a59 a60 a61 a62) : wp (some (a0, a1, a2, a3, a4, a5, a6, a7, a8, a9, a10, a11, a12, a13, a14, a15, a16, a17, a18, a19, a20, a21, a22, a23, a24, a25, a26, a27, a28, a29, a30, a31, a32, a33, a34, a35, a36, a37, a38, a39, a40, a41, a42, a43, a44, a45, a46, a47, a48, a49, a50, a51, a52, a53, a54, a55, a56, a57, a58, a59, a60, a61, a62)) (cu63 R) := ⟨_, rfl, h⟩
theorem wp_cu63 {α0 α1 α2 α3 α4 α5 α6 α7 α8 α9 α10 α11 α12 α13 α14 α15 α16 α17 α18 α19 α20 α21 α22 α23 α24 α25 α26 α27 α28 α29 α30 α31 α32 α33 α34 α35 α36 α37 α38 α39 α40 α41 α42 α43 α44 α45 α46 α47 α48 α49 α50 α51 α52 α53 α54 α55 α56 α57 α58 α59 α60 α61 α62 : Type} {x : Option (α0 × α1 × α2 × α3 × α4 × α5 × α6 × α7 × α8 × α9 × α10 × α11 × α12 × α13 × α14 × α15 × α16 × α17 × α18 × α19 × α20 × α21 × α22 × α23 × α24 × α25 × α26 × α27 × α28 × α29 × α30 × α31 × α32 × α33 × α34 × α35 × α36 × α37 × α38 × α39 × α40 × α41 × α42 × α43 × α44 × α45 × α46 × α47 × α48 × α49 × α50 × α51 × α52 × α53 × α54 × α55 × α56 × α57 × α58 × α59 × α60 × α61 × α62)} {R R' : α0 → α1 → α2 → α3 → α4 → α5 → α6 → α7 → α8 → α9 → α10 → α11 → α12 → α13 → α14 → α15 → α16 → α17 → α18 → α19 → α20 → α21 → α22 → α23 → α24 → α25 → α26 → α27 → α28 → α29 → α30 → α31 → α32 → α33 → α34 → α35 → α36 → α37 → α38 → α39 → α40 → α41 → α42 → α43 → α44 → α45 → α46 → α47 → α48 → α49 → α50 → α51 → α52 → α53 → α54 → α55 → α56 → α57 → α58 → α59 → α60 → α61 → α62 → Prop} (h : wp x (cu63 R)) (g : ∀ a0 a1 a2 a3 a4 a5 a6 a7 a8 a9 a10 a11 a12 a13 a14 a15 a16 a17 a18 a19 a20 a21 a22 a23 a24 a25 a26 a27 a28 a29 a30 a31 a32 a33 a34 a35 a36 a37 a38 a39 a40 a41 a42 a43 a44 a45 a46 a47 a48 a49 a50 a51 a52 a53 a54 a55 a56 a57 a58 a59 a60 a61 a62, R a0 a1 a2 a3 a4 a5 a6 a7 a8 a9 a10 a11 a12 a13 a14 a15 a16 a17 a18 a19 a20 a21 a22 a23 a24 a25 a26 a27 a28 a29 a30 a31 a32 a33 a34 a35 a36 a37 a38 a39 a40 a41 a42 a43 a44 a45 a46 a47 a48 a49 a50 a51 a52 a53 a54 a55 a56 a57 a58 a59 a60 a61 a62 → R' a0 a1 a2 a3 a4 a5 a6 a7 a8 a9 a10 a11 a12 a13 a14 a15 a16 a17 a18 a19 a20 a21 a22 a23 a24 a25 a26 a27 a28 a29 a30 a31 a32 a33 a34 a35 a36 a37 a38 a39 a40 a41 a42 a43 a44 a45 a46 a47 a48 a49 a50 a51 a52 a53 a54 a55 a56 a57 a58 a59 a60 a61 a62) : wp x (cu63 R') := by
  obtain ⟨⟨a0, a1, a2, a3, a4, a5, a6, a7, a8, a9, a10, a11, a12, a13, a14, a15, a16, a17, a18, a19, a20, a21, a22, a23, a24, a25, a26, a27, a28, a29, a30, a31, a32, a33, a34, a35, a36, a37, a38, a39, a40, a41, a42, a43, a44, a45, a46, a47, a48, a49, a50, a51, a52, a53, a54, a55, a56, a57, a58, a59, a60, a61, a62⟩, e, q⟩ := h
  exact ⟨_, e, g a0 a1 a2 a3 a4 a5 a6 a7 a8 a9 a10 a11 a12 a13 a14 a15 a16 a17 a18 a19 a20 a21 a22 a23 a24 a25 a26 a27 a28 a29 a30 a31 a32 a33 a34 a35 a36 a37 a38 a39 a40 a41 a42 a43 a44 a45 a46 a47 a48 a49 a50 a51 a52 a53 a54 a55 a56 a57 a58 a59 a60 a61 a62 q⟩
def cu67 {α0 α1 α2 α3 α4 α5 α6 α7 α8 α9 α10 α11 α12 α13 α14 α15 α16 α17 α18 α19 α20 α21 α22 α23 α24 α25 α26 α27 α28 α29 α30 α31 α32 α33 α34 α35 α36 α37 α38 α39 α40 α41 α42 α43 α44 α45 α46 α47 α48 α49 α50 α51 α52 α53 α54 α55 α56 α57 α58 α59 α60 α61 α62 α63 α64 α65 α66 : Type} (R : α0 → α1 → α2 → α3 → α4 → α5 → α6 → α7 → α8 → α9 → α10 → α11 → α12 → α13 → α14 → α15 → α16 → α17 → α18 → α19 → α20 → α21 → α22 → α23 → α24 → α25 → α26 → α27 → α28 → α29 → α30 → α31 → α32 → α33 → α34 → α35 → α36 → α37 → α38 → α39 → α40 → α41 → α42 → α43 → α44 → α45 → α46 → α47 → α48 → α49 → α50 → α51 → α52 → α53 → α54 → α55 → α56 → α57 → α58 → α59 → α60 → α61 → α62 → α63 → α64 → α65 → α66 → Prop) : α0 × α1 × α2 × α3 × α4 × α5 × α6 × α7 × α8 × α9 × α10 × α11 × α12 × α13 × α14 × α15 × α16 × α17 × α18 × α19 × α20 × α21 × α22 × α23 × α24 × α25 × α26 × α27 × α28 × α29 × α30 × α31 × α32 × α33 × α34 × α35 × α36 × α37 × α38 × α39 × α40 × α41 × α42 × α43 × α44 × α45 × α46 × α47 × α48 × α49 × α50 × α51 × α52 × α53 × α54 × α55 × α56 × α57 × α58 × α59 × α60 × α61 × α62 × α63 × α64 × α65 × α66 → Prop := fun t => R t.1 t.2.1 t.2.2.1 t.2.2.2.1 t.2.2.2.2.1 t.2.2.2.2.2.1 t.2.2.2.2.2.2.1 t.2.2.2.2.2.2.2.1 t.2.2.2.2.2.2.2.2.1 t.2.2.2.2.2.2.2.2.2.1 t.2.2.2.2.2.2.2.2.2.2.1 t.2.2.2.2.2.2.2.2.2.2.2.1 t.2.2.2.2.2.2.2.2.2.2.2.2.1 t.2.2.2.2.2.2.2.2.2.2.2.2.2.1 t.2.2.2.2.2.2.2.2.2.2.2.2.2.2.1 t.2.2.2.2.2.2.2.2.2.2.2.2.2.2.2.1 t.2.2.2.2.2.2.2.2.2.2.2.2.2.2.2.2.1 t.2.2.2.2.2.2.2.2.2.2.2.2.2.2.2.2.2.1 t.2.2.2.2.2.2.2.2.2.2.2.2.2.2.2.2.2.2.1 t.2.2.2.2.2.2.2.2.2.2.2.2.2.2.2.2.2.2.2.1 t.2.2.2.2.2.2.2.2.2.2.2.2.2.2.2.2.2.2.2.2.1 t.2.2.2.2.2.2.2.2.2.2.2.2.2.2.2.2.2.2.2.2.2.1 t.2.2.2.2.2.2.2.2.2.2.2.2.2.2.2.2.2.2.2.2.2.2.1 t.2.2.2.2.2.2.2.2.2.2.2.2.2.2.2.2.2.2.2.2.2.2.2.1 t.2.2.2.2.2.2.2.2.2.2.2.2.2.2.2.2.2.2.2.2.2.2.2.2.1 t.2.2.2.2.2.2.2.2.2.2.2.2.2.2.2.2.2.2.2.2.2.2.2.2.2.1 t.2.2.2.2.2.2.2.2.2.2.2.2.2.2.2.2.2.2.2.2.2.2.2.2.2.2.1 t.2.2.2.2.2.2.2.2.2.2.2.2.2.2.2.2.2.2.2.2.2.2.2.2.2.2.2.1 t.2.2.2.2.2.2.2.2.2.2.2.2.2.2.2.2.2.2.2.2.2.2.2.2.2.2.2.2.1 t.2.2.2.2.2.2.2.2.2.2.2.2.2.2.2.2.2.2.2.2.2.2.2.2.2.2.2.2.2.1 t.2.2.2.2.2.2.2.2.2.2.2.2.2.2.2.2.2.2.2.2.2.2.2.2.2.2.2.2.2.2.1 t.2.2.2.2.2.2.2.2.2.2.2.2.2.2.2.2.2.2.2.2.2.2.2.2.2.2.2.2.2.2.2.1 t.2.2.2.2.2.2.2.2.2.2.2.2.2.2.2.2.2.2.2.2.2.2.2.2.2.2.2.2.2.2.2.2.1 t.2.2.2.2.2.2.2.2.2.2.2.2.2.2.2.2.2.2.2.2.2.2.2.2.2.2.2.2.2.2.2.2.2.1 t.2.2.2.2.2.2.2.2.2.2.2.2.2.2.2.2.2.2.2.2.2.2.2.2.2.2.2.2.2.2.2.2.2.2.1 t.2.2.2.2.2.2.2.2.2.2.2.2.2.2.2.2.2.2.2.2.2.2.2.2.2.2.2.2.2.2.2.2.2.2.2.1 t.2.2.2.2.2.2.2.2.2.2.2.2.2.2.2.2.2.2.2.2.2.2.2.2.2.2.2.2.2.2.2.2.2.2.2.2.1 t.2.2.2.2.2.2.2.2.2.2.2.2.2.2.2.2.2.2.2.2.2.2.2.2.2.2.2.2.2.2.2.2.2.2.2.2.2.1 t.2.2.2.2.2.2.2.2.2.2.2.2.2.2.2.2.2.2.2.2.2.2.2.2.2.2.2.2.2.2.2.2.2.2.2.2.2.2.1 t.2.2.2.2.2.2.2.2.2.2.2.2.2.2.2.2.2.2.2.2.2.2.2.2.2.2.2.2.2.2.2.2.2.2.2.2.2.2.2.1 t.2.2.2.2.2.2.2.2.2.2.2.2.2.2.2.2.2.2.2.2.2.2.2.2.2.2.2.2.2.2.2.2.2.2.2.2.2.2.2.2.1 t.2.2.2.2.2.2.2.2.2.2.2.2.2.2.2.2.2.2.2.2.2.2.2.2.2.2.2.2.2.2.2.2.2.2.2.2.2.2.2.2.2.1 t.2.2.2.2.2.2.2.2.2.2.2.2.2.2.2.2.2.2.2.2.2.2.2.2.2.2.2.2.2.2.2.2.2.2.2.2.2.2.2.2.2.2.1 t.2.2.2.2.2.2.2.2.2.2.2.2.2.2.2.2.2.2.2.2.2.2.2.2.2.2.2.2.2.2.2.2.2.2.2.2.2.2.2.2.2.2.2.1 t.2.2.2.2.2.2.2.2.2.2.2.2.2.2.2.2.2.2.2.2.2.2.2.2.2.2.2.2.2.2.2.2.2.2.2.2.2.2.2.2.2.2.2.2.1 t.2.2.2.2.2.2.2.2.2.2.2.2.2.2.2.2.2.2.2.2.2.2.2.2.2.2.2.2.2.2.2.2.2.2.2.2.2.2.2.2.2.2.2.2.2.1 t.2.2.2.2.2.2.2.2.2.2.2.2.2.2.2.2.2.2.2.2.2.2.2.2.2.2.2.2.2.2.2.2.2.2.2.2.2.2.2.2.2.2.2.2.2.2.1 t.2.2.2.2.2.2.2.2.2.2.2.2.2.2.2.2.2.2.2.2.2.2.2.2.2.2.2.2.2.2.2.2.2.2.2.2.2.2.2.2.2.2.2.2.2.2.2.1 t.2.2.2.2.2.2.2.2.2.2.2.2.2.2.2.2.2.2.2.2.2.2.2.2.2.2.2.2.2.2.2.2.2.2.2.2.2.2.2.2.2.2.2.2.2.2.2.2.1 t.2.2.2.2.2.2.2.2.2.2.2.2.2.2.2.2.2.2.2.2.2.2.2.2.2.2.2.2.2.2.2.2.2.2.2.2.2.2.2.2.2.2.2.2.2.2.2.2.2.1 t.2.2.2.2.2.2.2.2.2.2.2.2.2.2.2.2.2.2.2.2.2.2.2.2.2.2.2.2.2.2.2.2.2.2.2.2.2.2.2.2.2.2.2.2.2.2.2.2.2.2.1 t.2.2.2.2.2.2.2.2.2.2.2.2.2.2.2.2.2.2.2.2.2.2.2.2.2.2.2.2.2.2.2.2.2.2.2.2.2.2.2.2.2.2.2.2.2.2.2.2.2.2.2.1 t.2.2.2.2.2.2.2.2.2.2.2.2.2.2.2.2.2.2.2.2.2.2.2.2.2.2.2.2.2.2.2.2.2.2.2.2.2.2.2.2.2.2.2.2.2.2.2.2.2.2.2.2.1 t.2.2.2.2.2.2.2.2.2.2.2.2.2.2.2.2.2.2.2.2.2.2.2.2.2.2.2.2.2.2.2.2.2.2.2.2.2.2.2.2.2.2.2.2.2.2.2.2.2.2.2.2.2.1 t.2.2.2.2.2.2.2.2.2.2.2.2.2.2.2.2.2.2.2.2.2.2.2.2.2.2.2.2.2.2.2.2.2.2.2.2.2.2.2.2.2.2.2.2.2.2.2.2.2.2.2.2.2.2.1 t.2.2.2.2.2.2.2.2.2.2.2.2.2.2.2.2.2.2.2.2.2.2.2.2.2.2.2.2.2.2.2.2.2.2.2.2.2.2.2.2.2.2.2.2.2.2.2.2.2.2.2.2.2.2.2.1 t.2.2.2.2.2.2.2.2.2.2.2.2.2.2.2.2.2.2.2.2.2.2.2.2.2.2.2.2.2.2.2.2.2.2.2.2.2.2.2.2.2.2.2.2.2.2.2.2.2.2.2.2.2.2.2.2.1 t.2.2.2.2.2.2.2.2.2.2.2.2.2.2.2.2.2.2.2.2.2.2.2.2.2.2.2.2.2.2.2.2.2.2.2.2.2.2.2.2.2.2.2.2.2.2.2.2.2.2.2.2.2.2.2.2.2.1 t.2.2.2.2.2.2.2.2.2.2.2.2.2.2.2.2.2.2.2.2.2.2.2.2.2.2.2.2.2.2.2.2.2.2.2.2.2.2.2.2.2.2.2.2.2.2.2.2.2.2.2.2.2.2.2.2.2.2.1 t.2.2.2.2.2.2.2.2.2.2.2.2.2.2.2.2.2.2.2.2.2.2.2.2.2.2.2.2.2.2.2.2.2.2.2.2.2.2.2.2.2.2.2.2.2.2.2.2.2.2.2.2.2.2.2.2.2.2.2.1 t.2.2.2.2.2.2.2.2.2.2.2.2.2.2.2.2.2.2.2.2.2.2.2.2.2.2.2.2.2.2.2.2.2.2.2.2.2.2.2.2.2.2.2.2.2.2.2.2.2.2.2.2.2.2.2.2.2.2.2.2.1 t.2.2.2.2.2.2.2.2.2.2.2.2.2.2.2.2.2.2.2.2.2.2.2.2.2.2.2.2.2.2.2.2.2.2.2.2.2.2.2.2.2.2.2.2.2.2.2.2.2.2.2.2.2.2.2.2.2.2.2.2.2.1 t.2.2.2.2.2.2.2.2.2.2.2.2.2.2.2.2.2.2.2.2.2.2.2.2.2.2.2.2.2.2.2.2.2.2.2.2.2.2.2.2.2.2.2.2.2.2.2.2.2.2.2.2.2.2.2.2.2.2.2.2.2.2.1 t.2.2.2.2.2.2.2.2.2.2.2.2.2.2.2.2.2.2.2.2.2.2.2.2.2.2.2.2.2.2.2.2.2.2.2.2.2.2.2.2.2.2.2.2.2.2.2.2.2.2.2.2.2.2.2.2.2.2.2.2.2.2.2.1 t.2.2.2.2.2.2.2.2.2.2.2.2.2.2.2.2.2.2.2.2.2.2.2.2.2.2.2.2.2.2.2.2.2.2.2.2.2.2.2.2.2.2.2.2.2.2.2.2.2.2.2.2.2.2.2.2.2.2.2.2.2.2.2.2.1 t.2.2.2.2.2.2.2.2.2.2.2.2.2.2.2.2.2.2.2.2.2.2.2.2.2.2.2.2.2.2.2.2.2.2.2.2.2.2.2.2.2.2.2.2.2.2.2.2.2.2.2.2.2.2.2.2.2.2.2.2.2.2.2.2.2.1 t.2.2.2.2.2.2.2.2.2.2.2.2.2.2.2.2.2.2.2.2.2.2.2.2.2.2.2.2.2.2.2.2.2.2.2.2.2.2.2.2.2.2.2.2.2.2.2.2.2.2.2.2.2.2.2.2.2.2.2.2.2.2.2.2.2.2
theorem wp_so67 {α0 α1 α2 α3 α4 α5 α6 α7 α8 α9 α10 α11 α12 α13 α14 α15 α16 α17 α18 α19 α20 α21 α22 α23 α24 α25 α26 α27 α28 α29 α30 α31 α32 α33 α34 α35 α36 α37 α38 α39 α40 α41 α42 α43 α44 α45 α46 α47 α48 α49 α50 α51 α52 α53 α54 α55 α56 α57 α58 α59 α60 α61 α62 α63 α64 α65 α66 : Type} {a0 : α0} {a1 : α1} {a2 : α2} {a3 : α3} {a4 : α4} {a5 : α5} {a6 : α6} {a7 : α7} {a8 : α8} {a9 : α9} {a10 : α10} {a11 : α11} {a12 : α12} {a13 : α13} {a14 : α14} {a15 : α15} {a16 : α16} {a17 : α17} {a18 : α18} {a19 : α19} {a20 : α20} {a21 : α21} {a22 : α22} {a23 : α23} {a24 : α24} {a25 : α25} {a26 : α26} {a27 : α27} {a28 : α28} {a29 : α29} {a30 : α30} {a31 : α31} {a32 : α32} {a33 : α33} {a34 : α34} {a35 : α35} {a36 : α36} {a37 : α37} {a38 : α38} {a39 : α39} {a40 : α40} {a41 : α41} {a42 : α42} {a43 : α43} {a44 : α44} {a45 : α45} {a46 : α46} {a47 : α47} {a48 : α48} {a49 : α49} {a50 : α50} {a51 : α51} {a52 : α52} {a53 : α53} {a54 : α54} {a55 : α55} {a56 : α56} {a57 : α57} {a58 : α58} {a59 : α59} {a60 : α60} {a61 : α61} {a62 : α62} {a63 : α63} {a64 : α64} {a65 : α65} {a66 : α66} {R : α0 → α1 → α2 → α3 → α4 → α5 → α6 → α7 → α8 → α9 → α10 → α11 → α12 → α13 → α14 → α15 → α16 → α17 → α18 → α19 → α20 → α21 → α22 → α23 → α24 → α25 → α26 → α27 → α28 → α29 → α30 → α31 → α32 → α33 → α34 → α35 → α36 → α37 → α38 → α39 → α40 → α41 → α42 → α43 → α44 → α45 → α46 → α47 → α48 → α49 → α50 → α51 → α52 → α53 → α54 → α55 → α56 → α57 → α58 → α59 → α60 → α61 → α62 → α63 → α64 → α65 → α66 → Prop} (h : R a0 a1 a2 a3 a4 a5 a6 a7 a8 a9 a10 a11 a12 a13 a14 a15 a16 a17 a18 a19 a20 a21 a22 a23 a24 a25 a26 a27 a28 a29 a30 a31 a32 a33 a34 a35 a36 a37 a38 a39 a40 a41 a42 a43 a44 a45 a46 a47 a48 a49 a50 a51 a52 a53 a54 a55 a56 a57 a58 a59 a60 a61 a62 a63 a64 a65 a66) : wp (some (a0, a1, a2, a3, a4, a5, a6, a7, a8, a9, a10, a11, a12, a13, a14, a15, a16, a17, a18, a19, a20, a21, a22, a23, a24, a25, a26, a27, a28, a29, a30, a31, a32, a33, a34, a35, a36, a37, a38, a39, a40, a41, a42, a43, a44, a45, a46, a47, a48, a49, a50, a51, a52, a53, a54, a55, a56, a57, a58, a59, a60, a61, a62, a63, a64, a65, a66)) (cu67 R) := ⟨_, rfl, h⟩
theorem wp_bd67 {α0 α1 α2 α3 α4 α5 α6 α7 α8 α9 α10 α11 α12 α13 α14 α15 α16 α17 α18 α19 α20 α21 α22 α23 α24 α25 α26 α27 α28 α29 α30 α31 α32 α33 α34 α35 α36 α37 α38 α39 α40 α41 α42 α43 α44 α45 α46 α47 α48 α49 α50 α51 α52 α53 α54 α55 α56 α57 α58 α59 α60 α61 α62 α63 α64 α65 α66 β : Type} {x : Option (α0 × α1 × α2 × α3 × α4 × α5 × α6 × α7 × α8 × α9 × α10 × α11 × α12 × α13 × α14 × α15 × α16 × α17 × α18 × α19 × α20 × α21 × α22 × α23 × α24 × α25 × α26 × α27 × α28 × α29 × α30 × α31 × α32 × α33 × α34 × α35 × α36 × α37 × α38 × α39 × α40 × α41 × α42 × α43 × α44 × α45 × α46 × α47 × α48 × α49 × α50 × α51 × α52 × α53 × α54 × α55 × α56 × α57 × α58 × α59 × α60 × α61 × α62 × α63 × α64 × α65 × α66)} {k : α0 → α1 → α2 → α3 → α4 → α5 → α6 → α7 → α8 → α9 → α10 → α11 → α12 → α13 → α14 → α15 → α16 → α17 → α18 → α19 → α20 → α21 → α22 → α23 → α24 → α25 → α26 → α27 → α28 → α29 → α30 → α31 → α32 → α33 → α34 → α35 → α36 → α37 → α38 → α39 → α40 → α41 → α42 → α43 → α44 → α45 → α46 → α47 → α48 → α49 → α50 → α51 → α52 → α53 → α54 → α55 → α56 → α57 → α58 → α59 → α60 → α61 → α62 → α63 → α64 → α65 → α66 → Option β} {R : α0 → α1 → α2 → α3 → α4 → α5 → α6 → α7 → α8 → α9 → α10 → α11 → α12 → α13 → α14 → α15 → α16 → α17 → α18 → α19 → α20 → α21 → α22 → α23 → α24 → α25 → α26 → α27 → α28 → α29 → α30 → α31 → α32 → α33 → α34 → α35 → α36 → α37 → α38 → α39 → α40 → α41 → α42 → α43 → α44 → α45 → α46 → α47 → α48 → α49 → α50 → α51 → α52 → α53 → α54 → α55 → α56 → α57 → α58 → α59 → α60 → α61 → α62 → α63 → α64 → α65 → α66 → Prop} {Q : β → Prop} (h : wp x (cu67 R)) (g : ∀ a0 a1 a2 a3 a4 a5 a6 a7 a8 a9 a10 a11 a12 a13 a14 a15 a16 a17 a18 a19 a20 a21 a22 a23 a24 a25 a26 a27 a28 a29 a30 a31 a32 a33 a34 a35 a36 a37 a38 a39 a40 a41 a42 a43 a44 a45 a46 a47 a48 a49 a50 a51 a52 a53 a54 a55 a56 a57 a58 a59 a60 a61 a62 a63 a64 a65 a66, R a0 a1 a2 a3 a4 a5 a6 a7 a8 a9 a10 a11 a12 a13 a14 a15 a16 a17 a18 a19 a20 a21 a22 a23 a24 a25 a26 a27 a28 a29 a30 a31 a32 a33 a34 a35 a36 a37 a38 a39 a40 a41 a42 a43 a44 a45 a46 a47 a48 a49 a50 a51 a52 a53 a54 a55 a56 a57 a58 a59 a60 a61 a62 a63 a64 a65 a66 → wp (k a0 a1 a2 a3 a4 a5 a6 a7 a8 a9 a10 a11 a12 a13 a14 a15 a16 a17 a18 a19 a20 a21 a22 a23 a24 a25 a26 a27 a28 a29 a30 a31 a32 a33 a34 a35 a36 a37 a38 a39 a40 a41 a42 a43 a44 a45 a46 a47 a48 a49 a50 a51 a52 a53 a54 a55 a56 a57 a58 a59 a60 a61 a62 a63 a64 a65 a66) Q) : wp (mm_bd67 x k) Q := by
  obtain ⟨⟨a0, a1, a2, a3, a4, a5, a6, a7, a8, a9, a10, a11, a12, a13, a14, a15, a16, a17, a18, a19, a20, a21, a22, a23, a24, a25, a26, a27, a28, a29, a30, a31, a32, a33, a34, a35, a36, a37, a38, a39, a40, a41, a42, a43, a44, a45, a46, a47, a48, a49, a50, a51, a52, a53, a54, a55, a56, a57, a58, a59, a60, a61, a62, a63, a64, a65, a66⟩, e, q⟩ := h
  rw [e]
  exact g a0 a1 a2 a3 a4 a5 a6 a7 a8 a9 a10 a11 a12 a13 a14 a15 a16 a17 a18 a19 a20 a21 a22 a23 a24 a25 a26 a27 a28 a29 a30 a31 a32 a33 a34 a35 a36 a37 a38 a39 a40 a41 a42 a43 a44 a45 a46 a47 a48 a49 a50 a51 a52 a53 a54 a55 a56 a57 a58 a59 a60 a61 a62 a63 a64 a65 a66 q
theorem wp_in67 {α0 α1 α2 α3 α4 α5 α6 α7 α8 α9 α10 α11 α12 α13 α14 α15 α16 α17 α18 α19 α20 α21 α22 α23 α24 α25 α26 α27 α28 α29 α30 α31 α32 α33 α34 α35 α36 α37 α38 α39 α40 α41 α42 α43 α44 α45 α46 α47 α48 α49 α50 α51 α52 α53 α54 α55 α56 α57 α58 α59 α60 α61 α62 α63 α64 α65 α66 β : Type} {x : Option (α0 × α1 × α2 × α3 × α4 × α5 × α6 × α7 × α8 × α9 × α10 × α11 × α12 × α13 × α14 × α15 × α16 × α17 × α18 × α19 × α20 × α21 × α22 × α23 × α24 × α25 × α26 × α27 × α28 × α29 × α30 × α31 × α32 × α33 × α34 × α35 × α36 × α37 × α38 × α39 × α40 × α41 × α42 × α43 × α44 × α45 × α46 × α47 × α48 × α49 × α50 × α51 × α52 × α53 × α54 × α55 × α56 × α57 × α58 × α59 × α60 × α61 × α62 × α63 × α64 × α65 × α66)} {k : α0 → α1 → α2 → α3 → α4 → α5 → α6 → α7 → α8 → α9 → α10 → α11 → α12 → α13 → α14 → α15 → α16 → α17 → α18 → α19 → α20 → α21 → α22 → α23 → α24 → α25 → α26 → α27 → α28 → α29 → α30 → α31 → α32 → α33 → α34 → α35 → α36 → α37 → α38 → α39 → α40 → α41 → α42 → α43 → α44 → α45 → α46 → α47 → α48 → α49 → α50 → α51 → α52 → α53 → α54 → α55 → α56 → α57 → α58 → α59 → α60 → α61 → α62 → α63 → α64 → α65 → α66 → Option β} {Q : β → Prop} (h : wp x (cu67 (fun a0 a1 a2 a3 a4 a5 a6 a7 a8 a9 a10 a11 a12 a13 a14 a15 a16 a17 a18 a19 a20 a21 a22 a23 a24 a25 a26 a27 a28 a29 a30 a31 a32 a33 a34 a35 a36 a37 a38 a39 a40 a41 a42 a43 a44 a45 a46 a47 a48 a49 a50 a51 a52 a53 a54 a55 a56 a57 a58 a59 a60 a61 a62 a63 a64 a65 a66 => wp (k a0 a1 a2 a3 a4 a5 a6 a7 a8 a9 a10 a11 a12 a13 a14 a15 a16 a17 a18 a19 a20 a21 a22 a23 a24 a25 a26 a27 a28 a29 a30 a31 a32 a33 a34 a35 a36 a37 a38 a39 a40 a41 a42 a43 a44 a45 a46 a47 a48 a49 a50 a51 a52 a53 a54 a55 a56 a57 a58 a59 a60 a61 a62 a63 a64 a65 a66) Q))) : wp (mm_bd67 x k) Q := wp_bd67 h (fun _ _ _ _ _ _ _ _ _ _ _ _ _ _ _ _ _ _ _ _ _ _ _ _ _ _ _ _ _ _ _ _ _ _ _ _ _ _ _ _ _ _ _ _ _ _ _ _ _ _ _ _ _ _ _ _ _ _ _ _ _ _ _ _ _ _ _ q => q)
theorem wp_cu67 {α0 α1 α2 α3 α4 α5 α6 α7 α8 α9 α10 α11 α12 α13 α14 α15 α16 α17 α18 α19 α20 α21 α22 α23 α24 α25 α26 α27 α28 α29 α30 α31 α32 α33 α34 α35 α36 α37 α38 α39 α40 α41 α42 α43 α44 α45 α46 α47 α48 α49 α50 α51 α52 α53 α54 α55 α56 α57 α58 α59 α60 α61 α62 α63 α64 α65 α66 : Type} {x : Option (α0 × α1 × α2 × α3 × α4 × α5 × α6 × α7 × α8 × α9 × α10 × α11 × α12 × α13 × α14 × α15 × α16 × α17 × α18 × α19 × α20 × α21 × α22 × α23 × α24 × α25 × α26 × α27 × α28 × α29 × α30 × α31 × α32 × α33 × α34 × α35 × α36 × α37 × α38 × α39 × α40 × α41 × α42 × α43 × α44 × α45 × α46 × α47 × α48 × α49 × α50 × α51 × α52 × α53 × α54 × α55 × α56 × α57 × α58 × α59 × α60 × α61 × α62 × α63 × α64 × α65 × α66)} {R R' : α0 → α1 → α2 → α3 → α4 → α5 → α6 → α7 → α8 → α9 → α10 → α11 → α12 → α13 → α14 → α15 → α16 → α17 → α18 → α19 → α20 → α21 → α22 → α23 → α24 → α25 → α26 → α27 → α28 → α29 → α30 → α31 → α32 → α33 → α34 → α35 → α36 → α37 → α38 → α39 → α40 → α41 → α42 → α43 → α44 → α45 → α46 → α47 → α48 → α49 → α50 → α51 → α52 → α53 → α54 → α55 → α56 → α57 → α58 → α59 → α60 → α61 → α62 → α63 → α64 → α65 → α66 → Prop} (h : wp x (cu67 R)) (g : ∀ a0 a1 a2 a3 a4 a5 a6 a7 a8 a9 a10 a11 a12 a13 a14 a15 a16 a17 a18 a19 a20 a21 a22 a23 a24 a25 a26 a27 a28 a29 a30 a31 a32 a33 a34 a35 a36 a37 a38 a39 a40 a41 a42 a43 a44 a45 a46 a47 a48 a49 a50 a51 a52 a53 a54 a55 a56 a57 a58 a59 a60 a61 a62 a63 a64 a65 a66, R a0 a1 a2 a3 a4 a5 a6 a7 a8 a9 a10 a11 a12 a13 a14 a15 a16 a17 a18 a19 a20 a21 a22 a23 a24 a25 a26 a27 a28 a29 a30 a31 a32 a33 a34 a35 a36 a37 a38 a39 a40 a41 a42 a43 a44 a45 a46 a47 a48 a49 a50 a51 a52 a53 a54 a55 a56 a57 a58 a59 a60 a61 a62 a63 a64 a65 a66 → R' a0 a1 a2 a3 a4 a5 a6 a7 a8 a9 a10 a11 a12 a13 a14 a15 a16 a17 a18 a19 a20 a21 a22 a23 a24 a25 a26 a27 a28 a29 a30 a31 a32 a33 a34 a35 a36 a37 a38 a39 a40 a41 a42 a43 a44 a45 a46 a47 a48 a49 a50 a51 a52 a53 a54 a55 a56 a57 a58 a59 a60 a61 a62 a63 a64 a65 a66) : wp x (cu67 R') := by
  obtain ⟨⟨a0, a1, a2, a3, a4, a5, a6, a7, a8, a9, a10, a11, a12, a13, a14, a15, a16, a17, a18, a19, a20, a21, a22, a23, a24, a25, a26, a27, a28, a29, a30, a31, a32, a33, a34, a35, a36, a37, a38, a39, a40, a41, a42, a43, a44, a45, a46, a47, a48, a49, a50, a51, a52, a53, a54, a55, a56, a57, a58, a59, a60, a61, a62, a63, a64, a65, a66⟩, e, q⟩ := h
  exact ⟨_, e, g a0 a1 a2 a3 a4 a5 a6 a7 a8 a9 a10 a11 a12 a13 a14 a15 a16 a17 a18 a19 a20 a21 a22 a23 a24 a25 a26 a27 a28 a29 a30 a31 a32 a33 a34 a35 a36 a37 a38 a39 a40 a41 a42 a43 a44 a45 a46 a47 a48 a49 a50 a51 a52 a53 a54 a55 a56 a57 a58 a59 a60 a61 a62 a63 a64 a65 a66 q⟩
def cu68 {α0 α1 α2 α3 α4 α5 α6 α7 α8 α9 α10 α11 α12 α13 α14 α15 α16 α17 α18 α19 α20 α21 α22 α23 α24 α25 α26 α27 α28 α29 α30 α31 α32 α33 α34 α35 α36 α37 α38 α39 α40 α41 α42 α43 α44 α45 α46 α47 α48 α49 α50 α51 α52 α53 α54 α55 α56 α57 α58 α59 α60 α61 α62 α63 α64 α65 α66 α67 : Type} (R : α0 → α1 → α2 → α3 → α4 → α5 → α6 → α7 → α8 → α9 → α10 → α11 → α12 → α13 → α14 → α15 → α16 → α17 → α18 → α19 → α20 → α21 → α22 → α23 → α24 → α25 → α26 → α27 → α28 → α29 → α30 → α31 → α32 → α33 → α34 → α35 → α36 → α37 → α38 → α39 → α40 → α41 → α42 → α43 → α44 → α45 → α46 → α47 → α48 → α49 → α50 → α51 → α52 → α53 → α54 → α55 → α56 → α57 → α58 → α59 → α60 → α61 → α62 → α63 → α64 → α65 → α66 → α67 → Prop) : α0 × α1 × α2 × α3 × α4 × α5 × α6 × α7 × α8 × α9 × α10 × α11 × α12 × α13 × α14 × α15 × α16 × α17 × α18 × α19 × α20 × α21 × α22 × α23 × α24 × α25 × α26 × α27 × α28 × α29 × α30 × α31 × α32 × α33 × α34 × α35 × α36 × α37 × α38 × α39 × α40 × α41 × α42 × α43 × α44 × α45 × α46 × α47 × α48 × α49 × α50 × α51 × α52 × α53 × α54 × α55 × α56 × α57 × α58 × α59 × α60 × α61 × α62 × α63 × α64 × α65 × α66 × α67 → Prop := fun t => R t.1 t.2.1 t.2.2.1 t.2.2.2.1 t.2.2.2.2.1 t.2.2.2.2.2.1 t.2.2.2.2.2.2.1 t.2.2.2.2.2.2.2.1 t.2.2.2.2.2.2.2.2.1 t.2.2.2.2.2.2.2.2.2.1 t.2.2.2.2.2.2.2.2.2.2.1 t.2.2.2.2.2.2.2.2.2.2.2.1 t.2.2.2.2.2.2.2.2.2.2.2.2.1 t.2.2.2.2.2.2.2.2.2.2.2.2.2.1 t.2.2.2.2.2.2.2.2.2.2.2.2.2.2.1 t.2.2.2.2.2.2.2.2.2.2.2.2.2.2.2.1 t.2.2.2.2.2.2.2.2.2.2.2.2.2.2.2.2.1 t.2.2.2.2.2.2.2.2.2.2.2.2.2.2.2.2.2.1 t.2.2.2.2.2.2.2.2.2.2.2.2.2.2.2.2.2.2.1 t.2.2.2.2.2.2.2.2.2.2.2.2.2.2.2.2.2.2.2.1 t.2.2.2.2.2.2.2.2.2.2.2.2.2.2.2.2.2.2.2.2.1 t.2.2.2.2.2.2.2.2.2.2.2.2.2.2.2.2.2.2.2.2.2.1 t.2.2.2.2.2.2.2.2.2.2.2.2.2.2.2.2.2.2.2.2.2.2.1 t.2.2.2.2.2.2.2.2.2.2.2.2.2.2.2.2.2.2.2.2.2.2.2.1 t.2.2.2.2.2.2.2.2.2.2.2.2.2.2.2.2.2.2.2.2.2.2.2.2.1 t.2.2.2.2.2.2.2.2.2.2.2.2.2.2.2.2.2.2.2.2.2.2.2.2.2.1 t.2.2.2.2.2.2.2.2.2.2.2.2.2.2.2.2.2.2.2.2.2.2.2.2.2.2.1 t.2.2.2.2.2.2.2.2.2.2.2.2.2.2.2.2.2.2.2.2.2.2.2.2.2.2.2.1 t.2.2.2.2.2.2.2.2.2.2.2.2.2.2.2.2.2.2.2.2.2.2.2.2.2.2.2.2.1 t.2.2.2.2.2.2.2.2.2.2.2.2.2.2.2.2.2.2.2.2.2.2.2.2.2.2.2.2.2.1 t.2.2.2.2.2.2.2.2.2.2.2.2.2.2.2.2.2.2.2.2.2.2.2.2.2.2.2.2.2.2.1 t.2.2.2.2.2.2.2.2.2.2.2.2.2.2.2.2.2.2.2.2.2.2.2.2.2.2.2.2.2.2.2.1 t.2.2.2.2.2.2.2.2.2.2.2.2.2.2.2.2.2.2.2.2.2.2.2.2.2.2.2.2.2.2.2.2.1 t.2.2.2.2.2.2.2.2.2.2.2.2.2.2.2.2.2.2.2.2.2.2.2.2.2.2.2.2.2.2.2.2.2.1 t.2.2.2.2.2.2.2.2.2.2.2.2.2.2.2.2.2.2.2.2.2.2.2.2.2.2.2.2.2.2.2.2.2.2.1 t.2.2.2.2.2.2.2.2.2.2.2.2.2.2.2.2.2.2.2.2.2.2.2.2.2.2.2.2.2.2.2.2.2.2.2.1 t.2.2.2.2.2.2.2.2.2.2.2.2.2.2.2.2.2.2.2.2.2.2.2.2.2.2.2.2.2.2.2.2.2.2.2.2.1 t.2.2.2.2.2.2.2.2.2.2.2.2.2.2.2.2.2.2.2.2.2.2.2.2.2.2.2.2.2.2.2.2.2.2.2.2.2.1 t.2.2.2.2.2.2.2.2.2.2.2.2.2.2.2.2.2.2.2.2.2.2.2.2.2.2.2.2.2.2.2.2.2.2.2.2.2.2.1 t.2.2.2.2.2.2.2.2.2.2.2.2.2.2.2.2.2.2.2.2.2.2.2.2.2.2.2.2.2.2.2.2.2.2.2.2.2.2.2.1 t.2.2.2.2.2.2.2.2.2.2.2.2.2.2.2.2.2.2.2.2.2.2.2.2.2.2.2.2.2.2.2.2.2.2.2.2.2.2.2.2.1 t.2.2.2.2.2.2.2.2.2.2.2.2.2.2.2.2.2.2.2.2.2.2.2.2.2.2.2.2.2.2.2.2.2.2.2.2.2.2.2.2.2.1 t.2.2.2.2.2.2.2.2.2.2.2.2.2.2.2.2.2.2.2.2.2.2.2.2.2.2.2.2.2.2.2.2.2.2.2.2.2.2.2.2.2.2.1 t.2.2.2.2.2.2.2.2.2.2.2.2.2.2.2.2.2.2.2.2.2.2.2.2.2.2.2.2.2.2.2.2.2.2.2.2.2.2.2.2.2.2.2.1 t.2.2.2.2.2.2.2.2.2.2.2.2.2.2.2.2.2.2.2.2.2.2.2.2.2.2.2.2.2.2.2.2.2.2.2.2.2.2.2.2.2.2.2.2.1 t.2.2.2.2.2.2.2.2.2.2.2.2.2.2.2.2.2.2.2.2.2.2.2.2.2.2.2.2.2.2.2.2.2.2.2.2.2.2.2.2.2.2.2.2.2.1 t.2.2.2.2.2.2.2.2.2.2.2.2.2.2.2.2.2.2.2.2.2.2.2.2.2.2.2.2.2.2.2.2.2.2.2.2.2.2.2.2.2.2.2.2.2.2.1 t.2.2.2.2.2.2.2.2.2.2.2.2.2.2.2.2.2.2.2.2.2.2.2.2.2.2.2.2.2.2.2.2.2.2.2.2.2.2.2.2.2.2.2.2.2.2.2.1 t.2.2.2.2.2.2.2.2.2.2.2.2.2.2.2.2.2.2.2.2.2.2.2.2.2.2.2.2.2.2.2.2.2.2.2.2.2.2.2.2.2.2.2.2.2.2.2.2.1 t.2.2.2.2.2.2.2.2.2.2.2.2.2.2.2.2.2.2.2.2.2.2.2.2.2.2.2.2.2.2.2.2.2.2.2.2.2.2.2.2.2.2.2.2.2.2.2.2.2.1 t.2.2.2.2.2.2.2.2.2.2.2.2.2.2.2.2.2.2.2.2.2.2.2.2.2.2.2.2.2.2.2.2.2.2.2.2.2.2.2.2.2.2.2.2.2.2.2.2.2.2.1 t.2.2.2.2.2.2.2.2.2.2.2.2.2.2.2.2.2.2.2.2.2.2.2.2.2.2.2.2.2.2.2.2.2.2.2.2.2.2.2.2.2.2.2.2.2.2.2.2.2.2.2.1 t.2.2.2.2.2.2.2.2.2.2.2.2.2.2.2.2.2.2.2.2.2.2.2.2.2.2.2.2.2.2.2.2.2.2.2.2.2.2.2.2.2.2.2.2.2.2.2.2.2.2.2.2.1 t.2.2.2.2.2.2.2.2.2.2.2.2.2.2.2.2.2.2.2.2.2.2.2.2.2.2.2.2.2.2.2.2.2.2.2.2.2.2.2.2.2.2.2.2.2.2.2.2.2.2.2.2.2.1 t.2.2.2.2.2.2.2.2.2.2.2.2.2.2.2.2.2.2.2.2.2.2.2.2.2.2.2.2.2.2.2.2.2.2.2.2.2.2.2.2.2.2.2.2.2.2.2.2.2.2.2.2.2.2.1 t.2.2.2.2.2.2.2.2.2.2.2.2.2.2.2.2.2.2.2.2.2.2.2.2.2.2.2.2.2.2.2.2.2.2.2.2.2.2.2.2.2.2.2.2.2.2.2.2.2.2.2.2.2.2.2.1 t.2.2.2.2.2.2.2.2.2.2.2.2.2.2.2.2.2.2.2.2.2.2.2.2.2.2.2.2.2.2.2.2.2.2.2.2.2.2.2.2.2.2.2.2.2.2.2.2.2.2.2.2.2.2.2.2.1 t.2.2.2.2.2.2.2.2.2.2.2.2.2.2.2.2.2.2.2.2.2.2.2.2.2.2.2.2.2.2.2.2.2.2.2.2.2.2.2.2.2.2.2.2.2.2.2.2.2.2.2.2.2.2.2.2.2.1 t.2.2.2.2.2.2.2.2.2.2.2.2.2.2.2.2.2.2.2.2.2.2.2.2.2.2.2.2.2.2.2.2.2.2.2.2.2.2.2.2.2.2.2.2.2.2.2.2.2.2.2.2.2.2.2.2.2.2.1 t.2.2.2.2.2.2.2.2.2.2.2.2.2.2.2.2.2.2.2.2.2.2.2.2.2.2.2.2.2.2.2.2.2.2.2.2.2.2.2.2.2.2.2.2.2.2.2.2.2.2.2.2.2.2.2.2.2.2.2.1 t.2.2.2.2.2.2.2.2.2.2.2.2.2.2.2.2.2.2.2.2.2.2.2.2.2.2.2.2.2.2.2.2.2.2.2.2.2.2.2.2.2.2.2.2.2.2.2.2.2.2.2.2.2.2.2.2.2.2.2.2.1 t.2.2.2.2.2.2.2.2.2.2.2.2.2.2.2.2.2.2.2.2.2.2.2.2.2.2.2.2.2.2.2.2.2.2.2.2.2.2.2.2.2.2.2.2.2.2.2.2.2.2.2.2.2.2.2.2.2.2.2.2.2.1 t.2.2.2.2.2.2.2.2.2.2.2.2.2.2.2.2.2.2.2.2.2.2.2.2.2.2.2.2.2.2.2.2.2.2.2.2.2.2.2.2.2.2.2.2.2.2.2.2.2.2.2.2.2.2.2.2.2.2.2.2.2.2.1 t.2.2.2.2.2.2.2.2.2.2.2.2.2.2.2.2.2.2.2.2.2.2.2.2.2.2.2.2.2.2.2.2.2.2.2.2.2.2.2.2.2.2.2.2.2.2.2.2.2.2.2.2.2.2.2.2.2.2.2.2.2.2.2.1 t.2.2.2.2.2.2.2.2.2.2.2.2.2.2.2.2.2.2.2.2.2.2.2.2.2.2.2.2.2.2.2.2.2.2.2.2.2.2.2.2.2.2.2.2.2.2.2.2.2.2.2.2.2.2.2.2.2.2.2.2.2.2.2.2.1 t.2.2.2.2.2.2.2.2.2.2.2.2.2.2.2.2.2.2.2.2.2.2.2.2.2.2.2.2.2.2.2.2.2.2.2.2.2.2.2.2.2.2.2.2.2.2.2.2.2.2.2.2.2.2.2.2.2.2.2.2.2.2.2.2.2.1 t.2.2.2.2.2.2.2.2.2.2.2.2.2.2.2.2.2.2.2.2.2.2.2.2.2.2.2.2.2.2.2.2.2.2.2.2.2.2.2.2.2.2.2.2.2.2.2.2.2.2.2.2.2.2.2.2.2.2.2.2.2.2.2.2.2.2.1 t.2.2.2.2.2.2.2.2.2.2.2.2.2.2.2.2.2.2.2.2.2.2.2.2.2.2.2.2.2.2.2.2.2.2.2.2.2.2.2.2.2.2.2.2.2.2.2.2.2.2.2.2.2.2.2.2.2.2.2.2.2.2.2.2.2.2.2
theorem wp_so68 {α0 α1 α2 α3 α4 α5 α6 α7 α8 α9 α10 α11 α12 α13 α14 α15 α16 α17 α18 α19 α20 α21 α22 α23 α24 α25 α26 α27 α28 α29 α30 α31 α32 α33 α34 α35 α36 α37 α38 α39 α40 α41 α42 α43 α44 α45 α46 α47 α48 α49 α50 α51 α52 α53 α54 α55 α56 α57 α58 α59 α60 α61 α62 α63 α64 α65 α66 α67 : Type} {a0 : α0} {a1 : α1} {a2 : α2} {a3 : α3} {a4 : α4} {a5 : α5} {a6 : α6} {a7 : α7} {a8 : α8} {a9 : α9} {a10 : α10} {a11 : α11} {a12 : α12} {a13 : α13} {a14 : α14} {a15 : α15} {a16 : α16} {a17 : α17} {a18 : α18} {a19 : α19} {a20 : α20} {a21 : α21} {a22 : α22} {a23 : α23} {a24 : α24} {a25 : α25} {a26 : α26} {a27 : α27} {a28 : α28} {a29 : α29} {a30 : α30} {a31 : α31} {a32 : α32} {a33 : α33} {a34 : α34} {a35 : α35} {a36 : α36} {a37 : α37} {a38 : α38} {a39 : α39} {a40 : α40} {a41 : α41} {a42 : α42} {a43 : α43} {a44 : α44} {a45 : α45} {a46 : α46} {a47 : α47} {a48 : α48} {a49 : α49} {a50 : α50} {a51 : α51} {a52 : α52} {a53 : α53} {a54 : α54} {a55 : α55} {a56 : α56} {a57 : α57} {a58 : α58} {a59 : α59} {a60 : α60} {a61 : α61} {a62 : α62} {a63 : α63} {a64 : α64} {a65 : α65} {a66 : α66} {a67 : α67} {R : α0 → α1 → α2 → α3 → α4 → α5 → α6 → α7 → α8 → α9 → α10 → α11 → α12 → α13 → α14 → α15 → α16 → α17 → α18 → α19 → α20 → α21 → α22 → α23 → α24 → α25 → α26 → α27 → α28 → α29 → α30 → α31 → α32 → α33 → α34 → α35 → α36 → α37 → α38 → α39 → α40 → α41 → α42 → α43 → α44 → α45 → α46 → α47 → α48 → α49 → α50 → α51 → α52 → α53 → α54 → α55 → α56 → α57 → α58 → α59 → α60 → α61 → α62 → α63 → α64 → α65 → α66 → α67 → Prop} (h : R a0 a1 a2 a3 a4 a5 a6 a7 a8 a9 a10 a11 a12 a13 a14 a15 a16 a17 a18 a19 a20 a21 a22 a23 a24 a25 a26 a27 a28 a29 a30 a31 a32 a33 a34 a35 a36 a37 a38 a39 a40 a41 a42 a43 a44 a45 a46 a47 a48 a49 a50 a51 a52 a53 a54 a55 a56 a57 a58 a59 a60 a61 a62 a63 a64 a65 a66 a67) : wp (some (a0, a1, a2, a3, a4, a5, a6, a7, a8, a9, a10, a11, a12, a13, a14, a15, a16, a17, a18, a19, a20, a21, a22, a23, a24, a25, a26, a27, a28, a29, a30, a31, a32, a33, a34, a35, a36, a37, a38, a39, a40, a41, a42, a43, a44, a45, a46, a47, a48, a49, a50, a51, a52, a53, a54, a55, a56, a57, a58, a59, a60, a61, a62, a63, a64, a65, a66, a67)) (cu68 R) := ⟨_, rfl, h⟩
theorem wp_cu68 {α0 α1 α2 α3 α4 α5 α6 α7 α8 α9 α10 α11 α12 α13 α14 α15 α16 α17 α18 α19 α20 α21 α22 α23 α24 α25 α26 α27 α28 α29 α30 α31 α32 α33 α34 α35 α36 α37 α38 α39 α40 α41 α42 α43 α44 α45 α46 α47 α48 α49 α50 α51 α52 α53 α54 α55 α56 α57 α58 α59 α60 α61 α62 α63 α64 α65 α66 α67 : Type} {x : Option (α0 × α1 × α2 × α3 × α4 × α5 × α6 × α7 × α8 × α9 × α10 × α11 × α12 × α13 × α14 × α15 × α16 × α17 × α18 × α19 × α20 × α21 × α22 × α23 × α24 × α25 × α26 × α27 × α28 × α29 × α30 × α31 × α32 × α33 × α34 × α35 × α36 × α37 × α38 × α39 × α40 × α41 × α42 × α43 × α44 × α45 × α46 × α47 × α48 × α49 × α50 × α51 × α52 × α53 × α54 × α55 × α56 × α57 × α58 × α59 × α60 × α61 × α62 × α63 × α64 × α65 × α66 × α67)} {R R' : α0 → α1 → α2 → α3 → α4 → α5 → α6 → α7 → α8 → α9 → α10 → α11 → α12 → α13 → α14 → α15 → α16 → α17 → α18 → α19 → α20 → α21 → α22 → α23 → α24 → α25 → α26 → α27 → α28 → α29 → α30 → α31 → α32 → α33 → α34 → α35 → α36 → α37 → α38 → α39 → α40 → α41 → α42 → α43 → α44 → α45 → α46 → α47 → α48 → α49 → α50 → α51 → α52 → α53 → α54 → α55 → α56 → α57 → α58 → α59 → α60 → α61 → α62 → α63 → α64 → α65 → α66 → α67 → Prop} (h : wp x (cu68 R)) (g : ∀ a0 a1 a2 a3 a4 a5 a6 a7 a8 a9 a10 a11 a12 a13 a14 a15 a16 a17 a18 a19 a20 a21 a22 a23 a24 a25 a26 a27 a28 a29 a30 a31 a32 a33 a34 a35 a36 a37 a38 a39 a40 a41 a42 a43 a44 a45 a46 a47 a48 a49 a50 a51 a52 a53 a54 a55 a56 a57 a58 a59 a60 a61 a62 a63 a64 a65 a66 a67, R a0 a1 a2 a3 a4 a5 a6 a7 a8 a9 a10 a11 a12 a13 a14 a15 a16 a17 a18 a19 a20 a21 a22 a23 a24 a25 a26 a27 a28 a29 a30 a31 a32 a33 a34 a35 a36 a37 a38 a39 a40 a41 a42 a43 a44 a45 a46 a47 a48 a49 a50 a51 a52 a53 a54 a55 a56 a57 a58 a59 a60 a61 a62 a63 a64 a65 a66 a67 → R' a0 a1 a2 a3 a4 a5 a6 a7 a8 a9 a10 a11 a12 a13 a14 a15 a16 a17 a18 a19 a20 a21 a22 a23 a24 a25 a26 a27 a28 a29 a30 a31 a32 a33 a34 a35 a36 a37 a38 a39 a40 a41 a42 a43 a44 a45 a46 a47 a48 a49 a50 a51 a52 a53 a54 a55 a56 a57 a58 a59 a60 a61 a62 a63 a64 a65 a66 a67) : wp x (cu68 R') := by
  obtain ⟨⟨a0, a1, a2, a3, a4, a5, a6, a7, a8, a9, a10, a11, a12, a13, a14, a15, a16, a17, a18, a19, a20, a21, a22, a23, a24, a25, a26, a27, a28, a29, a30, a31, a32, a33, a34, a35, a36, a37, a38, a39, a40, a41, a42, a43, a44, a45, a46, a47, a48, a49, a50, a51, a52, a53, a54, a55, a56, a57, a58, a59, a60, a61, a62, a63, a64, a65, a66, a67⟩, e, q⟩ := h
  exact ⟨_, e, g a0 a1 a2 a3 a4 a5 a6 a7 a8 a9 a10 a11 a12 a13 a14 a15 a16 a17 a18 a19 a20 a21 a22 a23 a24 a25 a26 a27 a28 a29 a30 a31 a32 a33 a34 a35 a36 a37 a38 a39 a40 a41 a42 a43 a44 a45 a46 a47 a48 a49 a50 a51 a52 a53 a54 a55 a56 a57 a58 a59 a60 a61 a62 a63 a64 a65 a66 a67 q⟩
end
section
/-! Ints without their wrapping; rows and their ranges -/
theorem i_bm (x : Int) : ∃ k : Int, x.bmod 4294967296 = x - 4294967296 * k ∧ -2147483648 ≤ x.bmod 4294967296 ∧ x.bmod 4294967296 < 2147483648 := by
  refine ⟨(x - x.bmod 4294967296) / 4294967296, ?_, ?_, ?_⟩
  · have h : x.bmod 4294967296 = x % 4294967296 ∨ x.bmod 4294967296 = x % 4294967296 - 4294967296 := by
      unfold Int.bmod
      dsimp only
      split <;> omega
    omega
  · have := Int.le_bmod (x := x) (m := 4294967296) (by decide)
    omega
  · have := Int.bmod_lt (x := x) (m := 4294967296) (by decide)
    omega
theorem i_addW (a b : Int32) : ∃ k : Int, (a + b).toInt = a.toInt + b.toInt - 4294967296 * k ∧ -2147483648 ≤ (a + b).toInt ∧ (a + b).toInt < 2147483648 := by
  rw [Int32.toInt_add]; exact i_bm _
theorem i_subW (a b : Int32) : ∃ k : Int, (a - b).toInt = a.toInt - b.toInt - 4294967296 * k ∧ -2147483648 ≤ (a - b).toInt ∧ (a - b).toInt < 2147483648 := by
  rw [Int32.toInt_sub]; exact i_bm _
theorem i_mulW (a b : Int32) : ∃ k : Int, (a * b).toInt = a.toInt * b.toInt - 4294967296 * k ∧ -2147483648 ≤ (a * b).toInt ∧ (a * b).toInt < 2147483648 := by
  rw [Int32.toInt_mul]; exact i_bm _
theorem i_add {a b : Int32} (h1 : -2147483648 ≤ a.toInt + b.toInt) (h2 : a.toInt + b.toInt < 2147483648) : (a + b).toInt = a.toInt + b.toInt := by
  obtain ⟨k, e1, e2, e3⟩ := i_addW a b
  omega
theorem i_sub {a b : Int32} (h1 : -2147483648 ≤ a.toInt - b.toInt) (h2 : a.toInt - b.toInt < 2147483648) : (a - b).toInt = a.toInt - b.toInt := by
  obtain ⟨k, e1, e2, e3⟩ := i_subW a b
  omega
theorem i_mul {a b : Int32} (h1 : -2147483648 ≤ a.toInt * b.toInt) (h2 : a.toInt * b.toInt < 2147483648) : (a * b).toInt = a.toInt * b.toInt := by
  obtain ⟨k, e1, e2, e3⟩ := i_mulW a b
  omega
theorem i_lt {a b : Int32} (h : a < b) : a.toInt < b.toInt := Int32.lt_iff_toInt_lt.mp h
theorem i_nlt {a b : Int32} (h : ¬ a < b) : b.toInt ≤ a.toInt := by
  have : ¬ a.toInt < b.toInt := fun k => h (Int32.lt_iff_toInt_lt.mpr k)
  omega
theorem i_le {a b : Int32} (h : a ≤ b) : a.toInt ≤ b.toInt := Int32.le_iff_toInt_le.mp h
theorem i_nle {a b : Int32} (h : ¬ a ≤ b) : b.toInt < a.toInt := by
  have : ¬ a.toInt ≤ b.toInt := fun k => h (Int32.le_iff_toInt_le.mpr k)
  omega
theorem i_eq {a b : Int32} (h : a = b) : a.toInt = b.toInt := by rw [h]
theorem i_ne {a b : Int32} (h : ¬ a = b) : ¬ a.toInt = b.toInt := fun k => h (Int32.toInt_inj.mp k)
theorem i_inb {i : Int32} {n : Nat} (h0 : 0 ≤ i.toInt) (h1 : i.toInt < n) : mm_inb i n = true := by
  unfold mm_inb
  have z : (0 : Int32).toInt = 0 := by decide
  have e1 : (0 : Int32) ≤ i := Int32.le_iff_toInt_le.mpr (by omega)
  have e2 : i.toNatClampNeg < n := by
    show i.toInt.toNat < n
    omega
  rw [decide_eq_true e1, decide_eq_true e2]
  rfl
theorem i_nz {i : Int32} (h : ¬ i.toInt = 0) : mm_nz i = true := by
  unfold mm_nz
  exact decide_eq_true (fun k => h (by rw [k]; decide))
theorem i_cok {sp dp n : Int32} {a b : Nat} (h1 : 0 ≤ sp.toInt) (h2 : 0 ≤ dp.toInt) (h3 : 0 ≤ n.toInt) (h4 : sp.toInt + n.toInt ≤ a) (h5 : dp.toInt + n.toInt ≤ b) : mm_cok sp dp n a b = true := by
  have z : (0 : Int32).toInt = 0 := by decide
  unfold mm_cok
  rw [decide_eq_true (Int32.le_iff_toInt_le.mpr (by omega)), decide_eq_true (Int32.le_iff_toInt_le.mpr (by omega)), decide_eq_true (Int32.le_iff_toInt_le.mpr (by omega)), decide_eq_true (show sp.toNatClampNeg + n.toNatClampNeg ≤ a from (show sp.toInt.toNat + n.toInt.toNat ≤ a by omega)), decide_eq_true (show dp.toNatClampNeg + n.toNatClampNeg ≤ b from (show dp.toInt.toNat + n.toInt.toNat ≤ b by omega))]
  rfl
theorem i_b (r : Bool) : 0 ≤ (mm_b r).toInt ∧ (mm_b r).toInt ≤ 1 := by cases r <;> decide
theorem i_max (a b : Int32) : (mm_max a b).toInt = max a.toInt b.toInt := by
  unfold mm_max
  by_cases h : a < b
  · have := i_lt h
    rw [if_pos h]; omega
  · have := i_nlt h
    rw [if_neg h]; omega
theorem i_min (a b : Int32) : (mm_min a b).toInt = min a.toInt b.toInt := by
  unfold mm_min
  by_cases h : b < a
  · have := i_lt h
    rw [if_pos h]; omega
  · have := i_nlt h
    rw [if_neg h]; omega
theorem i_div (x c : Int32) (hc : 0 < c.toInt) : x.toInt < 0 ∨ (x / c).toInt = x.toInt / c.toInt := by
  by_cases h : x.toInt < 0
  · exact Or.inl h
  · refine Or.inr ?_
    rw [Int32.toInt_div_of_ne_right x c (fun k => by rw [k] at hc; exact absurd hc (by decide))]
    exact Int.tdiv_eq_ediv_of_nonneg (by omega)
theorem i_rem (x c : Int32) (hc : 0 < c.toInt) : x.toInt < 0 ∨ ((mm_rem x c).toInt = x.toInt % c.toInt ∧ 0 ≤ (mm_rem x c).toInt ∧ (mm_rem x c).toInt < c.toInt) := by
  rcases i_div x c hc with h | h
  · exact Or.inl h
  · by_cases hx : x.toInt < 0
    · exact Or.inl hx
    · refine Or.inr ?_
      have e : (mm_rem x c).toInt = x.toInt % c.toInt := by
        show (x - x / c * c).toInt = _
        have l1 := Int32.toInt_lt x
        have q1 : 0 ≤ x.toInt / c.toInt := Int.ediv_nonneg (by omega) (by omega)
        have q2 : x.toInt / c.toInt * c.toInt ≤ x.toInt := Int.ediv_mul_le _ (by omega)
        have q3 : 0 ≤ x.toInt / c.toInt * c.toInt := Int.mul_nonneg q1 (by omega)
        have m1 : (x / c * c).toInt = x.toInt / c.toInt * c.toInt := by
          rw [i_mul (by rw [h]; omega) (by rw [h]; omega), h]
        rw [i_sub (by rw [m1]; omega) (by rw [m1]; omega), m1]
        have := Int.emod_def x.toInt c.toInt
        rw [this, Int.mul_comm c.toInt]
      have p1 := Int.emod_nonneg x.toInt (show c.toInt ≠ 0 by omega)
      have p2 := Int.emod_lt_of_pos x.toInt hc
      omega
theorem i_addY {a b z : Int32} (h : a + b = z) : ∃ k : Int, z.toInt = a.toInt + b.toInt - 4294967296 * k ∧ -2147483648 ≤ z.toInt ∧ z.toInt < 2147483648 := by subst h; exact i_addW a b
theorem i_subY {a b z : Int32} (h : a - b = z) : ∃ k : Int, z.toInt = a.toInt - b.toInt - 4294967296 * k ∧ -2147483648 ≤ z.toInt ∧ z.toInt < 2147483648 := by subst h; exact i_subW a b
theorem i_mulY {a b z : Int32} (h : a * b = z) : ∃ k : Int, z.toInt = a.toInt * b.toInt - 4294967296 * k ∧ -2147483648 ≤ z.toInt ∧ z.toInt < 2147483648 := by subst h; exact i_mulW a b
theorem i_divY {x c z : Int32} (h : x / c = z) (hc : 0 < c.toInt) : x.toInt < 0 ∨ z.toInt = x.toInt / c.toInt := by subst h; exact i_div x c hc
theorem i_remY {x c z : Int32} (h : mm_rem x c = z) (hc : 0 < c.toInt) : x.toInt < 0 ∨ (z.toInt = x.toInt % c.toInt ∧ 0 ≤ z.toInt ∧ z.toInt < c.toInt) := by subst h; exact i_rem x c hc
theorem i_mulL {a b z : Int32} {c : Int} (hc : a.toInt = c) (h : a * b = z) : ∃ k : Int, z.toInt = c * b.toInt - 4294967296 * k ∧ -2147483648 ≤ z.toInt ∧ z.toInt < 2147483648 := by rw [← hc]; exact i_mulY h
theorem i_mulR {a b z : Int32} {c : Int} (hc : b.toInt = c) (h : a * b = z) : ∃ k : Int, z.toInt = a.toInt * c - 4294967296 * k ∧ -2147483648 ≤ z.toInt ∧ z.toInt < 2147483648 := by rw [← hc]; exact i_mulY h
theorem i_divL {x b z : Int32} {c : Int} (hc : b.toInt = c) (h0 : 0 < c) (h : x / b = z) : x.toInt < 0 ∨ z.toInt = x.toInt / c := by rw [← hc] at h0 ⊢; exact i_divY h h0
theorem i_remL {x b z : Int32} {c : Int} (hc : b.toInt = c) (h0 : 0 < c) (h : mm_rem x b = z) : x.toInt < 0 ∨ (z.toInt = x.toInt % c ∧ 0 ≤ z.toInt ∧ z.toInt < c) := by rw [← hc] at h0 ⊢; exact i_remY h h0
theorem i_addE {a b z : Int32} (h : a + b = z) (h1 : -2147483648 ≤ a.toInt + b.toInt) (h2 : a.toInt + b.toInt < 2147483648) : z.toInt = a.toInt + b.toInt := by subst h; exact i_add h1 h2
theorem i_subE {a b z : Int32} (h : a - b = z) (h1 : -2147483648 ≤ a.toInt - b.toInt) (h2 : a.toInt - b.toInt < 2147483648) : z.toInt = a.toInt - b.toInt := by subst h; exact i_sub h1 h2
theorem i_mulLE {a b z : Int32} {c : Int} (hc : a.toInt = c) (h : a * b = z) (h1 : -2147483648 ≤ c * b.toInt) (h2 : c * b.toInt < 2147483648) : z.toInt = c * b.toInt := by subst h; rw [← hc] at h1 h2 ⊢; exact i_mul h1 h2
theorem i_mulRE {a b z : Int32} {c : Int} (hc : b.toInt = c) (h : a * b = z) (h1 : -2147483648 ≤ a.toInt * c) (h2 : a.toInt * c < 2147483648) : z.toInt = a.toInt * c := by subst h; rw [← hc] at h1 h2 ⊢; exact i_mul h1 h2
theorem i_divE {x b z : Int32} {c : Int} (hc : b.toInt = c) (h0 : 0 < c) (h : x / b = z) (hx : 0 ≤ x.toInt) : z.toInt = x.toInt / c := by
  rcases i_divL hc h0 h with k | k
  · exact absurd hx (by omega)
  · exact k
theorem i_remE {x b z : Int32} {c : Int} (hc : b.toInt = c) (h0 : 0 < c) (h : mm_rem x b = z) (hx : 0 ≤ x.toInt) : z.toInt = x.toInt % c := by
  rcases i_remL hc h0 h with k | k
  · exact absurd hx (by omega)
  · exact k.1
theorem i_maxY {a b z : Int32} (h : mm_max a b = z) : z.toInt = max a.toInt b.toInt := by subst h; exact i_max a b
theorem i_minY {a b z : Int32} (h : mm_min a b = z) : z.toInt = min a.toInt b.toInt := by subst h; exact i_min a b
theorem i_bY {r : Bool} {z : Int32} (h : mm_b r = z) : 0 ≤ z.toInt ∧ z.toInt ≤ 1 := by subst h; exact i_b r
theorem i_64 (x : Int32) : x.toInt64.toInt = x.toInt := Int32.toInt_toInt64 x
theorem is_len (l : List Int32) (i x : Int32) : (mm_is l i x).length = l.length := by
  unfold mm_is; rw [List.length_set]
theorem ls_len (l : List Int64) (i : Int32) (x : Int64) : (mm_ls l i x).length = l.length := by
  unfold mm_ls; rw [List.length_set]
theorem cp_len {α : Type} {xs ys : List α} {sp dp n : Int32} (h : mm_cok sp dp n xs.length ys.length = true) : (mm_cp xs ys sp dp n).length = ys.length := by
  unfold mm_cok at h
  simp only [Bool.and_eq_true, decide_eq_true_eq] at h
  unfold mm_cp
  rw [List.length_append, List.length_append, List.length_take, List.length_take, List.length_drop, List.length_drop]
  omega
theorem ig_is (l : List Int32) (i j x : Int32) (hj : 0 ≤ j.toInt) (h : j.toInt < l.length) (hi : 0 ≤ i.toInt) : mm_ig (mm_is l i x) j = if i.toInt = j.toInt then x else mm_ig l j := by
  unfold mm_ig mm_is
  rw [List.getD_eq_getElem?_getD, List.getD_eq_getElem?_getD, List.getElem?_set]
  by_cases e : i.toInt = j.toInt
  · rw [if_pos e, if_pos (show i.toNatClampNeg = j.toNatClampNeg from (show i.toInt.toNat = j.toInt.toNat by omega)), if_pos (show i.toNatClampNeg < l.length from (show i.toInt.toNat < l.length by omega))]
    rfl
  · rw [if_neg e, if_neg (show ¬ i.toNatClampNeg = j.toNatClampNeg from (show ¬ i.toInt.toNat = j.toInt.toNat by omega))]
/-- from a on below b the row's elements are from lo on below hi -/
def zn (l : List Int32) (a b lo hi : Int) : Prop := ∀ i : Int32, 0 ≤ i.toInt → a ≤ i.toInt → i.toInt < b → i.toInt < l.length → lo ≤ (mm_ig l i).toInt ∧ (mm_ig l i).toInt < hi
theorem zn_get {l : List Int32} {a b lo hi : Int} (h : zn l a b lo hi) {i : Int32} (h0 : 0 ≤ i.toInt) (h1 : a ≤ i.toInt) (h2 : i.toInt < b) (h3 : i.toInt < l.length) : lo ≤ (mm_ig l i).toInt ∧ (mm_ig l i).toInt < hi := h i h0 h1 h2 h3
theorem zn_nil {l : List Int32} {a b lo hi : Int} (h : b ≤ a) : zn l a b lo hi := fun i _ h1 h2 _ => absurd h2 (by omega)
theorem zn_sub {l : List Int32} {a b lo hi a' b' lo' hi' : Int} (h : zn l a b lo hi) (h1 : a ≤ a') (h2 : b' ≤ b) (h3 : lo' ≤ lo) (h4 : hi ≤ hi') : zn l a' b' lo' hi' := fun i k0 k1 k2 k3 => by
  have := h i k0 (by omega) (by omega) k3
  omega
theorem zn_out {l : List Int32} {a b lo hi : Int} (h : zn l a b lo hi) {i x : Int32} (hi' : 0 ≤ i.toInt) (k : i.toInt < a ∨ b ≤ i.toInt) : zn (mm_is l i x) a b lo hi := fun j j0 j1 j2 j3 => by
  rw [is_len] at j3
  rw [ig_is l i j x j0 j3 hi', if_neg (by omega)]
  exact h j j0 j1 j2 j3
theorem zn_in {l : List Int32} {a b lo hi : Int} (h : zn l a b lo hi) {i x : Int32} (hi' : 0 ≤ i.toInt) (k1 : lo ≤ x.toInt) (k2 : x.toInt < hi) : zn (mm_is l i x) a b lo hi := fun j j0 j1 j2 j3 => by
  rw [is_len] at j3
  rw [ig_is l i j x j0 j3 hi']
  by_cases e : i.toInt = j.toInt
  · rw [if_pos e]; exact ⟨k1, k2⟩
  · rw [if_neg e]; exact h j j0 j1 j2 j3
/-- one element more, written just now -/
theorem zn_ext {l : List Int32} {a b lo hi : Int} (h : zn l a b lo hi) {i x : Int32} (hi' : 0 ≤ i.toInt) (e : i.toInt = b) (k1 : lo ≤ x.toInt) (k2 : x.toInt < hi) {b' : Int} (eb : b' = b + 1) : zn (mm_is l i x) a b' lo hi := fun j j0 j1 j2 j3 => by
  rw [is_len] at j3
  rw [ig_is l i j x j0 j3 hi']
  by_cases e' : i.toInt = j.toInt
  · rw [if_pos e']; exact ⟨k1, k2⟩
  · rw [if_neg e']; exact h j j0 j1 (by omega) j3
theorem zn_len {l : List Int32} {b lo hi : Int} (h : ∀ x ∈ l, lo ≤ x.toInt ∧ x.toInt < hi) (a : Int) : zn l a b lo hi := fun i h0 _ _ h3 => by
  have k : i.toNatClampNeg < l.length := by
    show i.toInt.toNat < _
    omega
  have e : mm_ig l i = l[i.toNatClampNeg] := by
    unfold mm_ig
    rw [List.getD_eq_getElem?_getD, List.getElem?_eq_getElem k]
    rfl
  rw [e]
  exact h _ (List.getElem_mem k)
theorem cp_all {α : Type} {xs ys : List α} {n : Int32} {m : Nat} (h1 : xs.length = m) (h2 : ys.length = m) (hn : n.toInt = m) : mm_cp xs ys 0 0 n = xs := by
  unfold mm_cp
  have e0 : (0 : Int32).toNatClampNeg = 0 := by decide
  have en : n.toNatClampNeg = m := by
    show n.toInt.toNat = m
    omega
  rw [e0, en, List.take_zero, List.drop_zero, List.nil_append, Nat.zero_add, List.take_of_length_le (by omega), List.drop_of_length_le (by omega), List.append_nil]
theorem zn_join {l : List Int32} {a b c lo hi : Int} (h1 : zn l a b lo hi) (h2 : zn l b c lo hi) : zn l a c lo hi := fun i k0 k1 k2 k3 => by
  by_cases e : i.toInt < b
  · exact h1 i k0 k1 e k3
  · exact h2 i k0 (by omega) k2 k3
/-- a product that is stepped through -/
def pm (a b c : Int) : Prop := a = b * c
theorem pm_0 {a b c : Int} (h1 : a = 0) (h2 : b = 0) : pm a b c := by unfold pm; rw [h1, h2, Int.zero_mul]
theorem pm_eq {a b c a' b' : Int} (h : pm a b c) (h1 : a' = a) (h2 : b' = b) : pm a' b' c := by rw [h1, h2]; exact h
theorem pm_step {a b c a' b' : Int} (h : pm a b c) (h1 : b' = b + 1) (h2 : a' = a + c) : pm a' b' c := by
  unfold pm at h ⊢
  rw [h1, h2, h, Int.add_mul, Int.one_mul]
theorem pm_bd {a b c : Int} (h : pm a b c) {r : Int} (h1 : 0 ≤ b) (h2 : b + 1 ≤ r) (h3 : 0 ≤ c) : 0 ≤ a ∧ a + c ≤ r * c := by
  unfold pm at h
  have k1 : 0 ≤ b * c := Int.mul_nonneg h1 h3
  have k2 : (b + 1) * c ≤ r * c := Int.mul_le_mul_of_nonneg_right h2 h3
  rw [Int.add_mul, Int.one_mul] at k2
  omega
theorem pm_end {a b c : Int} (h : pm a b c) {r : Int} (h1 : b = r) : a = r * c := by rw [← h1]; exact h
theorem nb_r (x R C : Int) : 0 ≤ x → x < R * C → 0 < C → x % C < C - 1 → x + 1 < R * C := fun h0 h1 h2 h3 => by
  by_cases e : x + 1 < R * C
  · exact e
  · exfalso
    have e' : x = R * C - 1 := by omega
    have k : (R * C - 1) % C = C - 1 := by
      have : R * C - 1 = (C - 1) + (R - 1) * C := by rw [Int.sub_mul, Int.one_mul]; omega
      rw [this, Int.add_mul_emod_self_right]
      exact Int.emod_eq_of_lt (by omega) (by omega)
    rw [e', k] at h3
    omega
/-- rows and columns -/
theorem i_fl {a b : Int32} (h1 : 1 ≤ a.toInt) (h2 : a.toInt ≤ 4) (h3 : 1 ≤ b.toInt) (h4 : b.toInt ≤ 8) : (a * b).toInt = a.toInt * b.toInt ∧ 1 ≤ a.toInt * b.toInt ∧ a.toInt * b.toInt ≤ 32 := by
  have k : a.toInt = 1 ∨ a.toInt = 2 ∨ a.toInt = 3 ∨ a.toInt = 4 := by omega
  have r : 1 ≤ a.toInt * b.toInt ∧ a.toInt * b.toInt ≤ 32 := by
    rcases k with k | k | k | k <;> rw [k] <;> omega
  exact ⟨i_mul (by omega) (by omega), r⟩
end
section
/-! safe -/
theorem uf_J7_fill_53178_5 (N : Nat) (n : Nat) (x1 : Int32) (x2 : Int32) (x3 : Int32) (p0_row : List Int32) : fJ7_fill_53178_5 N (n + 1) x1 x2 x3 p0_row = 
    if x3 ≤ x2 then
    (some (p0_row))
    else (mm_ck (mm_inb x2 p0_row.length) (mm_nm (mm_is p0_row x2 x1) (fun (l_4 : List Int32) =>
    mm_nm (x2 + (1 : Int32)) (fun (y_5 : Int32) =>
    fJ7_fill_53178_5 N n x1 y_5 x3 l_4)))) := rfl

theorem uf_J7_fill_53178 (N : Nat) (x1 : Int32) (p0_row : List Int32) : fJ7_fill_53178 N x1 p0_row = mm_nm ((Int32.ofNat p0_row.length)) (fun (y_1 : Int32) =>
    fJ7_fill_53178_5 N N x1 (0 : Int32) y_1 p0_row) := rfl

theorem uf_J7_fill_d0a16_6 (N : Nat) (n : Nat) (x1 : Int64) (x3 : Int32) (x4 : Int32) (p0_row : List Int64) : fJ7_fill_d0a16_6 N (n + 1) x1 x3 x4 p0_row = 
    if x4 ≤ x3 then
    (some (p0_row))
    else (mm_ck (mm_inb x3 p0_row.length) (mm_nm (mm_ls p0_row x3 x1) (fun (l_4 : List Int64) =>
    mm_nm (x3 + (1 : Int32)) (fun (y_5 : Int32) =>
    fJ7_fill_d0a16_6 N n x1 y_5 x4 l_4)))) := rfl

theorem uf_J7_fill_d0a16 (N : Nat) (x1 : Int64) (p0_row : List Int64) : fJ7_fill_d0a16 N x1 p0_row = mm_nm ((Int32.ofNat p0_row.length)) (fun (y_1 : Int32) =>
    fJ7_fill_d0a16_6 N N x1 (0 : Int32) y_1 p0_row) := rfl


theorem zn_above : zn mm_ABOVE 0 8 (-1) 8 := zn_len (by decide) 0
theorem zn_start : zn mm_START 0 9 0 681 := zn_len (by decide) 0
theorem zn_own : zn mm_OWN 0 32 0 82 := zn_len (by decide) 0
theorem i_ofn {n : Nat} (h : n ≤ 1000) : (Int32.ofNat n).toInt = n := by
  rw [Int32.toInt_ofNat']
  show (n : Int).bmod 4294967296 = n
  exact Int.bmod_eq_of_le (by omega) (by omega)
theorem sf_J7_fill_53178_5 {N : Nat} : ∀ (n : Nat) (x1 x2 x3 : Int32) (p0_row : List Int32), 0 ≤ x2.toInt → x3.toInt ≤ p0_row.length → (x3.toInt - x2.toInt).toNat < n → wp (fJ7_fill_53178_5 N n x1 x2 x3 p0_row) (fun r => r.length = p0_row.length) := by
  intro n
  induction n with
  | zero =>
    intro x1 x2 x3 p0_row h0 h1 hm
    exact absurd hm (by omega)
  | succ n ih =>
    intro x1 x2 x3 p0_row h0 h1 hm
    rw [uf_J7_fill_53178_5]
    refine wp_if (fun c => ?_) (fun c => ?_)
    · exact wp_so1 rfl
    · have c := i_nle c
      have hx3 := Int32.toInt_lt x3
      refine wp_ck (i_inb (by omega) (by omega)) ?_
      refine wp_nm (fun l hl => ?_)
      have nl : l.length = p0_row.length := by rw [hl, is_len]
      have n1 : (1 : Int32).toInt = 1 := by decide
      obtain ⟨k, e1, e2, e3⟩ := i_addW x2 (1 : Int32)
      refine wp_nm (fun y hy => ?_)
      have ty : y.toInt = (x2 + (1 : Int32)).toInt := by rw [hy]
      exact wp_mono (ih x1 y x3 l (by omega) (by omega) (by omega)) (fun r q => by rw [q, nl])
theorem sf_J7_fill_53178 {N : Nat} (hN : 700 ≤ N) {x1 : Int32} {p0_row : List Int32} (h : p0_row.length ≤ 1000) (hk : p0_row.length < N) : wp (fJ7_fill_53178 N x1 p0_row) (fun (wp0_row : List Int32) => wp0_row.length = p0_row.length) := by
  rw [uf_J7_fill_53178]
  have e := i_ofn h
  refine wp_nm (fun y hy => ?_)
  have ty : y.toInt = p0_row.length := by rw [hy, e]
  have n0 : (0 : Int32).toInt = 0 := by decide
  exact sf_J7_fill_53178_5 N x1 0 y p0_row (by omega) (by omega) (by omega)
theorem sf_J7_fill_d0a16_6 {N : Nat} : ∀ (n : Nat) (x1 : Int64) (x3 x4 : Int32) (p0_row : List Int64), 0 ≤ x3.toInt → x4.toInt ≤ p0_row.length → (x4.toInt - x3.toInt).toNat < n → wp (fJ7_fill_d0a16_6 N n x1 x3 x4 p0_row) (fun r => r.length = p0_row.length) := by
  intro n
  induction n with
  | zero =>
    intro x1 x2 x3 p0_row h0 h1 hm
    exact absurd hm (by omega)
  | succ n ih =>
    intro x1 x2 x3 p0_row h0 h1 hm
    rw [uf_J7_fill_d0a16_6]
    refine wp_if (fun c => ?_) (fun c => ?_)
    · exact wp_so1 rfl
    · have c := i_nle c
      have hx3 := Int32.toInt_lt x3
      refine wp_ck (i_inb (by omega) (by omega)) ?_
      refine wp_nm (fun l hl => ?_)
      have nl : l.length = p0_row.length := by rw [hl, ls_len]
      have n1 : (1 : Int32).toInt = 1 := by decide
      obtain ⟨k, e1, e2, e3⟩ := i_addW x2 (1 : Int32)
      refine wp_nm (fun y hy => ?_)
      have ty : y.toInt = (x2 + (1 : Int32)).toInt := by rw [hy]
      exact wp_mono (ih x1 y x3 l (by omega) (by omega) (by omega)) (fun r q => by rw [q, nl])
theorem sf_J7_fill_d0a16 {N : Nat} (hN : 700 ≤ N) {x1 : Int64} {p0_row : List Int64} (h : p0_row.length ≤ 1000) (hk : p0_row.length < N) : wp (fJ7_fill_d0a16 N x1 p0_row) (fun (wp0_row : List Int64) => wp0_row.length = p0_row.length) := by
  rw [uf_J7_fill_d0a16]
  have e := i_ofn h
  refine wp_nm (fun y hy => ?_)
  have ty : y.toInt = p0_row.length := by rw [hy, e]
  have n0 : (0 : Int32).toInt = 0 := by decide
  exact sf_J7_fill_d0a16_6 N x1 0 y p0_row (by omega) (by omega) (by omega)

theorem uf_X0_forgetOldest (N : Nat) (v_done : Int32) (v_before : List Int32) (v_after : List Int32) : fX0_forgetOldest N v_done v_before v_after = mm_ck (mm_cok (1 : Int32) (0 : Int32) (39 : Int32) v_before.length v_before.length) (mm_nm (mm_cp v_before v_before (1 : Int32) (0 : Int32) (39 : Int32)) (fun (l_2 : List Int32) =>
    mm_ck (mm_cok (1 : Int32) (0 : Int32) (39 : Int32) v_after.length v_after.length) (mm_nm (mm_cp v_after v_after (1 : Int32) (0 : Int32) (39 : Int32)) (fun (l_4 : List Int32) =>
    mm_nm ((v_done - (1 : Int32))) (fun (y_5 : Int32) =>
    some (y_5, l_2, l_4)))))) := rfl

set_option maxHeartbeats 4000000 in
set_option maxRecDepth 20000 in
theorem sf_X0_forgetOldest {N : Nat} (hN : 700 ≤ N) {v_done : Int32} {v_before : List Int32} {v_after : List Int32} (h_0 : 0 ≤ v_done.toInt) (h_1 : v_done.toInt ≤ 40) (h_2 : v_before.length = 40) (h_3 : v_after.length = 40) (h_4 : 1 ≤ v_done.toInt) : wp (fX0_forgetOldest N v_done v_before v_after) (cu3 (fun (wv_done : Int32) (wv_before : List Int32) (wv_after : List Int32) => 0 ≤ wv_done.toInt ∧ wv_done.toInt ≤ 40 ∧ wv_before.length = 40 ∧ wv_after.length = 40 ∧ wv_done.toInt ≤ 39)) := by
  refine wp_of (uf_X0_forgetOldest _ _ _ _) ?_
  have n_1 : (1 : Int32).toInt = 1 := by decide
  have n_2 : (0 : Int32).toInt = 0 := by decide
  have n_3 : (39 : Int32).toInt = 39 := by decide
  have hc_4 : (mm_cok (1 : Int32) (0 : Int32) (39 : Int32) v_before.length v_before.length) = true := i_cok (by omega) (by omega) (by omega) (by omega) (by omega)
  refine wp_ck hc_4 ?_
  refine wp_nm (fun l_2 h_l_2 => ?_)
  have nl_l_2 : l_2.length = 40 := by rw [h_l_2, cp_len hc_4]; assumption
  have hc_5 : (mm_cok (1 : Int32) (0 : Int32) (39 : Int32) v_after.length v_after.length) = true := i_cok (by omega) (by omega) (by omega) (by omega) (by omega)
  refine wp_ck hc_5 ?_
  refine wp_nm (fun l_4 h_l_4 => ?_)
  have nl_l_4 : l_4.length = 40 := by rw [h_l_4, cp_len hc_5]; assumption
  refine wp_nm (fun y_5 h_y_5 => ?_)
  have e_6 := i_subE h_y_5.symm (by omega) (by omega)
  exact wp_so3 ⟨(by omega), (by omega), nl_l_2, nl_l_4, (by omega)⟩

theorem uf_X0_become (N : Nat) (x1 : Int32) (v_value : Int32) (v_done : Int32) (v_size : Int32) (v_before : List Int32) (v_after : List Int32) : fX0_become N x1 v_value v_done v_size v_before v_after = if x1 = v_value then
    (some (v_value, v_done, v_size, v_before, v_after))
    else (if v_done = (40 : Int32) then
    (mm_bd3 (fX0_forgetOldest N v_done v_before v_after) (fun (w_3 : Int32) (w_4 : List Int32) (w_5 : List Int32) =>
    fX0_become_22 N x1 v_value w_3 v_size w_4 w_5))
    else (fX0_become_22 N x1 v_value v_done v_size v_before v_after)) := rfl

theorem uf_X0_become_22 (N : Nat) (x1 : Int32) (v_value : Int32) (v_done : Int32) (v_size : Int32) (v_before : List Int32) (v_after : List Int32) : fX0_become_22 N x1 v_value v_done v_size v_before v_after = mm_ck (mm_inb v_done v_before.length) (mm_nm (mm_is v_before v_done v_value) (fun (l_8 : List Int32) =>
    mm_ck (mm_inb v_done v_after.length) (mm_nm (mm_is v_after v_done x1) (fun (l_10 : List Int32) =>
    mm_nm ((v_done + (1 : Int32))) (fun (y_11 : Int32) =>
    some (x1, y_11, y_11, l_8, l_10)))))) := rfl

set_option maxHeartbeats 4000000 in
set_option maxRecDepth 20000 in
theorem sf_X0_become {N : Nat} (hN : 700 ≤ N) {x1 : Int32} {v_value : Int32} {v_done : Int32} {v_size : Int32} {v_before : List Int32} {v_after : List Int32} (h_0 : 0 ≤ v_done.toInt) (h_1 : v_done.toInt ≤ 40) (h_2 : 0 ≤ v_size.toInt) (h_3 : v_size.toInt ≤ 40) (h_4 : v_before.length = 40) (h_5 : v_after.length = 40) : wp (fX0_become N x1 v_value v_done v_size v_before v_after) (cu5 (fun (wv_value : Int32) (wv_done : Int32) (wv_size : Int32) (wv_before : List Int32) (wv_after : List Int32) => 0 ≤ wv_done.toInt ∧ wv_done.toInt ≤ 40 ∧ 0 ≤ wv_size.toInt ∧ wv_size.toInt ≤ 40 ∧ wv_before.length = 40 ∧ wv_after.length = 40)) := by
  refine wp_of (uf_X0_become _ _ _ _ _ _ _) ?_
  refine wp_if (fun c_1 => ?_) (fun c_1 => ?_)
  ·
    have dc_1 := i_eq c_1
    exact wp_so5 ⟨h_0, h_1, h_2, h_3, h_4, h_5⟩
  ·
    have dc_1 := i_ne c_1
    have n_3 : (40 : Int32).toInt = 40 := by decide
    refine wp_if (fun c_2 => ?_) (fun c_2 => ?_)
    ·
      have dc_2 := i_eq c_2
      refine wp_bd3 (sf_X0_forgetOldest hN h_0 h_1 h_4 h_5 (by omega)) (fun w_3 w_4 w_5 ⟨q_4, q_5, q_6, q_7, q_8⟩ => ?_)
      refine wp_of (uf_X0_become_22 _ _ _ _ _ _ _) ?_
      refine wp_ck (i_inb (by omega) (by omega)) ?_
      refine wp_nm (fun l_8 h_l_8 => ?_)
      have nl_l_8 : l_8.length = 40 := by rw [h_l_8, is_len]; assumption
      refine wp_ck (i_inb (by omega) (by omega)) ?_
      refine wp_nm (fun l_10 h_l_10 => ?_)
      have nl_l_10 : l_10.length = 40 := by rw [h_l_10, is_len]; assumption
      have n_9 : (1 : Int32).toInt = 1 := by decide
      refine wp_nm (fun y_11 h_y_11 => ?_)
      have e_10 := i_addE h_y_11.symm (by omega) (by omega)
      exact wp_so5 ⟨(by omega), (by omega), (by omega), (by omega), nl_l_8, nl_l_10⟩
    ·
      have dc_2 := i_ne c_2
      refine wp_of (uf_X0_become_22 _ _ _ _ _ _ _) ?_
      refine wp_ck (i_inb (by omega) (by omega)) ?_
      refine wp_nm (fun l_8__11 h_l_8__11 => ?_)
      have nl_l_8__11 : l_8__11.length = 40 := by rw [h_l_8__11, is_len]; assumption
      refine wp_ck (i_inb (by omega) (by omega)) ?_
      refine wp_nm (fun l_10__12 h_l_10__12 => ?_)
      have nl_l_10__12 : l_10__12.length = 40 := by rw [h_l_10__12, is_len]; assumption
      have n_14 : (1 : Int32).toInt = 1 := by decide
      refine wp_nm (fun y_11__13 h_y_11__13 => ?_)
      have e_15 := i_addE h_y_11__13.symm (by omega) (by omega)
      exact wp_so5 ⟨(by omega), (by omega), (by omega), (by omega), nl_l_8__11, nl_l_10__12⟩

theorem uf_X0_stepBack (N : Nat) (v_value : Int32) (v_done : Int32) (v_before : List Int32) : fX0_stepBack N v_value v_done v_before = if v_done ≤ 0 then
    (some (v_value, v_done))
    else (mm_nm ((v_done - (1 : Int32))) (fun (y_2 : Int32) =>
    mm_ck (mm_inb y_2 v_before.length) (mm_nm ((mm_ig v_before y_2)) (fun (y_4 : Int32) =>
    some (y_4, y_2))))) := rfl

set_option maxHeartbeats 4000000 in
set_option maxRecDepth 20000 in
theorem sf_X0_stepBack {N : Nat} (hN : 700 ≤ N) {v_value : Int32} {v_done : Int32} {v_before : List Int32} (h_0 : 0 ≤ v_done.toInt) (h_1 : v_done.toInt ≤ 40) (h_2 : v_before.length = 40) : wp (fX0_stepBack N v_value v_done v_before) (cu2 (fun (wv_value : Int32) (wv_done : Int32) => 0 ≤ wv_done.toInt ∧ wv_done.toInt ≤ 40)) := by
  refine wp_of (uf_X0_stepBack _ _ _ _) ?_
  have n_2 : (0 : Int32).toInt = 0 := by decide
  refine wp_if (fun c_1 => ?_) (fun c_1 => ?_)
  ·
    have dc_1 := i_le c_1
    exact wp_so2 ⟨h_0, h_1⟩
  ·
    have dc_1 := i_nle c_1
    have n_3 : (1 : Int32).toInt = 1 := by decide
    refine wp_nm (fun y_2 h_y_2 => ?_)
    have e_4 := i_subE h_y_2.symm (by omega) (by omega)
    refine wp_ck (i_inb (by omega) (by omega)) ?_
    refine wp_nm (fun y_4 h_y_4 => ?_)
    have t_y_4 : y_4.toInt = ((mm_ig v_before y_2)).toInt := by rw [h_y_4]
    exact wp_so2 ⟨(by omega), (by omega)⟩

theorem uf_X0_stepOn (N : Nat) (v_value : Int32) (v_done : Int32) (v_size : Int32) (v_after : List Int32) : fX0_stepOn N v_value v_done v_size v_after = if v_size ≤ v_done then
    (some (v_value, v_done))
    else (mm_ck (mm_inb v_done v_after.length) (mm_nm ((mm_ig v_after v_done)) (fun (y_3 : Int32) =>
    mm_nm ((v_done + (1 : Int32))) (fun (y_4 : Int32) =>
    some (y_3, y_4))))) := rfl

set_option maxHeartbeats 4000000 in
set_option maxRecDepth 20000 in
theorem sf_X0_stepOn {N : Nat} (hN : 700 ≤ N) {v_value : Int32} {v_done : Int32} {v_size : Int32} {v_after : List Int32} (h_0 : 0 ≤ v_done.toInt) (h_1 : v_done.toInt ≤ 40) (h_2 : 0 ≤ v_size.toInt) (h_3 : v_size.toInt ≤ 40) (h_4 : v_after.length = 40) : wp (fX0_stepOn N v_value v_done v_size v_after) (cu2 (fun (wv_value : Int32) (wv_done : Int32) => 0 ≤ wv_done.toInt ∧ wv_done.toInt ≤ 40)) := by
  refine wp_of (uf_X0_stepOn _ _ _ _ _) ?_
  refine wp_if (fun c_1 => ?_) (fun c_1 => ?_)
  ·
    have dc_1 := i_le c_1
    exact wp_so2 ⟨h_0, h_1⟩
  ·
    have dc_1 := i_nle c_1
    refine wp_ck (i_inb (by omega) (by omega)) ?_
    refine wp_nm (fun y_3 h_y_3 => ?_)
    have t_y_3 : y_3.toInt = ((mm_ig v_after v_done)).toInt := by rw [h_y_3]
    have n_2 : (1 : Int32).toInt = 1 := by decide
    refine wp_nm (fun y_4 h_y_4 => ?_)
    have e_3 := i_addE h_y_4.symm (by omega) (by omega)
    exact wp_so2 ⟨(by omega), (by omega)⟩

theorem uf_X1_make (N : Nat) (x1 : Int32) (v_size : Int32) (v_kinds : List Int32) : fX1_make N x1 v_size v_kinds = if v_size < (50 : Int32) then
    (mm_ck (mm_inb v_size v_kinds.length) (mm_nm (mm_is v_kinds v_size x1) (fun (l_3 : List Int32) =>
    mm_nm ((v_size + (1 : Int32))) (fun (y_4 : Int32) =>
    some (true, y_4, l_3)))))
    else (some (false, v_size, v_kinds)) := rfl

set_option maxHeartbeats 4000000 in
set_option maxRecDepth 20000 in
theorem sf_X1_make {N : Nat} (hN : 700 ≤ N) {x1 : Int32} {v_size : Int32} {v_kinds : List Int32} (h_0 : 0 ≤ v_size.toInt) (h_1 : v_size.toInt ≤ 50) (h_2 : v_kinds.length = 50) (h_3 : zn v_kinds 0 v_size.toInt 0 8) (h_4 : 0 ≤ x1.toInt) (h_5 : x1.toInt < 8) : wp (fX1_make N x1 v_size v_kinds) (cu3 (fun (r : Bool) (wv_size : Int32) (wv_kinds : List Int32) => 0 ≤ wv_size.toInt ∧ wv_size.toInt ≤ 50 ∧ wv_kinds.length = 50 ∧ zn wv_kinds 0 wv_size.toInt 0 8)) := by
  refine wp_of (uf_X1_make _ _ _ _) ?_
  have n_2 : (50 : Int32).toInt = 50 := by decide
  refine wp_if (fun c_1 => ?_) (fun c_1 => ?_)
  ·
    have dc_1 := i_lt c_1
    refine wp_ck (i_inb (by omega) (by omega)) ?_
    refine wp_nm (fun l_3 h_l_3 => ?_)
    have nl_l_3 : l_3.length = 50 := by rw [h_l_3, is_len]; assumption
    have n_3 : (1 : Int32).toInt = 1 := by decide
    refine wp_nm (fun y_4 h_y_4 => ?_)
    have e_4 := i_addE h_y_4.symm (by omega) (by omega)
    exact wp_so3 ⟨(by omega), (by omega), nl_l_3, (by first | assumption | exact zn_nil (by omega) | (rw [h_l_3]; first | exact zn_out h_3 (by omega) (by omega) | exact zn_in h_3 (by omega) (by omega) (by omega) | exact zn_ext h_3 (by omega) (by omega) (by omega) (by omega) (by omega) | exact zn_out (zn_sub h_3 (by omega) (by omega) (by omega) (by omega)) (by omega) (by omega)) | (exfalso; omega))⟩
  ·
    have dc_1 := i_nlt c_1
    exact wp_so3 ⟨h_0, h_1, h_2, h_3⟩

theorem uf_X1_has (N : Nat) (x1 : Int32) (v_size : Int32) : fX1_has N x1 v_size = if x1 < 0 then
    (some (false))
    else (if v_size ≤ x1 then
    (some (false))
    else (some (true))) := rfl

set_option maxHeartbeats 4000000 in
set_option maxRecDepth 20000 in
theorem sf_X1_has {N : Nat} (hN : 700 ≤ N) {x1 : Int32} {v_size : Int32} (h_0 : 0 ≤ v_size.toInt) (h_1 : v_size.toInt ≤ 50) : wp (fX1_has N x1 v_size) (fun (r : Bool) => ((r = true ∧ 0 ≤ x1.toInt ∧ x1.toInt < v_size.toInt) ∨ (r = false ∧ True))) := by
  refine wp_of (uf_X1_has _ _ _) ?_
  have n_2 : (0 : Int32).toInt = 0 := by decide
  refine wp_if (fun c_1 => ?_) (fun c_1 => ?_)
  ·
    have dc_1 := i_lt c_1
    exact wp_so1 (by first | exact Or.inl ⟨rfl, by first | trivial | omega⟩ | exact Or.inr ⟨rfl, by first | trivial | omega⟩)
  ·
    have dc_1 := i_nlt c_1
    refine wp_if (fun c_3 => ?_) (fun c_3 => ?_)
    ·
      have dc_3 := i_le c_3
      exact wp_so1 (by first | exact Or.inl ⟨rfl, by first | trivial | omega⟩ | exact Or.inr ⟨rfl, by first | trivial | omega⟩)
    ·
      have dc_3 := i_nle c_3
      exact wp_so1 (by first | exact Or.inl ⟨rfl, by first | trivial | omega⟩ | exact Or.inr ⟨rfl, by first | trivial | omega⟩)

theorem uf_X1_isUnder_20 (N : Nat) (n : Nat) (x2 : Int32) (x3 : Int32) (x4 : Int32) (v_size : Int32) (v_kinds : List Int32) : fX1_isUnder_20 N (n + 1) x2 x3 x4 v_size v_kinds = 
    if (8 : Int32) ≤ x4 then
    (some (false))
    else (if x3 < 0 then
    (some (false))
    else (if x3 = x2 then
    (some (true))
    else (mm_ck (mm_inb x3 mm_ABOVE.length) (mm_nm ((mm_ig mm_ABOVE x3)) (fun (y_10 : Int32) =>
    mm_nm (x4 + (1 : Int32)) (fun (y_11 : Int32) =>
    fX1_isUnder_20 N n x2 y_10 y_11 v_size v_kinds)))))) := rfl

set_option maxHeartbeats 4000000 in
set_option maxRecDepth 20000 in
theorem sf_X1_isUnder_20 {N : Nat} (hN : 700 ≤ N) {x1 : Int32} : ∀ (n : Nat) (x2 : Int32) (x3 : Int32) (x4 : Int32) (v_size : Int32) (v_kinds : List Int32), 0 ≤ v_size.toInt → v_size.toInt ≤ 50 → v_kinds.length = 50 → zn v_kinds 0 v_size.toInt 0 8 → 0 ≤ x1.toInt → x1.toInt < v_size.toInt → -1 ≤ x3.toInt → x3.toInt < 8 → 0 ≤ x4.toInt → x4.toInt ≤ 8 → (8 - x4.toInt).toNat < n → wp (fX1_isUnder_20 N n x2 x3 x4 v_size v_kinds) (fun (r : Bool) => ((r = true ∧ 0 ≤ x1.toInt ∧ x1.toInt < v_size.toInt) ∨ (r = false ∧ True))) := by
  intro n
  induction n with
  | zero =>
    intro x2 x3 x4 v_size v_kinds h_0 h_1 h_2 h_3 h_4 h_5 h_6 h_7 h_8 h_9 hm
    exact absurd hm (by omega)
  | succ n ih =>
    intro x2 x3 x4 v_size v_kinds h_0 h_1 h_2 h_3 h_4 h_5 h_6 h_7 h_8 h_9 hm
    refine wp_of (uf_X1_isUnder_20 _ _ _ _ _ _ _) ?_
    have n_2 : (8 : Int32).toInt = 8 := by decide
    refine wp_if (fun c_1 => ?_) (fun c_1 => ?_)
    ·
      have dc_1 := i_le c_1
      exact wp_so1 (by first | exact Or.inl ⟨rfl, by first | trivial | omega⟩ | exact Or.inr ⟨rfl, by first | trivial | omega⟩)
    ·
      have dc_1 := i_nle c_1
      have n_4 : (0 : Int32).toInt = 0 := by decide
      refine wp_if (fun c_3 => ?_) (fun c_3 => ?_)
      ·
        have dc_3 := i_lt c_3
        exact wp_so1 (by first | exact Or.inl ⟨rfl, by first | trivial | omega⟩ | exact Or.inr ⟨rfl, by first | trivial | omega⟩)
      ·
        have dc_3 := i_nlt c_3
        refine wp_if (fun c_5 => ?_) (fun c_5 => ?_)
        ·
          have dc_5 := i_eq c_5
          exact wp_so1 (by first | exact Or.inl ⟨rfl, by first | trivial | omega⟩ | exact Or.inr ⟨rfl, by first | trivial | omega⟩)
        ·
          have dc_5 := i_ne c_5
          have nl_6 : mm_ABOVE.length = 8 := rfl
          refine wp_ck (i_inb (by omega) (by omega)) ?_
          obtain ⟨e_7, e1_7⟩ := zn_get zn_above (i := x3) (by omega) (by omega) (by omega) (by omega)
          refine wp_nm (fun y_10 h_y_10 => ?_)
          have t_y_10 : y_10.toInt = ((mm_ig mm_ABOVE x3)).toInt := by rw [h_y_10]
          have n_9 : (1 : Int32).toInt = 1 := by decide
          refine wp_nm (fun y_11 h_y_11 => ?_)
          have e_10 := i_addE h_y_11.symm (by omega) (by omega)
          exact ih _ _ _ _ _ h_0 h_1 h_2 h_3 h_4 h_5 (by omega) (by omega) (by omega) (by omega) (by omega)

theorem uf_X1_isUnder (N : Nat) (x1 : Int32) (x2 : Int32) (v_size : Int32) (v_kinds : List Int32) : fX1_isUnder N x1 x2 v_size v_kinds = mm_bd1 (fX1_has N x1 v_size) (fun (r_1 : Bool) =>
    if r_1 = false then
    (some (false))
    else (mm_ck (mm_inb x1 v_kinds.length) (mm_nm ((mm_ig v_kinds x1)) (fun (y_5 : Int32) =>
    fX1_isUnder_20 N N x2 y_5 (0 : Int32) v_size v_kinds)))) := rfl

set_option maxHeartbeats 4000000 in
set_option maxRecDepth 20000 in
theorem sf_X1_isUnder {N : Nat} (hN : 700 ≤ N) {x1 : Int32} {x2 : Int32} {v_size : Int32} {v_kinds : List Int32} (h_0 : 0 ≤ v_size.toInt) (h_1 : v_size.toInt ≤ 50) (h_2 : v_kinds.length = 50) (h_3 : zn v_kinds 0 v_size.toInt 0 8) : wp (fX1_isUnder N x1 x2 v_size v_kinds) (fun (r : Bool) => ((r = true ∧ 0 ≤ x1.toInt ∧ x1.toInt < v_size.toInt) ∨ (r = false ∧ True))) := by
  refine wp_of (uf_X1_isUnder _ _ _ _ _) ?_
  refine wp_bd1 (sf_X1_has hN h_0 h_1) (fun r_1 q_1 => ?_)
  rcases q_1 with ⟨rfl, q_1⟩ | ⟨rfl, q_1⟩
  ·
    refine wp_ifn (by decide) ?_
    refine wp_ck (i_inb (by omega) (by omega)) ?_
    obtain ⟨e_2, e1_2⟩ := zn_get h_3 (i := x1) (by omega) (by omega) (by omega) (by omega)
    refine wp_nm (fun y_5 h_y_5 => ?_)
    have t_y_5 : y_5.toInt = ((mm_ig v_kinds x1)).toInt := by rw [h_y_5]
    have n_4 : (0 : Int32).toInt = 0 := by decide
    exact sf_X1_isUnder_20 hN _ _ _ _ _ _ h_0 h_1 h_2 h_3 (by omega) (by omega) (by omega) (by omega) (by omega) (by omega) (by omega)
  ·
    refine wp_ifp (by decide) ?_
    exact wp_so1 (by first | exact Or.inl ⟨rfl, by first | trivial | omega⟩ | exact Or.inr ⟨rfl, by first | trivial | omega⟩)

theorem uf_X1_traced (N : Nat) (x1 : Int32) (v_ran : Int32) (v_trace : List Int32) : fX1_traced N x1 v_ran v_trace = if x1 < 0 then
    (some ((-1 : Int32)))
    else (if (24 : Int32) ≤ x1 then
    (some ((-1 : Int32)))
    else (if v_ran ≤ x1 then
    (some ((-1 : Int32)))
    else (mm_ck (mm_inb x1 v_trace.length) (some ((mm_ig v_trace x1)))))) := rfl

set_option maxHeartbeats 4000000 in
set_option maxRecDepth 20000 in
theorem sf_X1_traced {N : Nat} (hN : 700 ≤ N) {x1 : Int32} {v_ran : Int32} {v_trace : List Int32} (h_0 : v_trace.length = 24) : wp (fX1_traced N x1 v_ran v_trace) (fun (r : Int32) => True) := by
  refine wp_of (uf_X1_traced _ _ _ _) ?_
  have n_2 : (0 : Int32).toInt = 0 := by decide
  refine wp_if (fun c_1 => ?_) (fun c_1 => ?_)
  ·
    have dc_1 := i_lt c_1
    exact wp_so1 trivial
  ·
    have dc_1 := i_nlt c_1
    have n_4 : (24 : Int32).toInt = 24 := by decide
    refine wp_if (fun c_3 => ?_) (fun c_3 => ?_)
    ·
      have dc_3 := i_le c_3
      exact wp_so1 trivial
    ·
      have dc_3 := i_nle c_3
      refine wp_if (fun c_5 => ?_) (fun c_5 => ?_)
      ·
        have dc_5 := i_le c_5
        exact wp_so1 trivial
      ·
        have dc_5 := i_nle c_5
        refine wp_ck (i_inb (by omega) (by omega)) ?_
        exact wp_so1 trivial

theorem uf_X6_holdFolding (N : Nat) (x1 : Int32) (v_holds : Int32) (v_body : Int32) : fX6_holdFolding N x1 v_holds v_body = some ((1 : Int32), x1) := rfl

set_option maxHeartbeats 4000000 in
set_option maxRecDepth 20000 in
theorem sf_X6_holdFolding {N : Nat} (hN : 700 ≤ N) {x1 : Int32} {v_holds : Int32} {v_body : Int32}  : wp (fX6_holdFolding N x1 v_holds v_body) (cu2 (fun (wv_holds : Int32) (wv_body : Int32) => True)) := by
  refine wp_of (uf_X6_holdFolding _ _ _ _) ?_
  exact wp_so2 trivial

theorem uf_X6_holdRow (N : Nat) (x1 : Int32) (x2 : Int32) (v_holds : Int32) (v_sort : Int32) (v_size : Int32) (v_items : List Int64) : fX6_holdRow N x1 x2 v_holds v_sort v_size v_items = mm_bd1 (fJ7_fill_d0a16 N (0 : Int64) v_items) (fun (w_1 : List Int64) =>
    some ((2 : Int32), x1, x2, w_1)) := rfl

set_option maxHeartbeats 4000000 in
set_option maxRecDepth 20000 in
theorem sf_X6_holdRow {N : Nat} (hN : 700 ≤ N) {x1 : Int32} {x2 : Int32} {v_holds : Int32} {v_sort : Int32} {v_size : Int32} {v_items : List Int64} (h_0 : 0 ≤ v_size.toInt) (h_1 : v_size.toInt ≤ 60) (h_2 : v_items.length = 60) (h_3 : 0 ≤ x2.toInt) (h_4 : x2.toInt ≤ 60) : wp (fX6_holdRow N x1 x2 v_holds v_sort v_size v_items) (cu4 (fun (wv_holds : Int32) (wv_sort : Int32) (wv_size : Int32) (wv_items : List Int64) => 0 ≤ wv_size.toInt ∧ wv_size.toInt ≤ 60 ∧ wv_items.length = 60)) := by
  refine wp_of (uf_X6_holdRow _ _ _ _ _ _ _) ?_
  refine wp_bd1 (sf_J7_fill_d0a16 hN (by first | assumption | omega | decide) (by first | assumption | omega | decide)) (fun w_1 q_1 => ?_)
  have nl_w_1 : w_1.length = 60 := by omega
  exact wp_so4 ⟨h_3, h_4, nl_w_1⟩

theorem uf_X6_hasPart (N : Nat) (x1 : Int32) (x2 : Int32) (v_size : Int32) : fX6_hasPart N x1 x2 v_size = if x1 < 0 then
    (some (false))
    else (if v_size < x1 then
    (some (false))
    else (if (v_size - x1) < x2 then
    (some (false))
    else (some (true)))) := rfl

set_option maxHeartbeats 4000000 in
set_option maxRecDepth 20000 in
theorem sf_X6_hasPart {N : Nat} (hN : 700 ≤ N) {x1 : Int32} {x2 : Int32} {v_size : Int32} (h_0 : 0 ≤ v_size.toInt) (h_1 : v_size.toInt ≤ 60) : wp (fX6_hasPart N x1 x2 v_size) (fun (r : Bool) => ((r = true ∧ 0 ≤ x1.toInt ∧ x2.toInt ≤ v_size.toInt - x1.toInt ∧ x1.toInt ≤ v_size.toInt) ∨ (r = false ∧ True))) := by
  refine wp_of (uf_X6_hasPart _ _ _ _) ?_
  have n_2 : (0 : Int32).toInt = 0 := by decide
  refine wp_if (fun c_1 => ?_) (fun c_1 => ?_)
  ·
    have dc_1 := i_lt c_1
    exact wp_so1 (by first | exact Or.inl ⟨rfl, by first | trivial | omega⟩ | exact Or.inr ⟨rfl, by first | trivial | omega⟩)
  ·
    have dc_1 := i_nlt c_1
    refine wp_if (fun c_3 => ?_) (fun c_3 => ?_)
    ·
      have dc_3 := i_lt c_3
      exact wp_so1 (by first | exact Or.inl ⟨rfl, by first | trivial | omega⟩ | exact Or.inr ⟨rfl, by first | trivial | omega⟩)
    ·
      have dc_3 := i_nlt c_3
      generalize hz_z : (v_size - x1) = z
      first | have e_5 := i_subE hz_z (by omega) (by omega) | obtain ⟨k_5, e_5, e1_5, e2_5⟩ := i_subY hz_z
      refine wp_if (fun c_4 => ?_) (fun c_4 => ?_)
      ·
        have dc_4 := i_lt c_4
        exact wp_so1 (by first | exact Or.inl ⟨rfl, by first | trivial | omega⟩ | exact Or.inr ⟨rfl, by first | trivial | omega⟩)
      ·
        have dc_4 := i_nlt c_4
        exact wp_so1 (by first | exact Or.inl ⟨rfl, by first | trivial | omega⟩ | exact Or.inr ⟨rfl, by first | trivial | omega⟩)

theorem uf_X6_lowestBits (N : Nat) (x1 : Int64) (v_sort : Int32) : fX6_lowestBits N x1 v_sort = if v_sort = (0 : Int32) then
    (some ((((x1.toInt32).toInt8.toInt32).toInt64)))
    else (if v_sort = (1 : Int32) then
    (some ((((x1.toInt32).toInt16.toInt32).toInt64)))
    else (if v_sort = (2 : Int32) then
    (some (((x1.toInt32).toInt64)))
    else (if v_sort = (3 : Int32) then
    (some (x1))
    else (if (lg_cmp x1 (0 : Int64)) = 0 then
    (some ((0 : Int64)))
    else (some ((1 : Int64))))))) := rfl

set_option maxHeartbeats 4000000 in
set_option maxRecDepth 20000 in
theorem sf_X6_lowestBits {N : Nat} (hN : 700 ≤ N) {x1 : Int64} {v_sort : Int32}  : wp (fX6_lowestBits N x1 v_sort) (fun (r : Int64) => True) := by
  refine wp_of (uf_X6_lowestBits _ _ _) ?_
  have n_2 : (0 : Int32).toInt = 0 := by decide
  refine wp_if (fun c_1 => ?_) (fun c_1 => ?_)
  ·
    have dc_1 := i_eq c_1
    exact wp_so1 trivial
  ·
    have dc_1 := i_ne c_1
    have n_4 : (1 : Int32).toInt = 1 := by decide
    refine wp_if (fun c_3 => ?_) (fun c_3 => ?_)
    ·
      have dc_3 := i_eq c_3
      exact wp_so1 trivial
    ·
      have dc_3 := i_ne c_3
      have n_6 : (2 : Int32).toInt = 2 := by decide
      refine wp_if (fun c_5 => ?_) (fun c_5 => ?_)
      ·
        have dc_5 := i_eq c_5
        exact wp_so1 trivial
      ·
        have dc_5 := i_ne c_5
        have n_8 : (3 : Int32).toInt = 3 := by decide
        refine wp_if (fun c_7 => ?_) (fun c_7 => ?_)
        ·
          have dc_7 := i_eq c_7
          exact wp_so1 trivial
        ·
          have dc_7 := i_ne c_7
          refine wp_if (fun c_9 => ?_) (fun c_9 => ?_)
          ·
            exact wp_so1 trivial
          ·
            exact wp_so1 trivial

theorem uf_X6_store (N : Nat) (x1 : Int32) (x2 : Int64) (v_sort : Int32) (v_items : List Int64) : fX6_store N x1 x2 v_sort v_items = mm_bd1 (fX6_lowestBits N x2 v_sort) (fun (r_1 : Int64) =>
    mm_ck (mm_inb x1 v_items.length) (mm_nm (mm_ls v_items x1 r_1) (fun (l_4 : List Int64) =>
    some (l_4)))) := rfl

set_option maxHeartbeats 4000000 in
set_option maxRecDepth 20000 in
theorem sf_X6_store {N : Nat} (hN : 700 ≤ N) {x1 : Int32} {x2 : Int64} {v_sort : Int32} {v_items : List Int64} (h_0 : v_items.length = 60) (h_1 : 0 ≤ x1.toInt) (h_2 : x1.toInt < 60) : wp (fX6_store N x1 x2 v_sort v_items) (fun (wv_items : List Int64) => wv_items.length = 60) := by
  refine wp_of (uf_X6_store _ _ _ _ _) ?_
  refine wp_bd1 (sf_X6_lowestBits hN ) (fun r_1 _ => ?_)
  refine wp_ck (i_inb (by omega) (by omega)) ?_
  refine wp_nm (fun l_4 h_l_4 => ?_)
  have nl_l_4 : l_4.length = 60 := by rw [h_l_4, ls_len]; assumption
  exact wp_so1 nl_l_4
end
section
/-! safe -/
theorem uf_X2_write (N : Nat) (x1 : Int32) (v_size : Int32) (v_tape : List Int32) : fX2_write N x1 v_size v_tape = if v_size < (120 : Int32) then
    (mm_ck (mm_inb v_size v_tape.length) (mm_nm (mm_is v_tape v_size x1) (fun (l_3 : List Int32) =>
    mm_nm ((v_size + (1 : Int32))) (fun (y_4 : Int32) =>
    some (true, y_4, l_3)))))
    else (some (false, v_size, v_tape)) := rfl

set_option maxHeartbeats 4000000 in
set_option maxRecDepth 20000 in
theorem sf_X2_write {N : Nat} (hN : 700 ≤ N) {x1 : Int32} {v_size : Int32} {v_tape : List Int32} (h_0 : 0 ≤ v_size.toInt) (h_1 : v_size.toInt ≤ 120) (h_2 : v_tape.length = 120) : wp (fX2_write N x1 v_size v_tape) (cu3 (fun (r : Bool) (wv_size : Int32) (wv_tape : List Int32) => 0 ≤ wv_size.toInt ∧ wv_size.toInt ≤ 120 ∧ wv_tape.length = 120)) := by
  refine wp_of (uf_X2_write _ _ _ _) ?_
  have n_2 : (120 : Int32).toInt = 120 := by decide
  refine wp_if (fun c_1 => ?_) (fun c_1 => ?_)
  ·
    have dc_1 := i_lt c_1
    refine wp_ck (i_inb (by omega) (by omega)) ?_
    refine wp_nm (fun l_3 h_l_3 => ?_)
    have nl_l_3 : l_3.length = 120 := by rw [h_l_3, is_len]; assumption
    have n_3 : (1 : Int32).toInt = 1 := by decide
    refine wp_nm (fun y_4 h_y_4 => ?_)
    have e_4 := i_addE h_y_4.symm (by omega) (by omega)
    exact wp_so3 ⟨(by omega), (by omega), nl_l_3⟩
  ·
    have dc_1 := i_nlt c_1
    exact wp_so3 ⟨h_0, h_1, h_2⟩

theorem uf_X2_fail (N : Nat) (v_place : Int32) (v_fault : Int32) : fX2_fail N v_place v_fault = if 0 ≤ v_fault then
    (some (v_fault))
    else (some (v_place)) := rfl

set_option maxHeartbeats 4000000 in
set_option maxRecDepth 20000 in
theorem sf_X2_fail {N : Nat} (hN : 700 ≤ N) {v_place : Int32} {v_fault : Int32}  : wp (fX2_fail N v_place v_fault) (fun (wv_fault : Int32) => True) := by
  refine wp_of (uf_X2_fail _ _ _) ?_
  have n_2 : (0 : Int32).toInt = 0 := by decide
  refine wp_if (fun c_1 => ?_) (fun c_1 => ?_)
  ·
    have dc_1 := i_le c_1
    exact wp_so1 trivial
  ·
    have dc_1 := i_nle c_1
    exact wp_so1 trivial

theorem uf_X2_meets (N : Nat) (x1 : Int32) (v_size : Int32) (v_place : Int32) (v_fault : Int32) (v_tape : List Int32) : fX2_meets N x1 v_size v_place v_fault v_tape = if 0 ≤ v_fault then
    (some (false))
    else (mm_bd1 (fX2_next N v_size v_place v_tape) (fun (r_2 : Int32) =>
    if r_2 = x1 then
    (some (true))
    else (some (false)))) := rfl

theorem uf_X2_next (N : Nat) (v_size : Int32) (v_place : Int32) (v_tape : List Int32) : fX2_next N v_size v_place v_tape = if v_size ≤ v_place then
    (some ((-1 : Int32)))
    else (mm_ck (mm_inb v_place v_tape.length) (some ((mm_ig v_tape v_place)))) := rfl

set_option maxHeartbeats 4000000 in
set_option maxRecDepth 20000 in
theorem sf_X2_meets {N : Nat} (hN : 700 ≤ N) {x1 : Int32} {v_size : Int32} {v_place : Int32} {v_fault : Int32} {v_tape : List Int32} (h_0 : 0 ≤ v_size.toInt) (h_1 : v_size.toInt ≤ 120) (h_2 : v_tape.length = 120) (h_3 : 0 ≤ v_place.toInt) (h_4 : 0 ≤ x1.toInt) : wp (fX2_meets N x1 v_size v_place v_fault v_tape) (fun (r : Bool) => ((r = true ∧ v_place.toInt < v_size.toInt) ∨ (r = false ∧ True))) := by
  refine wp_of (uf_X2_meets _ _ _ _ _ _) ?_
  have n_2 : (0 : Int32).toInt = 0 := by decide
  refine wp_if (fun c_1 => ?_) (fun c_1 => ?_)
  ·
    have dc_1 := i_le c_1
    exact wp_so1 (by first | exact Or.inl ⟨rfl, by first | trivial | omega⟩ | exact Or.inr ⟨rfl, by first | trivial | omega⟩)
  ·
    have dc_1 := i_nle c_1
    refine wp_in1 ?_
    refine wp_of (uf_X2_next _ _ _ _) ?_
    refine wp_if (fun c_3 => ?_) (fun c_3 => ?_)
    ·
      have dc_3 := i_le c_3
      refine wp_so1 ?_
      show wp _ _
      have n_5 : (-1 : Int32).toInt = -1 := by decide
      refine wp_if (fun c_4 => ?_) (fun c_4 => ?_)
      ·
        have dc_4 := i_eq c_4
        exact wp_so1 (by first | exact Or.inl ⟨rfl, by first | trivial | omega⟩ | exact Or.inr ⟨rfl, by first | trivial | omega⟩)
      ·
        have dc_4 := i_ne c_4
        exact wp_so1 (by first | exact Or.inl ⟨rfl, by first | trivial | omega⟩ | exact Or.inr ⟨rfl, by first | trivial | omega⟩)
    ·
      have dc_3 := i_nle c_3
      refine wp_ck (i_inb (by omega) (by omega)) ?_
      refine wp_so1 ?_
      show wp _ _
      refine wp_if (fun c_6 => ?_) (fun c_6 => ?_)
      ·
        have dc_6 := i_eq c_6
        exact wp_so1 (by first | exact Or.inl ⟨rfl, by first | trivial | omega⟩ | exact Or.inr ⟨rfl, by first | trivial | omega⟩)
      ·
        have dc_6 := i_ne c_6
        exact wp_so1 (by first | exact Or.inl ⟨rfl, by first | trivial | omega⟩ | exact Or.inr ⟨rfl, by first | trivial | omega⟩)

theorem uf_X2_note (N : Nat) (x1 : Int32) (v_draftCount : Int32) (v_draft : List Int32) : fX2_note N x1 v_draftCount v_draft = if (121 : Int32) ≤ v_draftCount then
    (some (v_draftCount, v_draft))
    else (mm_ck (mm_inb v_draftCount v_draft.length) (mm_nm (mm_is v_draft v_draftCount x1) (fun (l_3 : List Int32) =>
    mm_nm ((v_draftCount + (1 : Int32))) (fun (y_4 : Int32) =>
    some (y_4, l_3))))) := rfl

set_option maxHeartbeats 4000000 in
set_option maxRecDepth 20000 in
theorem sf_X2_note {N : Nat} (hN : 700 ≤ N) {x1 : Int32} {v_draftCount : Int32} {v_draft : List Int32} (h_0 : 0 ≤ v_draftCount.toInt) (h_1 : v_draftCount.toInt ≤ 121) (h_2 : v_draft.length = 121) : wp (fX2_note N x1 v_draftCount v_draft) (cu2 (fun (wv_draftCount : Int32) (wv_draft : List Int32) => 0 ≤ wv_draftCount.toInt ∧ wv_draftCount.toInt ≤ 121 ∧ wv_draft.length = 121)) := by
  refine wp_of (uf_X2_note _ _ _ _) ?_
  have n_2 : (121 : Int32).toInt = 121 := by decide
  refine wp_if (fun c_1 => ?_) (fun c_1 => ?_)
  ·
    have dc_1 := i_le c_1
    exact wp_so2 ⟨h_0, h_1, h_2⟩
  ·
    have dc_1 := i_nle c_1
    refine wp_ck (i_inb (by omega) (by omega)) ?_
    refine wp_nm (fun l_3 h_l_3 => ?_)
    have nl_l_3 : l_3.length = 121 := by rw [h_l_3, is_len]; assumption
    have n_3 : (1 : Int32).toInt = 1 := by decide
    refine wp_nm (fun y_4 h_y_4 => ?_)
    have e_4 := i_addE h_y_4.symm (by omega) (by omega)
    exact wp_so2 ⟨(by omega), (by omega), nl_l_3⟩

theorem uf_X2_isDigit (N : Nat) (x0 : Int32) : fX2_isDigit N x0 = if x0 < (48 : Int32) then
    (some (false))
    else (if (57 : Int32) < x0 then
    (some (false))
    else (some (true))) := rfl

theorem uf_X2_readNumber_4 (N : Nat) (n : Nat) (x1 : Int32) (x2 : Int32) (v_size : Int32) (v_draftCount : Int32) (v_place : Int32) (v_tape : List Int32) (v_draft : List Int32) : fX2_readNumber_4 N (n + 1) x1 x2 v_size v_draftCount v_place v_tape v_draft = 
    if (4 : Int32) ≤ x2 then
    (fX2_readNumber_48 N x1 v_size v_draftCount v_place v_tape v_draft)
    else (mm_bd1 (fX2_next N v_size v_place v_tape) (fun (r_2 : Int32) =>
    mm_bd1 (fX2_isDigit N r_2) (fun (r_4 : Bool) =>
    if r_4 = false then
    (fX2_readNumber_48 N x1 v_size v_draftCount v_place v_tape v_draft)
    else (mm_bd1 (fX2_next N v_size v_place v_tape) (fun (r_7 : Int32) =>
    mm_nm ((((x1 * (10 : Int32)) + r_7) - (48 : Int32))) (fun (y_9 : Int32) =>
    mm_nm ((v_place + (1 : Int32))) (fun (y_10 : Int32) =>
    mm_nm (x2 + (1 : Int32)) (fun (y_11 : Int32) =>
    fX2_readNumber_4 N n y_9 y_11 v_size v_draftCount y_10 v_tape v_draft)))))))) := rfl

theorem uf_X2_readNumber_48 (N : Nat) (x1 : Int32) (v_size : Int32) (v_draftCount : Int32) (v_place : Int32) (v_tape : List Int32) (v_draft : List Int32) : fX2_readNumber_48 N x1 v_size v_draftCount v_place v_tape v_draft = mm_bd2 (fX2_note N ((1000 : Int32) + x1) v_draftCount v_draft) (fun (w_12 : Int32) (w_13 : List Int32) =>
    some (w_12, v_place, w_13)) := rfl

set_option maxHeartbeats 4000000 in
set_option maxRecDepth 20000 in
theorem sf_X2_readNumber_4 {N : Nat} (hN : 700 ≤ N)  : ∀ (n : Nat) (x1 : Int32) (x2 : Int32) (v_size : Int32) (v_draftCount : Int32) (v_place : Int32) (v_tape : List Int32) (v_draft : List Int32), 0 ≤ v_size.toInt → v_size.toInt ≤ 120 → 0 ≤ v_draftCount.toInt → v_draftCount.toInt ≤ 121 → v_tape.length = 120 → v_draft.length = 121 → 0 ≤ v_place.toInt → v_place.toInt ≤ v_size.toInt → 0 ≤ x2.toInt → x2.toInt ≤ 4 → (4 - x2.toInt).toNat < n → wp (fX2_readNumber_4 N n x1 x2 v_size v_draftCount v_place v_tape v_draft) (cu3 (fun (wv_draftCount : Int32) (wv_place : Int32) (wv_draft : List Int32) => 0 ≤ wv_draftCount.toInt ∧ wv_draftCount.toInt ≤ 121 ∧ wv_draft.length = 121 ∧ v_place.toInt ≤ wv_place.toInt ∧ wv_place.toInt ≤ v_size.toInt)) := by
  intro n
  induction n with
  | zero =>
    intro x1 x2 v_size v_draftCount v_place v_tape v_draft h_0 h_1 h_2 h_3 h_4 h_5 h_6 h_7 h_8 h_9 hm
    exact absurd hm (by omega)
  | succ n ih =>
    intro x1 x2 v_size v_draftCount v_place v_tape v_draft h_0 h_1 h_2 h_3 h_4 h_5 h_6 h_7 h_8 h_9 hm
    refine wp_of (uf_X2_readNumber_4 _ _ _ _ _ _ _ _ _) ?_
    have n_2 : (4 : Int32).toInt = 4 := by decide
    refine wp_if (fun c_1 => ?_) (fun c_1 => ?_)
    ·
      have dc_1 := i_le c_1
      refine wp_of (uf_X2_readNumber_48 _ _ _ _ _ _ _) ?_
      refine wp_bd2 (sf_X2_note hN h_2 h_3 h_5) (fun w_12 w_13 ⟨q_3, q_4, q_5⟩ => ?_)
      exact wp_so3 ⟨q_3, q_4, q_5, (by omega), h_7⟩
    ·
      have dc_1 := i_nle c_1
      refine wp_in1 ?_
      refine wp_of (uf_X2_next _ _ _ _) ?_
      refine wp_if (fun c_6 => ?_) (fun c_6 => ?_)
      ·
        have dc_6 := i_le c_6
        refine wp_so1 ?_
        show wp _ _
        refine wp_in1 ?_
        refine wp_of (uf_X2_isDigit _ _) ?_
        refine wp_ifp (by decide) ?_
        refine wp_so1 ?_
        show wp _ _
        refine wp_ifp (by decide) ?_
        refine wp_of (uf_X2_readNumber_48 _ _ _ _ _ _ _) ?_
        refine wp_bd2 (sf_X2_note hN h_2 h_3 h_5) (fun w_12__7 w_13__8 ⟨q_9, q_10, q_11⟩ => ?_)
        exact wp_so3 ⟨q_9, q_10, q_11, (by omega), h_7⟩
      ·
        have dc_6 := i_nle c_6
        refine wp_ck (i_inb (by omega) (by omega)) ?_
        refine wp_so1 ?_
        show wp _ _
        refine wp_in1 ?_
        refine wp_of (uf_X2_isDigit _ _) ?_
        have n_13 : (48 : Int32).toInt = 48 := by decide
        refine wp_if (fun c_12 => ?_) (fun c_12 => ?_)
        ·
          have dc_12 := i_lt c_12
          refine wp_so1 ?_
          show wp _ _
          refine wp_ifp (by decide) ?_
          refine wp_of (uf_X2_readNumber_48 _ _ _ _ _ _ _) ?_
          refine wp_bd2 (sf_X2_note hN h_2 h_3 h_5) (fun w_12__14 w_13__15 ⟨q_16, q_17, q_18⟩ => ?_)
          exact wp_so3 ⟨q_16, q_17, q_18, (by omega), h_7⟩
        ·
          have dc_12 := i_nlt c_12
          have n_20 : (57 : Int32).toInt = 57 := by decide
          refine wp_if (fun c_19 => ?_) (fun c_19 => ?_)
          ·
            have dc_19 := i_lt c_19
            refine wp_so1 ?_
            show wp _ _
            refine wp_ifp (by decide) ?_
            refine wp_of (uf_X2_readNumber_48 _ _ _ _ _ _ _) ?_
            refine wp_bd2 (sf_X2_note hN h_2 h_3 h_5) (fun w_12__21 w_13__22 ⟨q_23, q_24, q_25⟩ => ?_)
            exact wp_so3 ⟨q_23, q_24, q_25, (by omega), h_7⟩
          ·
            have dc_19 := i_nlt c_19
            refine wp_so1 ?_
            show wp _ _
            refine wp_ifn (by decide) ?_
            refine wp_in1 ?_
            refine wp_of (uf_X2_next _ _ _ _) ?_
            refine wp_ifn c_6 ?_
            refine wp_ck (i_inb (by omega) (by omega)) ?_
            refine wp_so1 ?_
            show wp _ _
            refine wp_nm (fun y_9 _ => ?_)
            have n_26 : (1 : Int32).toInt = 1 := by decide
            refine wp_nm (fun y_10 h_y_10 => ?_)
            have e_27 := i_addE h_y_10.symm (by omega) (by omega)
            refine wp_nm (fun y_11 h_y_11 => ?_)
            have e_28 := i_addE h_y_11.symm (by omega) (by omega)
            refine wp_cu3 (ih _ _ _ _ _ _ _ h_0 h_1 h_2 h_3 h_4 h_5 (by omega) (by omega) (by omega) (by omega) (by omega)) (fun z_wv_draftCount z_wv_place z_wv_draft ⟨q_29, q_30, q_31, q_32, q_33⟩ => ?_)
            exact ⟨(by omega), (by omega), (by assumption), (by omega), (by omega)⟩

theorem uf_X2_readNumber (N : Nat) (v_size : Int32) (v_draftCount : Int32) (v_place : Int32) (v_tape : List Int32) (v_draft : List Int32) : fX2_readNumber N v_size v_draftCount v_place v_tape v_draft = fX2_readNumber_4 N N (0 : Int32) (0 : Int32) v_size v_draftCount v_place v_tape v_draft := rfl

set_option maxHeartbeats 4000000 in
set_option maxRecDepth 20000 in
theorem sf_X2_readNumber {N : Nat} (hN : 700 ≤ N) {v_size : Int32} {v_draftCount : Int32} {v_place : Int32} {v_tape : List Int32} {v_draft : List Int32} (h_0 : 0 ≤ v_size.toInt) (h_1 : v_size.toInt ≤ 120) (h_2 : 0 ≤ v_draftCount.toInt) (h_3 : v_draftCount.toInt ≤ 121) (h_4 : v_tape.length = 120) (h_5 : v_draft.length = 121) (h_6 : 0 ≤ v_place.toInt) (h_7 : v_place.toInt ≤ v_size.toInt) : wp (fX2_readNumber N v_size v_draftCount v_place v_tape v_draft) (cu3 (fun (wv_draftCount : Int32) (wv_place : Int32) (wv_draft : List Int32) => 0 ≤ wv_draftCount.toInt ∧ wv_draftCount.toInt ≤ 121 ∧ wv_draft.length = 121 ∧ v_place.toInt ≤ wv_place.toInt ∧ wv_place.toInt ≤ v_size.toInt)) := by
  refine wp_of (uf_X2_readNumber _ _ _ _ _ _) ?_
  have n_1 : (0 : Int32).toInt = 0 := by decide
  refine wp_cu3 (sf_X2_readNumber_4 hN _ _ _ _ _ _ _ _ h_0 h_1 h_2 h_3 h_4 h_5 h_6 h_7 (by omega) (by omega) (by omega)) (fun z_wv_draftCount z_wv_place z_wv_draft ⟨q_2, q_3, q_4, q_5, q_6⟩ => ?_)
  exact ⟨(by omega), (by omega), (by assumption), (by omega), (by omega)⟩

theorem uf_X2_readProduct_40 (N : Nat) (go : Int32 → Int32 → Int32 → Int32 → Int32 → List Int32 → List Int32 → Option (Int32 × Int32 × Int32 × List Int32)) (k_7 : Int32 → Int32 → Int32 → Int32 → Int32 → Int32 → List Int32 → List Int32 → Option (Int32 × Int32 × Int32 × List Int32)) (x1 : Int32) (x2 : Int32) (v_size : Int32) (v_draftCount : Int32) (v_place : Int32) (v_fault : Int32) (v_tape : List Int32) (v_draft : List Int32) : fX2_readProduct_40 N go k_7 x1 x2 v_size v_draftCount v_place v_fault v_tape v_draft = mm_bd1 (fX2_next N v_size v_place v_tape) (fun (r_16 : Int32) =>
    mm_nm ((v_place + (1 : Int32))) (fun (y_18 : Int32) =>
    mm_bd4 (go x1 v_size v_draftCount y_18 v_fault v_tape v_draft) (fun (w_19 : Int32) (w_20 : Int32) (w_21 : Int32) (w_22 : List Int32) =>
    mm_bd2 (fX2_note N r_16 w_19 w_22) (fun (w_24 : Int32) (w_25 : List Int32) =>
    mm_nm (x2 + (1 : Int32)) (fun (y_27 : Int32) =>
    k_7 x1 y_27 v_size w_24 w_20 w_21 v_tape w_25))))) := rfl

theorem uf_X2_readProduct_7 (N : Nat) (go : Int32 → Int32 → Int32 → Int32 → Int32 → List Int32 → List Int32 → Option (Int32 × Int32 × Int32 × List Int32)) (n : Nat) (x1 : Int32) (x2 : Int32) (v_size : Int32) (v_draftCount : Int32) (v_place : Int32) (v_fault : Int32) (v_tape : List Int32) (v_draft : List Int32) : fX2_readProduct_7 N go (n + 1) x1 x2 v_size v_draftCount v_place v_fault v_tape v_draft = 
    if (120 : Int32) ≤ x2 then
    (some (v_draftCount, v_place, v_fault, v_draft))
    else (mm_bd1 (fX2_meets N (42 : Int32) v_size v_place v_fault v_tape) (fun (r_7 : Bool) =>
    if r_7 = false then
    (mm_bd1 (fX2_meets N (47 : Int32) v_size v_place v_fault v_tape) (fun (r_10 : Bool) =>
    if r_10 = false then
    (mm_bd1 (fX2_meets N (37 : Int32) v_size v_place v_fault v_tape) (fun (r_13 : Bool) =>
    if r_13 = false then
    (some (v_draftCount, v_place, v_fault, v_draft))
    else (fX2_readProduct_40 N go (fX2_readProduct_7 N go n) x1 x2 v_size v_draftCount v_place v_fault v_tape v_draft)))
    else (fX2_readProduct_40 N go (fX2_readProduct_7 N go n) x1 x2 v_size v_draftCount v_place v_fault v_tape v_draft)))
    else (fX2_readProduct_40 N go (fX2_readProduct_7 N go n) x1 x2 v_size v_draftCount v_place v_fault v_tape v_draft))) := rfl

set_option maxHeartbeats 4000000 in
set_option maxRecDepth 20000 in
theorem sf_X2_readProduct_7 {N : Nat} (hN : 700 ≤ N) {K : Int} {go : Int32 → Int32 → Int32 → Int32 → Int32 → List Int32 → List Int32 → Option (Int32 × Int32 × Int32 × List Int32)} (hgo : ∀ (x1 : Int32) (v_size : Int32) (v_draftCount : Int32) (v_place : Int32) (v_fault : Int32) (v_tape : List Int32) (v_draft : List Int32), 0 ≤ v_size.toInt → v_size.toInt ≤ 120 → 0 ≤ v_draftCount.toInt → v_draftCount.toInt ≤ 121 → v_tape.length = 120 → v_draft.length = 121 → 0 ≤ v_place.toInt → v_place.toInt ≤ v_size.toInt → 0 ≤ x1.toInt → x1.toInt ≤ 6 → K ≤ x1.toInt → wp (go x1 v_size v_draftCount v_place v_fault v_tape v_draft) (cu4 (fun (wv_draftCount : Int32) (wv_place : Int32) (wv_fault : Int32) (wv_draft : List Int32) => 0 ≤ wv_draftCount.toInt ∧ wv_draftCount.toInt ≤ 121 ∧ wv_draft.length = 121 ∧ v_place.toInt ≤ wv_place.toInt ∧ wv_place.toInt ≤ v_size.toInt))) : ∀ (n : Nat) (x1 : Int32) (x2 : Int32) (v_size : Int32) (v_draftCount : Int32) (v_place : Int32) (v_fault : Int32) (v_tape : List Int32) (v_draft : List Int32), 0 ≤ v_size.toInt → v_size.toInt ≤ 120 → 0 ≤ v_draftCount.toInt → v_draftCount.toInt ≤ 121 → v_tape.length = 120 → v_draft.length = 121 → 0 ≤ v_place.toInt → v_place.toInt ≤ v_size.toInt → 0 ≤ x1.toInt → x1.toInt ≤ 6 → K ≤ x1.toInt → 0 ≤ x2.toInt → x2.toInt ≤ 120 → (120 - x2.toInt).toNat < n → wp (fX2_readProduct_7 N go n x1 x2 v_size v_draftCount v_place v_fault v_tape v_draft) (cu4 (fun (wv_draftCount : Int32) (wv_place : Int32) (wv_fault : Int32) (wv_draft : List Int32) => 0 ≤ wv_draftCount.toInt ∧ wv_draftCount.toInt ≤ 121 ∧ wv_draft.length = 121 ∧ v_place.toInt ≤ wv_place.toInt ∧ wv_place.toInt ≤ v_size.toInt)) := by
  intro n
  induction n with
  | zero =>
    intro x1 x2 v_size v_draftCount v_place v_fault v_tape v_draft h_0 h_1 h_2 h_3 h_4 h_5 h_6 h_7 h_8 h_9 h_10 h_11 h_12 hm
    exact absurd hm (by omega)
  | succ n ih =>
    intro x1 x2 v_size v_draftCount v_place v_fault v_tape v_draft h_0 h_1 h_2 h_3 h_4 h_5 h_6 h_7 h_8 h_9 h_10 h_11 h_12 hm
    refine wp_of (uf_X2_readProduct_7 _ _ _ _ _ _ _ _ _ _ _) ?_
    have n_2 : (120 : Int32).toInt = 120 := by decide
    refine wp_if (fun c_1 => ?_) (fun c_1 => ?_)
    ·
      have dc_1 := i_le c_1
      exact wp_so4 ⟨h_2, h_3, h_5, (by omega), h_7⟩
    ·
      have dc_1 := i_nle c_1
      have n_3 : (42 : Int32).toInt = 42 := by decide
      refine wp_bd1 (sf_X2_meets hN h_0 h_1 h_4 h_6 (by omega)) (fun r_7 q_4 => ?_)
      rcases q_4 with ⟨rfl, q_4⟩ | ⟨rfl, q_4⟩
      ·
        refine wp_ifn (by decide) ?_
        refine wp_of (uf_X2_readProduct_40 _ _ _ _ _ _ _ _ _ _ _) ?_
        refine wp_in1 ?_
        refine wp_of (uf_X2_next _ _ _ _) ?_
        refine wp_if (fun c_5 => ?_) (fun c_5 => ?_)
        ·
          have dc_5 := i_le c_5
          refine wp_so1 ?_
          show wp _ _
          have n_6 : (1 : Int32).toInt = 1 := by decide
          refine wp_nm (fun y_18 h_y_18 => ?_)
          have e_7 := i_addE h_y_18.symm (by omega) (by omega)
          refine wp_bd4 (hgo _ _ _ _ _ _ _ h_0 h_1 h_2 h_3 h_4 h_5 (by omega) (by omega) h_8 h_9 h_10) (fun w_19 w_20 w_21 w_22 ⟨q_8, q_9, q_10, q_11, q_12⟩ => ?_)
          refine wp_bd2 (sf_X2_note hN q_8 q_9 q_10) (fun w_24 w_25 ⟨q_13, q_14, q_15⟩ => ?_)
          refine wp_nm (fun y_27 h_y_27 => ?_)
          have e_16 := i_addE h_y_27.symm (by omega) (by omega)
          refine wp_cu4 (ih _ _ _ _ _ _ _ _ h_0 h_1 q_13 q_14 h_4 q_15 (by omega) q_12 h_8 h_9 h_10 (by omega) (by omega) (by omega)) (fun z_wv_draftCount z_wv_place z_wv_fault z_wv_draft ⟨q_17, q_18, q_19, q_20, q_21⟩ => ?_)
          exact ⟨(by omega), (by omega), (by assumption), (by omega), (by omega)⟩
        ·
          have dc_5 := i_nle c_5
          refine wp_ck (i_inb (by omega) (by omega)) ?_
          refine wp_so1 ?_
          show wp _ _
          have n_23 : (1 : Int32).toInt = 1 := by decide
          refine wp_nm (fun y_18__22 h_y_18__22 => ?_)
          have e_24 := i_addE h_y_18__22.symm (by omega) (by omega)
          refine wp_bd4 (hgo _ _ _ _ _ _ _ h_0 h_1 h_2 h_3 h_4 h_5 (by omega) (by omega) h_8 h_9 h_10) (fun w_19__25 w_20__26 w_21__27 w_22__28 ⟨q_29, q_30, q_31, q_32, q_33⟩ => ?_)
          refine wp_bd2 (sf_X2_note hN q_29 q_30 q_31) (fun w_24__34 w_25__35 ⟨q_36, q_37, q_38⟩ => ?_)
          refine wp_nm (fun y_27__39 h_y_27__39 => ?_)
          have e_40 := i_addE h_y_27__39.symm (by omega) (by omega)
          refine wp_cu4 (ih _ _ _ _ _ _ _ _ h_0 h_1 q_36 q_37 h_4 q_38 (by omega) q_33 h_8 h_9 h_10 (by omega) (by omega) (by omega)) (fun z_wv_draftCount__41 z_wv_place__42 z_wv_fault__43 z_wv_draft__44 ⟨q_45, q_46, q_47, q_48, q_49⟩ => ?_)
          exact ⟨(by omega), (by omega), (by assumption), (by omega), (by omega)⟩
      ·
        refine wp_ifp (by decide) ?_
        have n_50 : (47 : Int32).toInt = 47 := by decide
        refine wp_bd1 (sf_X2_meets hN h_0 h_1 h_4 h_6 (by omega)) (fun r_10 q_51 => ?_)
        rcases q_51 with ⟨rfl, q_51⟩ | ⟨rfl, q_51⟩
        ·
          refine wp_ifn (by decide) ?_
          refine wp_of (uf_X2_readProduct_40 _ _ _ _ _ _ _ _ _ _ _) ?_
          refine wp_in1 ?_
          refine wp_of (uf_X2_next _ _ _ _) ?_
          refine wp_if (fun c_52 => ?_) (fun c_52 => ?_)
          ·
            have dc_52 := i_le c_52
            refine wp_so1 ?_
            show wp _ _
            have n_54 : (1 : Int32).toInt = 1 := by decide
            refine wp_nm (fun y_18__53 h_y_18__53 => ?_)
            have e_55 := i_addE h_y_18__53.symm (by omega) (by omega)
            refine wp_bd4 (hgo _ _ _ _ _ _ _ h_0 h_1 h_2 h_3 h_4 h_5 (by omega) (by omega) h_8 h_9 h_10) (fun w_19__56 w_20__57 w_21__58 w_22__59 ⟨q_60, q_61, q_62, q_63, q_64⟩ => ?_)
            refine wp_bd2 (sf_X2_note hN q_60 q_61 q_62) (fun w_24__65 w_25__66 ⟨q_67, q_68, q_69⟩ => ?_)
            refine wp_nm (fun y_27__70 h_y_27__70 => ?_)
            have e_71 := i_addE h_y_27__70.symm (by omega) (by omega)
            refine wp_cu4 (ih _ _ _ _ _ _ _ _ h_0 h_1 q_67 q_68 h_4 q_69 (by omega) q_64 h_8 h_9 h_10 (by omega) (by omega) (by omega)) (fun z_wv_draftCount__72 z_wv_place__73 z_wv_fault__74 z_wv_draft__75 ⟨q_76, q_77, q_78, q_79, q_80⟩ => ?_)
            exact ⟨(by omega), (by omega), (by assumption), (by omega), (by omega)⟩
          ·
            have dc_52 := i_nle c_52
            refine wp_ck (i_inb (by omega) (by omega)) ?_
            refine wp_so1 ?_
            show wp _ _
            have n_82 : (1 : Int32).toInt = 1 := by decide
            refine wp_nm (fun y_18__81 h_y_18__81 => ?_)
            have e_83 := i_addE h_y_18__81.symm (by omega) (by omega)
            refine wp_bd4 (hgo _ _ _ _ _ _ _ h_0 h_1 h_2 h_3 h_4 h_5 (by omega) (by omega) h_8 h_9 h_10) (fun w_19__84 w_20__85 w_21__86 w_22__87 ⟨q_88, q_89, q_90, q_91, q_92⟩ => ?_)
            refine wp_bd2 (sf_X2_note hN q_88 q_89 q_90) (fun w_24__93 w_25__94 ⟨q_95, q_96, q_97⟩ => ?_)
            refine wp_nm (fun y_27__98 h_y_27__98 => ?_)
            have e_99 := i_addE h_y_27__98.symm (by omega) (by omega)
            refine wp_cu4 (ih _ _ _ _ _ _ _ _ h_0 h_1 q_95 q_96 h_4 q_97 (by omega) q_92 h_8 h_9 h_10 (by omega) (by omega) (by omega)) (fun z_wv_draftCount__100 z_wv_place__101 z_wv_fault__102 z_wv_draft__103 ⟨q_104, q_105, q_106, q_107, q_108⟩ => ?_)
            exact ⟨(by omega), (by omega), (by assumption), (by omega), (by omega)⟩
        ·
          refine wp_ifp (by decide) ?_
          have n_109 : (37 : Int32).toInt = 37 := by decide
          refine wp_bd1 (sf_X2_meets hN h_0 h_1 h_4 h_6 (by omega)) (fun r_13 q_110 => ?_)
          rcases q_110 with ⟨rfl, q_110⟩ | ⟨rfl, q_110⟩
          ·
            refine wp_ifn (by decide) ?_
            refine wp_of (uf_X2_readProduct_40 _ _ _ _ _ _ _ _ _ _ _) ?_
            refine wp_in1 ?_
            refine wp_of (uf_X2_next _ _ _ _) ?_
            refine wp_if (fun c_111 => ?_) (fun c_111 => ?_)
            ·
              have dc_111 := i_le c_111
              refine wp_so1 ?_
              show wp _ _
              have n_113 : (1 : Int32).toInt = 1 := by decide
              refine wp_nm (fun y_18__112 h_y_18__112 => ?_)
              have e_114 := i_addE h_y_18__112.symm (by omega) (by omega)
              refine wp_bd4 (hgo _ _ _ _ _ _ _ h_0 h_1 h_2 h_3 h_4 h_5 (by omega) (by omega) h_8 h_9 h_10) (fun w_19__115 w_20__116 w_21__117 w_22__118 ⟨q_119, q_120, q_121, q_122, q_123⟩ => ?_)
              refine wp_bd2 (sf_X2_note hN q_119 q_120 q_121) (fun w_24__124 w_25__125 ⟨q_126, q_127, q_128⟩ => ?_)
              refine wp_nm (fun y_27__129 h_y_27__129 => ?_)
              have e_130 := i_addE h_y_27__129.symm (by omega) (by omega)
              refine wp_cu4 (ih _ _ _ _ _ _ _ _ h_0 h_1 q_126 q_127 h_4 q_128 (by omega) q_123 h_8 h_9 h_10 (by omega) (by omega) (by omega)) (fun z_wv_draftCount__131 z_wv_place__132 z_wv_fault__133 z_wv_draft__134 ⟨q_135, q_136, q_137, q_138, q_139⟩ => ?_)
              exact ⟨(by omega), (by omega), (by assumption), (by omega), (by omega)⟩
            ·
              have dc_111 := i_nle c_111
              refine wp_ck (i_inb (by omega) (by omega)) ?_
              refine wp_so1 ?_
              show wp _ _
              have n_141 : (1 : Int32).toInt = 1 := by decide
              refine wp_nm (fun y_18__140 h_y_18__140 => ?_)
              have e_142 := i_addE h_y_18__140.symm (by omega) (by omega)
              refine wp_bd4 (hgo _ _ _ _ _ _ _ h_0 h_1 h_2 h_3 h_4 h_5 (by omega) (by omega) h_8 h_9 h_10) (fun w_19__143 w_20__144 w_21__145 w_22__146 ⟨q_147, q_148, q_149, q_150, q_151⟩ => ?_)
              refine wp_bd2 (sf_X2_note hN q_147 q_148 q_149) (fun w_24__152 w_25__153 ⟨q_154, q_155, q_156⟩ => ?_)
              refine wp_nm (fun y_27__157 h_y_27__157 => ?_)
              have e_158 := i_addE h_y_27__157.symm (by omega) (by omega)
              refine wp_cu4 (ih _ _ _ _ _ _ _ _ h_0 h_1 q_154 q_155 h_4 q_156 (by omega) q_151 h_8 h_9 h_10 (by omega) (by omega) (by omega)) (fun z_wv_draftCount__159 z_wv_place__160 z_wv_fault__161 z_wv_draft__162 ⟨q_163, q_164, q_165, q_166, q_167⟩ => ?_)
              exact ⟨(by omega), (by omega), (by assumption), (by omega), (by omega)⟩
          ·
            refine wp_ifp (by decide) ?_
            exact wp_so4 ⟨h_2, h_3, h_5, (by omega), h_7⟩

theorem uf_X2_readProduct (N : Nat) (go : Int32 → Int32 → Int32 → Int32 → Int32 → List Int32 → List Int32 → Option (Int32 × Int32 × Int32 × List Int32)) (x1 : Int32) (v_size : Int32) (v_draftCount : Int32) (v_place : Int32) (v_fault : Int32) (v_tape : List Int32) (v_draft : List Int32) : fX2_readProduct N go x1 v_size v_draftCount v_place v_fault v_tape v_draft = mm_bd4 (go x1 v_size v_draftCount v_place v_fault v_tape v_draft) (fun (w_1 : Int32) (w_2 : Int32) (w_3 : Int32) (w_4 : List Int32) =>
    fX2_readProduct_7 N go N x1 (0 : Int32) v_size w_1 w_2 w_3 v_tape w_4) := rfl

set_option maxHeartbeats 4000000 in
set_option maxRecDepth 20000 in
theorem sf_X2_readProduct {N : Nat} (hN : 700 ≤ N) {K : Int} {go : Int32 → Int32 → Int32 → Int32 → Int32 → List Int32 → List Int32 → Option (Int32 × Int32 × Int32 × List Int32)} {x1 : Int32} {v_size : Int32} {v_draftCount : Int32} {v_place : Int32} {v_fault : Int32} {v_tape : List Int32} {v_draft : List Int32} (h_0 : 0 ≤ v_size.toInt) (h_1 : v_size.toInt ≤ 120) (h_2 : 0 ≤ v_draftCount.toInt) (h_3 : v_draftCount.toInt ≤ 121) (h_4 : v_tape.length = 120) (h_5 : v_draft.length = 121) (h_6 : 0 ≤ v_place.toInt) (h_7 : v_place.toInt ≤ v_size.toInt) (h_8 : 0 ≤ x1.toInt) (h_9 : x1.toInt ≤ 6) (h_10 : K ≤ x1.toInt) (hgo : ∀ (x1 : Int32) (v_size : Int32) (v_draftCount : Int32) (v_place : Int32) (v_fault : Int32) (v_tape : List Int32) (v_draft : List Int32), 0 ≤ v_size.toInt → v_size.toInt ≤ 120 → 0 ≤ v_draftCount.toInt → v_draftCount.toInt ≤ 121 → v_tape.length = 120 → v_draft.length = 121 → 0 ≤ v_place.toInt → v_place.toInt ≤ v_size.toInt → 0 ≤ x1.toInt → x1.toInt ≤ 6 → K ≤ x1.toInt → wp (go x1 v_size v_draftCount v_place v_fault v_tape v_draft) (cu4 (fun (wv_draftCount : Int32) (wv_place : Int32) (wv_fault : Int32) (wv_draft : List Int32) => 0 ≤ wv_draftCount.toInt ∧ wv_draftCount.toInt ≤ 121 ∧ wv_draft.length = 121 ∧ v_place.toInt ≤ wv_place.toInt ∧ wv_place.toInt ≤ v_size.toInt))) : wp (fX2_readProduct N go x1 v_size v_draftCount v_place v_fault v_tape v_draft) (cu4 (fun (wv_draftCount : Int32) (wv_place : Int32) (wv_fault : Int32) (wv_draft : List Int32) => 0 ≤ wv_draftCount.toInt ∧ wv_draftCount.toInt ≤ 121 ∧ wv_draft.length = 121 ∧ v_place.toInt ≤ wv_place.toInt ∧ wv_place.toInt ≤ v_size.toInt)) := by
  refine wp_of (uf_X2_readProduct _ _ _ _ _ _ _ _ _) ?_
  refine wp_bd4 (hgo _ _ _ _ _ _ _ h_0 h_1 h_2 h_3 h_4 h_5 h_6 h_7 h_8 h_9 h_10) (fun w_1 w_2 w_3 w_4 ⟨q_1, q_2, q_3, q_4, q_5⟩ => ?_)
  have n_6 : (0 : Int32).toInt = 0 := by decide
  refine wp_cu4 (sf_X2_readProduct_7 hN hgo _ _ _ _ _ _ _ _ _ h_0 h_1 q_1 q_2 h_4 q_3 (by omega) q_5 h_8 h_9 h_10 (by omega) (by omega) (by omega)) (fun z_wv_draftCount z_wv_place z_wv_fault z_wv_draft ⟨q_7, q_8, q_9, q_10, q_11⟩ => ?_)
  exact ⟨(by omega), (by omega), (by assumption), (by omega), (by omega)⟩

theorem uf_X2_readSum_31 (N : Nat) (go : Int32 → Int32 → Int32 → Int32 → Int32 → List Int32 → List Int32 → Option (Int32 × Int32 × Int32 × List Int32)) (k_7 : Int32 → Int32 → Int32 → Int32 → Int32 → Int32 → List Int32 → List Int32 → Option (Int32 × Int32 × Int32 × List Int32)) (x1 : Int32) (x2 : Int32) (v_size : Int32) (v_draftCount : Int32) (v_place : Int32) (v_fault : Int32) (v_tape : List Int32) (v_draft : List Int32) : fX2_readSum_31 N go k_7 x1 x2 v_size v_draftCount v_place v_fault v_tape v_draft = mm_bd1 (fX2_next N v_size v_place v_tape) (fun (r_13 : Int32) =>
    mm_nm ((v_place + (1 : Int32))) (fun (y_15 : Int32) =>
    mm_bd4 (fX2_readProduct N go x1 v_size v_draftCount y_15 v_fault v_tape v_draft) (fun (w_16 : Int32) (w_17 : Int32) (w_18 : Int32) (w_19 : List Int32) =>
    mm_bd2 (fX2_note N r_13 w_16 w_19) (fun (w_21 : Int32) (w_22 : List Int32) =>
    mm_nm (x2 + (1 : Int32)) (fun (y_24 : Int32) =>
    k_7 x1 y_24 v_size w_21 w_17 w_18 v_tape w_22))))) := rfl

theorem uf_X2_readSum_7 (N : Nat) (go : Int32 → Int32 → Int32 → Int32 → Int32 → List Int32 → List Int32 → Option (Int32 × Int32 × Int32 × List Int32)) (n : Nat) (x1 : Int32) (x2 : Int32) (v_size : Int32) (v_draftCount : Int32) (v_place : Int32) (v_fault : Int32) (v_tape : List Int32) (v_draft : List Int32) : fX2_readSum_7 N go (n + 1) x1 x2 v_size v_draftCount v_place v_fault v_tape v_draft = 
    if (120 : Int32) ≤ x2 then
    (some (v_draftCount, v_place, v_fault, v_draft))
    else (mm_bd1 (fX2_meets N (43 : Int32) v_size v_place v_fault v_tape) (fun (r_7 : Bool) =>
    if r_7 = false then
    (mm_bd1 (fX2_meets N (45 : Int32) v_size v_place v_fault v_tape) (fun (r_10 : Bool) =>
    if r_10 = false then
    (some (v_draftCount, v_place, v_fault, v_draft))
    else (fX2_readSum_31 N go (fX2_readSum_7 N go n) x1 x2 v_size v_draftCount v_place v_fault v_tape v_draft)))
    else (fX2_readSum_31 N go (fX2_readSum_7 N go n) x1 x2 v_size v_draftCount v_place v_fault v_tape v_draft))) := rfl

set_option maxHeartbeats 4000000 in
set_option maxRecDepth 20000 in
theorem sf_X2_readSum_7 {N : Nat} (hN : 700 ≤ N) {K : Int} {go : Int32 → Int32 → Int32 → Int32 → Int32 → List Int32 → List Int32 → Option (Int32 × Int32 × Int32 × List Int32)} (hgo : ∀ (x1 : Int32) (v_size : Int32) (v_draftCount : Int32) (v_place : Int32) (v_fault : Int32) (v_tape : List Int32) (v_draft : List Int32), 0 ≤ v_size.toInt → v_size.toInt ≤ 120 → 0 ≤ v_draftCount.toInt → v_draftCount.toInt ≤ 121 → v_tape.length = 120 → v_draft.length = 121 → 0 ≤ v_place.toInt → v_place.toInt ≤ v_size.toInt → 0 ≤ x1.toInt → x1.toInt ≤ 6 → K ≤ x1.toInt → wp (go x1 v_size v_draftCount v_place v_fault v_tape v_draft) (cu4 (fun (wv_draftCount : Int32) (wv_place : Int32) (wv_fault : Int32) (wv_draft : List Int32) => 0 ≤ wv_draftCount.toInt ∧ wv_draftCount.toInt ≤ 121 ∧ wv_draft.length = 121 ∧ v_place.toInt ≤ wv_place.toInt ∧ wv_place.toInt ≤ v_size.toInt))) : ∀ (n : Nat) (x1 : Int32) (x2 : Int32) (v_size : Int32) (v_draftCount : Int32) (v_place : Int32) (v_fault : Int32) (v_tape : List Int32) (v_draft : List Int32), 0 ≤ v_size.toInt → v_size.toInt ≤ 120 → 0 ≤ v_draftCount.toInt → v_draftCount.toInt ≤ 121 → v_tape.length = 120 → v_draft.length = 121 → 0 ≤ v_place.toInt → v_place.toInt ≤ v_size.toInt → 0 ≤ x1.toInt → x1.toInt ≤ 6 → K ≤ x1.toInt → 0 ≤ x2.toInt → x2.toInt ≤ 120 → (120 - x2.toInt).toNat < n → wp (fX2_readSum_7 N go n x1 x2 v_size v_draftCount v_place v_fault v_tape v_draft) (cu4 (fun (wv_draftCount : Int32) (wv_place : Int32) (wv_fault : Int32) (wv_draft : List Int32) => 0 ≤ wv_draftCount.toInt ∧ wv_draftCount.toInt ≤ 121 ∧ wv_draft.length = 121 ∧ v_place.toInt ≤ wv_place.toInt ∧ wv_place.toInt ≤ v_size.toInt)) := by
  intro n
  induction n with
  | zero =>
    intro x1 x2 v_size v_draftCount v_place v_fault v_tape v_draft h_0 h_1 h_2 h_3 h_4 h_5 h_6 h_7 h_8 h_9 h_10 h_11 h_12 hm
    exact absurd hm (by omega)
  | succ n ih =>
    intro x1 x2 v_size v_draftCount v_place v_fault v_tape v_draft h_0 h_1 h_2 h_3 h_4 h_5 h_6 h_7 h_8 h_9 h_10 h_11 h_12 hm
    refine wp_of (uf_X2_readSum_7 _ _ _ _ _ _ _ _ _ _ _) ?_
    have n_2 : (120 : Int32).toInt = 120 := by decide
    refine wp_if (fun c_1 => ?_) (fun c_1 => ?_)
    ·
      have dc_1 := i_le c_1
      exact wp_so4 ⟨h_2, h_3, h_5, (by omega), h_7⟩
    ·
      have dc_1 := i_nle c_1
      have n_3 : (43 : Int32).toInt = 43 := by decide
      refine wp_bd1 (sf_X2_meets hN h_0 h_1 h_4 h_6 (by omega)) (fun r_7 q_4 => ?_)
      rcases q_4 with ⟨rfl, q_4⟩ | ⟨rfl, q_4⟩
      ·
        refine wp_ifn (by decide) ?_
        refine wp_of (uf_X2_readSum_31 _ _ _ _ _ _ _ _ _ _ _) ?_
        refine wp_in1 ?_
        refine wp_of (uf_X2_next _ _ _ _) ?_
        refine wp_if (fun c_5 => ?_) (fun c_5 => ?_)
        ·
          have dc_5 := i_le c_5
          refine wp_so1 ?_
          show wp _ _
          have n_6 : (1 : Int32).toInt = 1 := by decide
          refine wp_nm (fun y_15 h_y_15 => ?_)
          have e_7 := i_addE h_y_15.symm (by omega) (by omega)
          refine wp_bd4 (sf_X2_readProduct hN h_0 h_1 h_2 h_3 h_4 h_5 (by omega) (by omega) h_8 h_9 h_10 hgo) (fun w_16 w_17 w_18 w_19 ⟨q_8, q_9, q_10, q_11, q_12⟩ => ?_)
          refine wp_bd2 (sf_X2_note hN q_8 q_9 q_10) (fun w_21 w_22 ⟨q_13, q_14, q_15⟩ => ?_)
          refine wp_nm (fun y_24 h_y_24 => ?_)
          have e_16 := i_addE h_y_24.symm (by omega) (by omega)
          refine wp_cu4 (ih _ _ _ _ _ _ _ _ h_0 h_1 q_13 q_14 h_4 q_15 (by omega) q_12 h_8 h_9 h_10 (by omega) (by omega) (by omega)) (fun z_wv_draftCount z_wv_place z_wv_fault z_wv_draft ⟨q_17, q_18, q_19, q_20, q_21⟩ => ?_)
          exact ⟨(by omega), (by omega), (by assumption), (by omega), (by omega)⟩
        ·
          have dc_5 := i_nle c_5
          refine wp_ck (i_inb (by omega) (by omega)) ?_
          refine wp_so1 ?_
          show wp _ _
          have n_23 : (1 : Int32).toInt = 1 := by decide
          refine wp_nm (fun y_15__22 h_y_15__22 => ?_)
          have e_24 := i_addE h_y_15__22.symm (by omega) (by omega)
          refine wp_bd4 (sf_X2_readProduct hN h_0 h_1 h_2 h_3 h_4 h_5 (by omega) (by omega) h_8 h_9 h_10 hgo) (fun w_16__25 w_17__26 w_18__27 w_19__28 ⟨q_29, q_30, q_31, q_32, q_33⟩ => ?_)
          refine wp_bd2 (sf_X2_note hN q_29 q_30 q_31) (fun w_21__34 w_22__35 ⟨q_36, q_37, q_38⟩ => ?_)
          refine wp_nm (fun y_24__39 h_y_24__39 => ?_)
          have e_40 := i_addE h_y_24__39.symm (by omega) (by omega)
          refine wp_cu4 (ih _ _ _ _ _ _ _ _ h_0 h_1 q_36 q_37 h_4 q_38 (by omega) q_33 h_8 h_9 h_10 (by omega) (by omega) (by omega)) (fun z_wv_draftCount__41 z_wv_place__42 z_wv_fault__43 z_wv_draft__44 ⟨q_45, q_46, q_47, q_48, q_49⟩ => ?_)
          exact ⟨(by omega), (by omega), (by assumption), (by omega), (by omega)⟩
      ·
        refine wp_ifp (by decide) ?_
        have n_50 : (45 : Int32).toInt = 45 := by decide
        refine wp_bd1 (sf_X2_meets hN h_0 h_1 h_4 h_6 (by omega)) (fun r_10 q_51 => ?_)
        rcases q_51 with ⟨rfl, q_51⟩ | ⟨rfl, q_51⟩
        ·
          refine wp_ifn (by decide) ?_
          refine wp_of (uf_X2_readSum_31 _ _ _ _ _ _ _ _ _ _ _) ?_
          refine wp_in1 ?_
          refine wp_of (uf_X2_next _ _ _ _) ?_
          refine wp_if (fun c_52 => ?_) (fun c_52 => ?_)
          ·
            have dc_52 := i_le c_52
            refine wp_so1 ?_
            show wp _ _
            have n_54 : (1 : Int32).toInt = 1 := by decide
            refine wp_nm (fun y_15__53 h_y_15__53 => ?_)
            have e_55 := i_addE h_y_15__53.symm (by omega) (by omega)
            refine wp_bd4 (sf_X2_readProduct hN h_0 h_1 h_2 h_3 h_4 h_5 (by omega) (by omega) h_8 h_9 h_10 hgo) (fun w_16__56 w_17__57 w_18__58 w_19__59 ⟨q_60, q_61, q_62, q_63, q_64⟩ => ?_)
            refine wp_bd2 (sf_X2_note hN q_60 q_61 q_62) (fun w_21__65 w_22__66 ⟨q_67, q_68, q_69⟩ => ?_)
            refine wp_nm (fun y_24__70 h_y_24__70 => ?_)
            have e_71 := i_addE h_y_24__70.symm (by omega) (by omega)
            refine wp_cu4 (ih _ _ _ _ _ _ _ _ h_0 h_1 q_67 q_68 h_4 q_69 (by omega) q_64 h_8 h_9 h_10 (by omega) (by omega) (by omega)) (fun z_wv_draftCount__72 z_wv_place__73 z_wv_fault__74 z_wv_draft__75 ⟨q_76, q_77, q_78, q_79, q_80⟩ => ?_)
            exact ⟨(by omega), (by omega), (by assumption), (by omega), (by omega)⟩
          ·
            have dc_52 := i_nle c_52
            refine wp_ck (i_inb (by omega) (by omega)) ?_
            refine wp_so1 ?_
            show wp _ _
            have n_82 : (1 : Int32).toInt = 1 := by decide
            refine wp_nm (fun y_15__81 h_y_15__81 => ?_)
            have e_83 := i_addE h_y_15__81.symm (by omega) (by omega)
            refine wp_bd4 (sf_X2_readProduct hN h_0 h_1 h_2 h_3 h_4 h_5 (by omega) (by omega) h_8 h_9 h_10 hgo) (fun w_16__84 w_17__85 w_18__86 w_19__87 ⟨q_88, q_89, q_90, q_91, q_92⟩ => ?_)
            refine wp_bd2 (sf_X2_note hN q_88 q_89 q_90) (fun w_21__93 w_22__94 ⟨q_95, q_96, q_97⟩ => ?_)
            refine wp_nm (fun y_24__98 h_y_24__98 => ?_)
            have e_99 := i_addE h_y_24__98.symm (by omega) (by omega)
            refine wp_cu4 (ih _ _ _ _ _ _ _ _ h_0 h_1 q_95 q_96 h_4 q_97 (by omega) q_92 h_8 h_9 h_10 (by omega) (by omega) (by omega)) (fun z_wv_draftCount__100 z_wv_place__101 z_wv_fault__102 z_wv_draft__103 ⟨q_104, q_105, q_106, q_107, q_108⟩ => ?_)
            exact ⟨(by omega), (by omega), (by assumption), (by omega), (by omega)⟩
        ·
          refine wp_ifp (by decide) ?_
          exact wp_so4 ⟨h_2, h_3, h_5, (by omega), h_7⟩

theorem uf_X2_readSum (N : Nat) (go : Int32 → Int32 → Int32 → Int32 → Int32 → List Int32 → List Int32 → Option (Int32 × Int32 × Int32 × List Int32)) (x1 : Int32) (v_size : Int32) (v_draftCount : Int32) (v_place : Int32) (v_fault : Int32) (v_tape : List Int32) (v_draft : List Int32) : fX2_readSum N go x1 v_size v_draftCount v_place v_fault v_tape v_draft = mm_bd4 (fX2_readProduct N go x1 v_size v_draftCount v_place v_fault v_tape v_draft) (fun (w_1 : Int32) (w_2 : Int32) (w_3 : Int32) (w_4 : List Int32) =>
    fX2_readSum_7 N go N x1 (0 : Int32) v_size w_1 w_2 w_3 v_tape w_4) := rfl

set_option maxHeartbeats 4000000 in
set_option maxRecDepth 20000 in
theorem sf_X2_readSum {N : Nat} (hN : 700 ≤ N) {K : Int} {go : Int32 → Int32 → Int32 → Int32 → Int32 → List Int32 → List Int32 → Option (Int32 × Int32 × Int32 × List Int32)} {x1 : Int32} {v_size : Int32} {v_draftCount : Int32} {v_place : Int32} {v_fault : Int32} {v_tape : List Int32} {v_draft : List Int32} (h_0 : 0 ≤ v_size.toInt) (h_1 : v_size.toInt ≤ 120) (h_2 : 0 ≤ v_draftCount.toInt) (h_3 : v_draftCount.toInt ≤ 121) (h_4 : v_tape.length = 120) (h_5 : v_draft.length = 121) (h_6 : 0 ≤ v_place.toInt) (h_7 : v_place.toInt ≤ v_size.toInt) (h_8 : 0 ≤ x1.toInt) (h_9 : x1.toInt ≤ 6) (h_10 : K ≤ x1.toInt) (hgo : ∀ (x1 : Int32) (v_size : Int32) (v_draftCount : Int32) (v_place : Int32) (v_fault : Int32) (v_tape : List Int32) (v_draft : List Int32), 0 ≤ v_size.toInt → v_size.toInt ≤ 120 → 0 ≤ v_draftCount.toInt → v_draftCount.toInt ≤ 121 → v_tape.length = 120 → v_draft.length = 121 → 0 ≤ v_place.toInt → v_place.toInt ≤ v_size.toInt → 0 ≤ x1.toInt → x1.toInt ≤ 6 → K ≤ x1.toInt → wp (go x1 v_size v_draftCount v_place v_fault v_tape v_draft) (cu4 (fun (wv_draftCount : Int32) (wv_place : Int32) (wv_fault : Int32) (wv_draft : List Int32) => 0 ≤ wv_draftCount.toInt ∧ wv_draftCount.toInt ≤ 121 ∧ wv_draft.length = 121 ∧ v_place.toInt ≤ wv_place.toInt ∧ wv_place.toInt ≤ v_size.toInt))) : wp (fX2_readSum N go x1 v_size v_draftCount v_place v_fault v_tape v_draft) (cu4 (fun (wv_draftCount : Int32) (wv_place : Int32) (wv_fault : Int32) (wv_draft : List Int32) => 0 ≤ wv_draftCount.toInt ∧ wv_draftCount.toInt ≤ 121 ∧ wv_draft.length = 121 ∧ v_place.toInt ≤ wv_place.toInt ∧ wv_place.toInt ≤ v_size.toInt)) := by
  refine wp_of (uf_X2_readSum _ _ _ _ _ _ _ _ _) ?_
  refine wp_bd4 (sf_X2_readProduct hN h_0 h_1 h_2 h_3 h_4 h_5 h_6 h_7 h_8 h_9 h_10 hgo) (fun w_1 w_2 w_3 w_4 ⟨q_1, q_2, q_3, q_4, q_5⟩ => ?_)
  have n_6 : (0 : Int32).toInt = 0 := by decide
  refine wp_cu4 (sf_X2_readSum_7 hN hgo _ _ _ _ _ _ _ _ _ h_0 h_1 q_1 q_2 h_4 q_3 (by omega) q_5 h_8 h_9 h_10 (by omega) (by omega) (by omega)) (fun z_wv_draftCount z_wv_place z_wv_fault z_wv_draft ⟨q_7, q_8, q_9, q_10, q_11⟩ => ?_)
  exact ⟨(by omega), (by omega), (by assumption), (by omega), (by omega)⟩

theorem uf_X2_readCompared (N : Nat) (go : Int32 → Int32 → Int32 → Int32 → Int32 → List Int32 → List Int32 → Option (Int32 × Int32 × Int32 × List Int32)) (x1 : Int32) (v_size : Int32) (v_draftCount : Int32) (v_place : Int32) (v_fault : Int32) (v_tape : List Int32) (v_draft : List Int32) : fX2_readCompared N go x1 v_size v_draftCount v_place v_fault v_tape v_draft = mm_bd4 (fX2_readSum N go x1 v_size v_draftCount v_place v_fault v_tape v_draft) (fun (w_1 : Int32) (w_2 : Int32) (w_3 : Int32) (w_4 : List Int32) =>
    mm_bd1 (fX2_meets N (60 : Int32) v_size w_2 w_3 v_tape) (fun (r_6 : Bool) =>
    if r_6 = false then
    (mm_bd1 (fX2_meets N (61 : Int32) v_size w_2 w_3 v_tape) (fun (r_9 : Bool) =>
    if r_9 = false then
    (mm_bd1 (fX2_meets N (62 : Int32) v_size w_2 w_3 v_tape) (fun (r_12 : Bool) =>
    if r_12 = false then
    (some (w_1, w_2, w_3, w_4))
    else (fX2_readCompared_32 N go x1 v_size w_1 w_2 w_3 v_tape w_4)))
    else (fX2_readCompared_32 N go x1 v_size w_1 w_2 w_3 v_tape w_4)))
    else (fX2_readCompared_32 N go x1 v_size w_1 w_2 w_3 v_tape w_4))) := rfl

theorem uf_X2_readCompared_32 (N : Nat) (go : Int32 → Int32 → Int32 → Int32 → Int32 → List Int32 → List Int32 → Option (Int32 × Int32 × Int32 × List Int32)) (x1 : Int32) (v_size : Int32) (v_draftCount : Int32) (v_place : Int32) (v_fault : Int32) (v_tape : List Int32) (v_draft : List Int32) : fX2_readCompared_32 N go x1 v_size v_draftCount v_place v_fault v_tape v_draft = mm_bd1 (fX2_next N v_size v_place v_tape) (fun (r_15 : Int32) =>
    mm_nm ((v_place + (1 : Int32))) (fun (y_17 : Int32) =>
    mm_bd4 (fX2_readSum N go x1 v_size v_draftCount y_17 v_fault v_tape v_draft) (fun (w_18 : Int32) (w_19 : Int32) (w_20 : Int32) (w_21 : List Int32) =>
    mm_bd2 (fX2_note N r_15 w_18 w_21) (fun (w_23 : Int32) (w_24 : List Int32) =>
    some (w_23, w_19, w_20, w_24))))) := rfl

set_option maxHeartbeats 4000000 in
set_option maxRecDepth 20000 in
theorem sf_X2_readCompared {N : Nat} (hN : 700 ≤ N) {K : Int} {go : Int32 → Int32 → Int32 → Int32 → Int32 → List Int32 → List Int32 → Option (Int32 × Int32 × Int32 × List Int32)} {x1 : Int32} {v_size : Int32} {v_draftCount : Int32} {v_place : Int32} {v_fault : Int32} {v_tape : List Int32} {v_draft : List Int32} (h_0 : 0 ≤ v_size.toInt) (h_1 : v_size.toInt ≤ 120) (h_2 : 0 ≤ v_draftCount.toInt) (h_3 : v_draftCount.toInt ≤ 121) (h_4 : v_tape.length = 120) (h_5 : v_draft.length = 121) (h_6 : 0 ≤ v_place.toInt) (h_7 : v_place.toInt ≤ v_size.toInt) (h_8 : 0 ≤ x1.toInt) (h_9 : x1.toInt ≤ 6) (h_10 : K ≤ x1.toInt) (hgo : ∀ (x1 : Int32) (v_size : Int32) (v_draftCount : Int32) (v_place : Int32) (v_fault : Int32) (v_tape : List Int32) (v_draft : List Int32), 0 ≤ v_size.toInt → v_size.toInt ≤ 120 → 0 ≤ v_draftCount.toInt → v_draftCount.toInt ≤ 121 → v_tape.length = 120 → v_draft.length = 121 → 0 ≤ v_place.toInt → v_place.toInt ≤ v_size.toInt → 0 ≤ x1.toInt → x1.toInt ≤ 6 → K ≤ x1.toInt → wp (go x1 v_size v_draftCount v_place v_fault v_tape v_draft) (cu4 (fun (wv_draftCount : Int32) (wv_place : Int32) (wv_fault : Int32) (wv_draft : List Int32) => 0 ≤ wv_draftCount.toInt ∧ wv_draftCount.toInt ≤ 121 ∧ wv_draft.length = 121 ∧ v_place.toInt ≤ wv_place.toInt ∧ wv_place.toInt ≤ v_size.toInt))) : wp (fX2_readCompared N go x1 v_size v_draftCount v_place v_fault v_tape v_draft) (cu4 (fun (wv_draftCount : Int32) (wv_place : Int32) (wv_fault : Int32) (wv_draft : List Int32) => 0 ≤ wv_draftCount.toInt ∧ wv_draftCount.toInt ≤ 121 ∧ wv_draft.length = 121 ∧ v_place.toInt ≤ wv_place.toInt ∧ wv_place.toInt ≤ v_size.toInt)) := by
  refine wp_of (uf_X2_readCompared _ _ _ _ _ _ _ _ _) ?_
  refine wp_bd4 (sf_X2_readSum hN h_0 h_1 h_2 h_3 h_4 h_5 h_6 h_7 h_8 h_9 h_10 hgo) (fun w_1 w_2 w_3 w_4 ⟨q_1, q_2, q_3, q_4, q_5⟩ => ?_)
  have n_6 : (60 : Int32).toInt = 60 := by decide
  refine wp_bd1 (sf_X2_meets hN h_0 h_1 h_4 (by omega) (by omega)) (fun r_6 q_7 => ?_)
  rcases q_7 with ⟨rfl, q_7⟩ | ⟨rfl, q_7⟩
  ·
    refine wp_ifn (by decide) ?_
    refine wp_of (uf_X2_readCompared_32 _ _ _ _ _ _ _ _ _) ?_
    refine wp_in1 ?_
    refine wp_of (uf_X2_next _ _ _ _) ?_
    refine wp_if (fun c_8 => ?_) (fun c_8 => ?_)
    ·
      have dc_8 := i_le c_8
      refine wp_so1 ?_
      show wp _ _
      have n_9 : (1 : Int32).toInt = 1 := by decide
      refine wp_nm (fun y_17 h_y_17 => ?_)
      have e_10 := i_addE h_y_17.symm (by omega) (by omega)
      refine wp_bd4 (sf_X2_readSum hN h_0 h_1 q_1 q_2 h_4 q_3 (by omega) (by omega) h_8 h_9 h_10 hgo) (fun w_18 w_19 w_20 w_21 ⟨q_11, q_12, q_13, q_14, q_15⟩ => ?_)
      refine wp_bd2 (sf_X2_note hN q_11 q_12 q_13) (fun w_23 w_24 ⟨q_16, q_17, q_18⟩ => ?_)
      exact wp_so4 ⟨q_16, q_17, q_18, (by omega), q_15⟩
    ·
      have dc_8 := i_nle c_8
      refine wp_ck (i_inb (by omega) (by omega)) ?_
      refine wp_so1 ?_
      show wp _ _
      have n_20 : (1 : Int32).toInt = 1 := by decide
      refine wp_nm (fun y_17__19 h_y_17__19 => ?_)
      have e_21 := i_addE h_y_17__19.symm (by omega) (by omega)
      refine wp_bd4 (sf_X2_readSum hN h_0 h_1 q_1 q_2 h_4 q_3 (by omega) (by omega) h_8 h_9 h_10 hgo) (fun w_18__22 w_19__23 w_20__24 w_21__25 ⟨q_26, q_27, q_28, q_29, q_30⟩ => ?_)
      refine wp_bd2 (sf_X2_note hN q_26 q_27 q_28) (fun w_23__31 w_24__32 ⟨q_33, q_34, q_35⟩ => ?_)
      exact wp_so4 ⟨q_33, q_34, q_35, (by omega), q_30⟩
  ·
    refine wp_ifp (by decide) ?_
    have n_36 : (61 : Int32).toInt = 61 := by decide
    refine wp_bd1 (sf_X2_meets hN h_0 h_1 h_4 (by omega) (by omega)) (fun r_9 q_37 => ?_)
    rcases q_37 with ⟨rfl, q_37⟩ | ⟨rfl, q_37⟩
    ·
      refine wp_ifn (by decide) ?_
      refine wp_of (uf_X2_readCompared_32 _ _ _ _ _ _ _ _ _) ?_
      refine wp_in1 ?_
      refine wp_of (uf_X2_next _ _ _ _) ?_
      refine wp_if (fun c_38 => ?_) (fun c_38 => ?_)
      ·
        have dc_38 := i_le c_38
        refine wp_so1 ?_
        show wp _ _
        have n_40 : (1 : Int32).toInt = 1 := by decide
        refine wp_nm (fun y_17__39 h_y_17__39 => ?_)
        have e_41 := i_addE h_y_17__39.symm (by omega) (by omega)
        refine wp_bd4 (sf_X2_readSum hN h_0 h_1 q_1 q_2 h_4 q_3 (by omega) (by omega) h_8 h_9 h_10 hgo) (fun w_18__42 w_19__43 w_20__44 w_21__45 ⟨q_46, q_47, q_48, q_49, q_50⟩ => ?_)
        refine wp_bd2 (sf_X2_note hN q_46 q_47 q_48) (fun w_23__51 w_24__52 ⟨q_53, q_54, q_55⟩ => ?_)
        exact wp_so4 ⟨q_53, q_54, q_55, (by omega), q_50⟩
      ·
        have dc_38 := i_nle c_38
        refine wp_ck (i_inb (by omega) (by omega)) ?_
        refine wp_so1 ?_
        show wp _ _
        have n_57 : (1 : Int32).toInt = 1 := by decide
        refine wp_nm (fun y_17__56 h_y_17__56 => ?_)
        have e_58 := i_addE h_y_17__56.symm (by omega) (by omega)
        refine wp_bd4 (sf_X2_readSum hN h_0 h_1 q_1 q_2 h_4 q_3 (by omega) (by omega) h_8 h_9 h_10 hgo) (fun w_18__59 w_19__60 w_20__61 w_21__62 ⟨q_63, q_64, q_65, q_66, q_67⟩ => ?_)
        refine wp_bd2 (sf_X2_note hN q_63 q_64 q_65) (fun w_23__68 w_24__69 ⟨q_70, q_71, q_72⟩ => ?_)
        exact wp_so4 ⟨q_70, q_71, q_72, (by omega), q_67⟩
    ·
      refine wp_ifp (by decide) ?_
      have n_73 : (62 : Int32).toInt = 62 := by decide
      refine wp_bd1 (sf_X2_meets hN h_0 h_1 h_4 (by omega) (by omega)) (fun r_12 q_74 => ?_)
      rcases q_74 with ⟨rfl, q_74⟩ | ⟨rfl, q_74⟩
      ·
        refine wp_ifn (by decide) ?_
        refine wp_of (uf_X2_readCompared_32 _ _ _ _ _ _ _ _ _) ?_
        refine wp_in1 ?_
        refine wp_of (uf_X2_next _ _ _ _) ?_
        refine wp_if (fun c_75 => ?_) (fun c_75 => ?_)
        ·
          have dc_75 := i_le c_75
          refine wp_so1 ?_
          show wp _ _
          have n_77 : (1 : Int32).toInt = 1 := by decide
          refine wp_nm (fun y_17__76 h_y_17__76 => ?_)
          have e_78 := i_addE h_y_17__76.symm (by omega) (by omega)
          refine wp_bd4 (sf_X2_readSum hN h_0 h_1 q_1 q_2 h_4 q_3 (by omega) (by omega) h_8 h_9 h_10 hgo) (fun w_18__79 w_19__80 w_20__81 w_21__82 ⟨q_83, q_84, q_85, q_86, q_87⟩ => ?_)
          refine wp_bd2 (sf_X2_note hN q_83 q_84 q_85) (fun w_23__88 w_24__89 ⟨q_90, q_91, q_92⟩ => ?_)
          exact wp_so4 ⟨q_90, q_91, q_92, (by omega), q_87⟩
        ·
          have dc_75 := i_nle c_75
          refine wp_ck (i_inb (by omega) (by omega)) ?_
          refine wp_so1 ?_
          show wp _ _
          have n_94 : (1 : Int32).toInt = 1 := by decide
          refine wp_nm (fun y_17__93 h_y_17__93 => ?_)
          have e_95 := i_addE h_y_17__93.symm (by omega) (by omega)
          refine wp_bd4 (sf_X2_readSum hN h_0 h_1 q_1 q_2 h_4 q_3 (by omega) (by omega) h_8 h_9 h_10 hgo) (fun w_18__96 w_19__97 w_20__98 w_21__99 ⟨q_100, q_101, q_102, q_103, q_104⟩ => ?_)
          refine wp_bd2 (sf_X2_note hN q_100 q_101 q_102) (fun w_23__105 w_24__106 ⟨q_107, q_108, q_109⟩ => ?_)
          exact wp_so4 ⟨q_107, q_108, q_109, (by omega), q_104⟩
      ·
        refine wp_ifp (by decide) ?_
        exact wp_so4 ⟨q_1, q_2, q_3, q_4, q_5⟩

theorem uf_X2_readBoth_7 (N : Nat) (go : Int32 → Int32 → Int32 → Int32 → Int32 → List Int32 → List Int32 → Option (Int32 × Int32 × Int32 × List Int32)) (n : Nat) (x1 : Int32) (x2 : Int32) (v_size : Int32) (v_draftCount : Int32) (v_place : Int32) (v_fault : Int32) (v_tape : List Int32) (v_draft : List Int32) : fX2_readBoth_7 N go (n + 1) x1 x2 v_size v_draftCount v_place v_fault v_tape v_draft = 
    if (120 : Int32) ≤ x2 then
    (some (v_draftCount, v_place, v_fault, v_draft))
    else (mm_bd1 (fX2_meets N (38 : Int32) v_size v_place v_fault v_tape) (fun (r_7 : Bool) =>
    if r_7 = false then
    (some (v_draftCount, v_place, v_fault, v_draft))
    else (mm_nm ((v_place + (1 : Int32))) (fun (y_10 : Int32) =>
    mm_bd4 (fX2_readCompared N go x1 v_size v_draftCount y_10 v_fault v_tape v_draft) (fun (w_11 : Int32) (w_12 : Int32) (w_13 : Int32) (w_14 : List Int32) =>
    mm_bd2 (fX2_note N (38 : Int32) w_11 w_14) (fun (w_16 : Int32) (w_17 : List Int32) =>
    mm_nm (x2 + (1 : Int32)) (fun (y_19 : Int32) =>
    fX2_readBoth_7 N go n x1 y_19 v_size w_16 w_12 w_13 v_tape w_17))))))) := rfl

set_option maxHeartbeats 4000000 in
set_option maxRecDepth 20000 in
theorem sf_X2_readBoth_7 {N : Nat} (hN : 700 ≤ N) {K : Int} {go : Int32 → Int32 → Int32 → Int32 → Int32 → List Int32 → List Int32 → Option (Int32 × Int32 × Int32 × List Int32)} (hgo : ∀ (x1 : Int32) (v_size : Int32) (v_draftCount : Int32) (v_place : Int32) (v_fault : Int32) (v_tape : List Int32) (v_draft : List Int32), 0 ≤ v_size.toInt → v_size.toInt ≤ 120 → 0 ≤ v_draftCount.toInt → v_draftCount.toInt ≤ 121 → v_tape.length = 120 → v_draft.length = 121 → 0 ≤ v_place.toInt → v_place.toInt ≤ v_size.toInt → 0 ≤ x1.toInt → x1.toInt ≤ 6 → K ≤ x1.toInt → wp (go x1 v_size v_draftCount v_place v_fault v_tape v_draft) (cu4 (fun (wv_draftCount : Int32) (wv_place : Int32) (wv_fault : Int32) (wv_draft : List Int32) => 0 ≤ wv_draftCount.toInt ∧ wv_draftCount.toInt ≤ 121 ∧ wv_draft.length = 121 ∧ v_place.toInt ≤ wv_place.toInt ∧ wv_place.toInt ≤ v_size.toInt))) : ∀ (n : Nat) (x1 : Int32) (x2 : Int32) (v_size : Int32) (v_draftCount : Int32) (v_place : Int32) (v_fault : Int32) (v_tape : List Int32) (v_draft : List Int32), 0 ≤ v_size.toInt → v_size.toInt ≤ 120 → 0 ≤ v_draftCount.toInt → v_draftCount.toInt ≤ 121 → v_tape.length = 120 → v_draft.length = 121 → 0 ≤ v_place.toInt → v_place.toInt ≤ v_size.toInt → 0 ≤ x1.toInt → x1.toInt ≤ 6 → K ≤ x1.toInt → 0 ≤ x2.toInt → x2.toInt ≤ 120 → (120 - x2.toInt).toNat < n → wp (fX2_readBoth_7 N go n x1 x2 v_size v_draftCount v_place v_fault v_tape v_draft) (cu4 (fun (wv_draftCount : Int32) (wv_place : Int32) (wv_fault : Int32) (wv_draft : List Int32) => 0 ≤ wv_draftCount.toInt ∧ wv_draftCount.toInt ≤ 121 ∧ wv_draft.length = 121 ∧ v_place.toInt ≤ wv_place.toInt ∧ wv_place.toInt ≤ v_size.toInt)) := by
  intro n
  induction n with
  | zero =>
    intro x1 x2 v_size v_draftCount v_place v_fault v_tape v_draft h_0 h_1 h_2 h_3 h_4 h_5 h_6 h_7 h_8 h_9 h_10 h_11 h_12 hm
    exact absurd hm (by omega)
  | succ n ih =>
    intro x1 x2 v_size v_draftCount v_place v_fault v_tape v_draft h_0 h_1 h_2 h_3 h_4 h_5 h_6 h_7 h_8 h_9 h_10 h_11 h_12 hm
    refine wp_of (uf_X2_readBoth_7 _ _ _ _ _ _ _ _ _ _ _) ?_
    have n_2 : (120 : Int32).toInt = 120 := by decide
    refine wp_if (fun c_1 => ?_) (fun c_1 => ?_)
    ·
      have dc_1 := i_le c_1
      exact wp_so4 ⟨h_2, h_3, h_5, (by omega), h_7⟩
    ·
      have dc_1 := i_nle c_1
      have n_3 : (38 : Int32).toInt = 38 := by decide
      refine wp_bd1 (sf_X2_meets hN h_0 h_1 h_4 h_6 (by omega)) (fun r_7 q_4 => ?_)
      rcases q_4 with ⟨rfl, q_4⟩ | ⟨rfl, q_4⟩
      ·
        refine wp_ifn (by decide) ?_
        have n_5 : (1 : Int32).toInt = 1 := by decide
        refine wp_nm (fun y_10 h_y_10 => ?_)
        have e_6 := i_addE h_y_10.symm (by omega) (by omega)
        refine wp_bd4 (sf_X2_readCompared hN h_0 h_1 h_2 h_3 h_4 h_5 (by omega) (by omega) h_8 h_9 h_10 hgo) (fun w_11 w_12 w_13 w_14 ⟨q_7, q_8, q_9, q_10, q_11⟩ => ?_)
        refine wp_bd2 (sf_X2_note hN q_7 q_8 q_9) (fun w_16 w_17 ⟨q_12, q_13, q_14⟩ => ?_)
        refine wp_nm (fun y_19 h_y_19 => ?_)
        have e_15 := i_addE h_y_19.symm (by omega) (by omega)
        refine wp_cu4 (ih _ _ _ _ _ _ _ _ h_0 h_1 q_12 q_13 h_4 q_14 (by omega) q_11 h_8 h_9 h_10 (by omega) (by omega) (by omega)) (fun z_wv_draftCount z_wv_place z_wv_fault z_wv_draft ⟨q_16, q_17, q_18, q_19, q_20⟩ => ?_)
        exact ⟨(by omega), (by omega), (by assumption), (by omega), (by omega)⟩
      ·
        refine wp_ifp (by decide) ?_
        exact wp_so4 ⟨h_2, h_3, h_5, (by omega), h_7⟩

theorem uf_X2_readBoth (N : Nat) (go : Int32 → Int32 → Int32 → Int32 → Int32 → List Int32 → List Int32 → Option (Int32 × Int32 × Int32 × List Int32)) (x1 : Int32) (v_size : Int32) (v_draftCount : Int32) (v_place : Int32) (v_fault : Int32) (v_tape : List Int32) (v_draft : List Int32) : fX2_readBoth N go x1 v_size v_draftCount v_place v_fault v_tape v_draft = mm_bd4 (fX2_readCompared N go x1 v_size v_draftCount v_place v_fault v_tape v_draft) (fun (w_1 : Int32) (w_2 : Int32) (w_3 : Int32) (w_4 : List Int32) =>
    fX2_readBoth_7 N go N x1 (0 : Int32) v_size w_1 w_2 w_3 v_tape w_4) := rfl

set_option maxHeartbeats 4000000 in
set_option maxRecDepth 20000 in
theorem sf_X2_readBoth {N : Nat} (hN : 700 ≤ N) {K : Int} {go : Int32 → Int32 → Int32 → Int32 → Int32 → List Int32 → List Int32 → Option (Int32 × Int32 × Int32 × List Int32)} {x1 : Int32} {v_size : Int32} {v_draftCount : Int32} {v_place : Int32} {v_fault : Int32} {v_tape : List Int32} {v_draft : List Int32} (h_0 : 0 ≤ v_size.toInt) (h_1 : v_size.toInt ≤ 120) (h_2 : 0 ≤ v_draftCount.toInt) (h_3 : v_draftCount.toInt ≤ 121) (h_4 : v_tape.length = 120) (h_5 : v_draft.length = 121) (h_6 : 0 ≤ v_place.toInt) (h_7 : v_place.toInt ≤ v_size.toInt) (h_8 : 0 ≤ x1.toInt) (h_9 : x1.toInt ≤ 6) (h_10 : K ≤ x1.toInt) (hgo : ∀ (x1 : Int32) (v_size : Int32) (v_draftCount : Int32) (v_place : Int32) (v_fault : Int32) (v_tape : List Int32) (v_draft : List Int32), 0 ≤ v_size.toInt → v_size.toInt ≤ 120 → 0 ≤ v_draftCount.toInt → v_draftCount.toInt ≤ 121 → v_tape.length = 120 → v_draft.length = 121 → 0 ≤ v_place.toInt → v_place.toInt ≤ v_size.toInt → 0 ≤ x1.toInt → x1.toInt ≤ 6 → K ≤ x1.toInt → wp (go x1 v_size v_draftCount v_place v_fault v_tape v_draft) (cu4 (fun (wv_draftCount : Int32) (wv_place : Int32) (wv_fault : Int32) (wv_draft : List Int32) => 0 ≤ wv_draftCount.toInt ∧ wv_draftCount.toInt ≤ 121 ∧ wv_draft.length = 121 ∧ v_place.toInt ≤ wv_place.toInt ∧ wv_place.toInt ≤ v_size.toInt))) : wp (fX2_readBoth N go x1 v_size v_draftCount v_place v_fault v_tape v_draft) (cu4 (fun (wv_draftCount : Int32) (wv_place : Int32) (wv_fault : Int32) (wv_draft : List Int32) => 0 ≤ wv_draftCount.toInt ∧ wv_draftCount.toInt ≤ 121 ∧ wv_draft.length = 121 ∧ v_place.toInt ≤ wv_place.toInt ∧ wv_place.toInt ≤ v_size.toInt)) := by
  refine wp_of (uf_X2_readBoth _ _ _ _ _ _ _ _ _) ?_
  refine wp_bd4 (sf_X2_readCompared hN h_0 h_1 h_2 h_3 h_4 h_5 h_6 h_7 h_8 h_9 h_10 hgo) (fun w_1 w_2 w_3 w_4 ⟨q_1, q_2, q_3, q_4, q_5⟩ => ?_)
  have n_6 : (0 : Int32).toInt = 0 := by decide
  refine wp_cu4 (sf_X2_readBoth_7 hN hgo _ _ _ _ _ _ _ _ _ h_0 h_1 q_1 q_2 h_4 q_3 (by omega) q_5 h_8 h_9 h_10 (by omega) (by omega) (by omega)) (fun z_wv_draftCount z_wv_place z_wv_fault z_wv_draft ⟨q_7, q_8, q_9, q_10, q_11⟩ => ?_)
  exact ⟨(by omega), (by omega), (by assumption), (by omega), (by omega)⟩

theorem uf_X2_readEither_7 (N : Nat) (go : Int32 → Int32 → Int32 → Int32 → Int32 → List Int32 → List Int32 → Option (Int32 × Int32 × Int32 × List Int32)) (n : Nat) (x1 : Int32) (x2 : Int32) (v_size : Int32) (v_draftCount : Int32) (v_place : Int32) (v_fault : Int32) (v_tape : List Int32) (v_draft : List Int32) : fX2_readEither_7 N go (n + 1) x1 x2 v_size v_draftCount v_place v_fault v_tape v_draft = 
    if (120 : Int32) ≤ x2 then
    (some (v_draftCount, v_place, v_fault, v_draft))
    else (mm_bd1 (fX2_meets N (124 : Int32) v_size v_place v_fault v_tape) (fun (r_7 : Bool) =>
    if r_7 = false then
    (some (v_draftCount, v_place, v_fault, v_draft))
    else (mm_nm ((v_place + (1 : Int32))) (fun (y_10 : Int32) =>
    mm_bd4 (fX2_readBoth N go x1 v_size v_draftCount y_10 v_fault v_tape v_draft) (fun (w_11 : Int32) (w_12 : Int32) (w_13 : Int32) (w_14 : List Int32) =>
    mm_bd2 (fX2_note N (124 : Int32) w_11 w_14) (fun (w_16 : Int32) (w_17 : List Int32) =>
    mm_nm (x2 + (1 : Int32)) (fun (y_19 : Int32) =>
    fX2_readEither_7 N go n x1 y_19 v_size w_16 w_12 w_13 v_tape w_17))))))) := rfl

set_option maxHeartbeats 4000000 in
set_option maxRecDepth 20000 in
theorem sf_X2_readEither_7 {N : Nat} (hN : 700 ≤ N) {K : Int} {go : Int32 → Int32 → Int32 → Int32 → Int32 → List Int32 → List Int32 → Option (Int32 × Int32 × Int32 × List Int32)} (hgo : ∀ (x1 : Int32) (v_size : Int32) (v_draftCount : Int32) (v_place : Int32) (v_fault : Int32) (v_tape : List Int32) (v_draft : List Int32), 0 ≤ v_size.toInt → v_size.toInt ≤ 120 → 0 ≤ v_draftCount.toInt → v_draftCount.toInt ≤ 121 → v_tape.length = 120 → v_draft.length = 121 → 0 ≤ v_place.toInt → v_place.toInt ≤ v_size.toInt → 0 ≤ x1.toInt → x1.toInt ≤ 6 → K ≤ x1.toInt → wp (go x1 v_size v_draftCount v_place v_fault v_tape v_draft) (cu4 (fun (wv_draftCount : Int32) (wv_place : Int32) (wv_fault : Int32) (wv_draft : List Int32) => 0 ≤ wv_draftCount.toInt ∧ wv_draftCount.toInt ≤ 121 ∧ wv_draft.length = 121 ∧ v_place.toInt ≤ wv_place.toInt ∧ wv_place.toInt ≤ v_size.toInt))) : ∀ (n : Nat) (x1 : Int32) (x2 : Int32) (v_size : Int32) (v_draftCount : Int32) (v_place : Int32) (v_fault : Int32) (v_tape : List Int32) (v_draft : List Int32), 0 ≤ v_size.toInt → v_size.toInt ≤ 120 → 0 ≤ v_draftCount.toInt → v_draftCount.toInt ≤ 121 → v_tape.length = 120 → v_draft.length = 121 → 0 ≤ v_place.toInt → v_place.toInt ≤ v_size.toInt → 0 ≤ x1.toInt → x1.toInt ≤ 6 → K ≤ x1.toInt → 0 ≤ x2.toInt → x2.toInt ≤ 120 → (120 - x2.toInt).toNat < n → wp (fX2_readEither_7 N go n x1 x2 v_size v_draftCount v_place v_fault v_tape v_draft) (cu4 (fun (wv_draftCount : Int32) (wv_place : Int32) (wv_fault : Int32) (wv_draft : List Int32) => 0 ≤ wv_draftCount.toInt ∧ wv_draftCount.toInt ≤ 121 ∧ wv_draft.length = 121 ∧ v_place.toInt ≤ wv_place.toInt ∧ wv_place.toInt ≤ v_size.toInt)) := by
  intro n
  induction n with
  | zero =>
    intro x1 x2 v_size v_draftCount v_place v_fault v_tape v_draft h_0 h_1 h_2 h_3 h_4 h_5 h_6 h_7 h_8 h_9 h_10 h_11 h_12 hm
    exact absurd hm (by omega)
  | succ n ih =>
    intro x1 x2 v_size v_draftCount v_place v_fault v_tape v_draft h_0 h_1 h_2 h_3 h_4 h_5 h_6 h_7 h_8 h_9 h_10 h_11 h_12 hm
    refine wp_of (uf_X2_readEither_7 _ _ _ _ _ _ _ _ _ _ _) ?_
    have n_2 : (120 : Int32).toInt = 120 := by decide
    refine wp_if (fun c_1 => ?_) (fun c_1 => ?_)
    ·
      have dc_1 := i_le c_1
      exact wp_so4 ⟨h_2, h_3, h_5, (by omega), h_7⟩
    ·
      have dc_1 := i_nle c_1
      have n_3 : (124 : Int32).toInt = 124 := by decide
      refine wp_bd1 (sf_X2_meets hN h_0 h_1 h_4 h_6 (by omega)) (fun r_7 q_4 => ?_)
      rcases q_4 with ⟨rfl, q_4⟩ | ⟨rfl, q_4⟩
      ·
        refine wp_ifn (by decide) ?_
        have n_5 : (1 : Int32).toInt = 1 := by decide
        refine wp_nm (fun y_10 h_y_10 => ?_)
        have e_6 := i_addE h_y_10.symm (by omega) (by omega)
        refine wp_bd4 (sf_X2_readBoth hN h_0 h_1 h_2 h_3 h_4 h_5 (by omega) (by omega) h_8 h_9 h_10 hgo) (fun w_11 w_12 w_13 w_14 ⟨q_7, q_8, q_9, q_10, q_11⟩ => ?_)
        refine wp_bd2 (sf_X2_note hN q_7 q_8 q_9) (fun w_16 w_17 ⟨q_12, q_13, q_14⟩ => ?_)
        refine wp_nm (fun y_19 h_y_19 => ?_)
        have e_15 := i_addE h_y_19.symm (by omega) (by omega)
        refine wp_cu4 (ih _ _ _ _ _ _ _ _ h_0 h_1 q_12 q_13 h_4 q_14 (by omega) q_11 h_8 h_9 h_10 (by omega) (by omega) (by omega)) (fun z_wv_draftCount z_wv_place z_wv_fault z_wv_draft ⟨q_16, q_17, q_18, q_19, q_20⟩ => ?_)
        exact ⟨(by omega), (by omega), (by assumption), (by omega), (by omega)⟩
      ·
        refine wp_ifp (by decide) ?_
        exact wp_so4 ⟨h_2, h_3, h_5, (by omega), h_7⟩

theorem uf_X2_readEither (N : Nat) (go : Int32 → Int32 → Int32 → Int32 → Int32 → List Int32 → List Int32 → Option (Int32 × Int32 × Int32 × List Int32)) (x1 : Int32) (v_size : Int32) (v_draftCount : Int32) (v_place : Int32) (v_fault : Int32) (v_tape : List Int32) (v_draft : List Int32) : fX2_readEither N go x1 v_size v_draftCount v_place v_fault v_tape v_draft = mm_bd4 (fX2_readBoth N go x1 v_size v_draftCount v_place v_fault v_tape v_draft) (fun (w_1 : Int32) (w_2 : Int32) (w_3 : Int32) (w_4 : List Int32) =>
    fX2_readEither_7 N go N x1 (0 : Int32) v_size w_1 w_2 w_3 v_tape w_4) := rfl

set_option maxHeartbeats 4000000 in
set_option maxRecDepth 20000 in
theorem sf_X2_readEither {N : Nat} (hN : 700 ≤ N) {K : Int} {go : Int32 → Int32 → Int32 → Int32 → Int32 → List Int32 → List Int32 → Option (Int32 × Int32 × Int32 × List Int32)} {x1 : Int32} {v_size : Int32} {v_draftCount : Int32} {v_place : Int32} {v_fault : Int32} {v_tape : List Int32} {v_draft : List Int32} (h_0 : 0 ≤ v_size.toInt) (h_1 : v_size.toInt ≤ 120) (h_2 : 0 ≤ v_draftCount.toInt) (h_3 : v_draftCount.toInt ≤ 121) (h_4 : v_tape.length = 120) (h_5 : v_draft.length = 121) (h_6 : 0 ≤ v_place.toInt) (h_7 : v_place.toInt ≤ v_size.toInt) (h_8 : 0 ≤ x1.toInt) (h_9 : x1.toInt ≤ 6) (h_10 : K ≤ x1.toInt) (hgo : ∀ (x1 : Int32) (v_size : Int32) (v_draftCount : Int32) (v_place : Int32) (v_fault : Int32) (v_tape : List Int32) (v_draft : List Int32), 0 ≤ v_size.toInt → v_size.toInt ≤ 120 → 0 ≤ v_draftCount.toInt → v_draftCount.toInt ≤ 121 → v_tape.length = 120 → v_draft.length = 121 → 0 ≤ v_place.toInt → v_place.toInt ≤ v_size.toInt → 0 ≤ x1.toInt → x1.toInt ≤ 6 → K ≤ x1.toInt → wp (go x1 v_size v_draftCount v_place v_fault v_tape v_draft) (cu4 (fun (wv_draftCount : Int32) (wv_place : Int32) (wv_fault : Int32) (wv_draft : List Int32) => 0 ≤ wv_draftCount.toInt ∧ wv_draftCount.toInt ≤ 121 ∧ wv_draft.length = 121 ∧ v_place.toInt ≤ wv_place.toInt ∧ wv_place.toInt ≤ v_size.toInt))) : wp (fX2_readEither N go x1 v_size v_draftCount v_place v_fault v_tape v_draft) (cu4 (fun (wv_draftCount : Int32) (wv_place : Int32) (wv_fault : Int32) (wv_draft : List Int32) => 0 ≤ wv_draftCount.toInt ∧ wv_draftCount.toInt ≤ 121 ∧ wv_draft.length = 121 ∧ v_place.toInt ≤ wv_place.toInt ∧ wv_place.toInt ≤ v_size.toInt)) := by
  refine wp_of (uf_X2_readEither _ _ _ _ _ _ _ _ _) ?_
  refine wp_bd4 (sf_X2_readBoth hN h_0 h_1 h_2 h_3 h_4 h_5 h_6 h_7 h_8 h_9 h_10 hgo) (fun w_1 w_2 w_3 w_4 ⟨q_1, q_2, q_3, q_4, q_5⟩ => ?_)
  have n_6 : (0 : Int32).toInt = 0 := by decide
  refine wp_cu4 (sf_X2_readEither_7 hN hgo _ _ _ _ _ _ _ _ _ h_0 h_1 q_1 q_2 h_4 q_3 (by omega) q_5 h_8 h_9 h_10 (by omega) (by omega) (by omega)) (fun z_wv_draftCount z_wv_place z_wv_fault z_wv_draft ⟨q_7, q_8, q_9, q_10, q_11⟩ => ?_)
  exact ⟨(by omega), (by omega), (by assumption), (by omega), (by omega)⟩

theorem uf_X2_isName (N : Nat) (x0 : Int32) : fX2_isName N x0 = if x0 = (98 : Int32) then
    (some (true))
    else (if x0 = (102 : Int32) then
    (some (true))
    else (if x0 = (107 : Int32) then
    (some (true))
    else (if x0 = (110 : Int32) then
    (some (true))
    else (if x0 = (114 : Int32) then
    (some (true))
    else (if x0 = (119 : Int32) then
    (some (true))
    else (some (false))))))) := rfl

theorem uf_X2_readOne (N : Nat) (M : Nat) (z0 : Int32) (z1 : Int32) (z2 : Int32) (z3 : Int32) (z4 : Int32) (z5 : List Int32) (z6 : List Int32) : fX2_readOne N (M + 1) z0 z1 z2 z3 z4 z5 z6 = (fX2_readOneo N (fX2_readOne N M)) z0 z1 z2 z3 z4 z5 z6 := rfl

theorem uf_X2_readOne_157 (N : Nat) (go : Int32 → Int32 → Int32 → Int32 → Int32 → List Int32 → List Int32 → Option (Int32 × Int32 × Int32 × List Int32)) (v_size : Int32) (v_draftCount : Int32) (v_place : Int32) (v_fault : Int32) (v_tape : List Int32) (v_draft : List Int32) : fX2_readOne_157 N go v_size v_draftCount v_place v_fault v_tape v_draft = mm_bd1 (fX2_fail N v_place v_fault) (fun (w_44 : Int32) =>
    some (v_draftCount, v_place, w_44, v_draft)) := rfl

theorem uf_X2_readOne_62 (N : Nat) (go : Int32 → Int32 → Int32 → Int32 → Int32 → List Int32 → List Int32 → Option (Int32 × Int32 × Int32 × List Int32)) (x1 : Int32) (x2 : Int32) (v_size : Int32) (v_draftCount : Int32) (v_place : Int32) (v_fault : Int32) (v_tape : List Int32) (v_draft : List Int32) : fX2_readOne_62 N go x1 x2 v_size v_draftCount v_place v_fault v_tape v_draft = mm_nm ((v_place + (1 : Int32))) (fun (y_20 : Int32) =>
    mm_bd4 (go (x1 + (1 : Int32)) v_size v_draftCount y_20 v_fault v_tape v_draft) (fun (w_21 : Int32) (w_22 : Int32) (w_23 : Int32) (w_24 : List Int32) =>
    if x2 = (33 : Int32) then
    (fX2_readOne_93 N go (33 : Int32) v_size w_21 w_22 w_23 v_tape w_24)
    else (fX2_readOne_93 N go (126 : Int32) v_size w_21 w_22 w_23 v_tape w_24))) := rfl

theorem uf_X2_readOne_93 (N : Nat) (go : Int32 → Int32 → Int32 → Int32 → Int32 → List Int32 → List Int32 → Option (Int32 × Int32 × Int32 × List Int32)) (s0 : Int32) (v_size : Int32) (v_draftCount : Int32) (v_place : Int32) (v_fault : Int32) (v_tape : List Int32) (v_draft : List Int32) : fX2_readOne_93 N go s0 v_size v_draftCount v_place v_fault v_tape v_draft = mm_bd2 (fX2_note N s0 v_draftCount v_draft) (fun (w_27 : Int32) (w_28 : List Int32) =>
    some (w_27, v_place, v_fault, w_28)) := rfl

theorem uf_X2_readOne_99 (N : Nat) (go : Int32 → Int32 → Int32 → Int32 → Int32 → List Int32 → List Int32 → Option (Int32 × Int32 × Int32 × List Int32)) (x1 : Int32) (x2 : Int32) (v_size : Int32) (v_draftCount : Int32) (v_place : Int32) (v_fault : Int32) (v_tape : List Int32) (v_draft : List Int32) : fX2_readOne_99 N go x1 x2 v_size v_draftCount v_place v_fault v_tape v_draft = if (6 : Int32) ≤ x1 then
    (fX2_readOne_157 N go v_size v_draftCount v_place v_fault v_tape v_draft)
    else (if x2 = (40 : Int32) then
    (mm_nm ((v_place + (1 : Int32))) (fun (y_32 : Int32) =>
    mm_bd4 (fX2_readEither N go (x1 + (1 : Int32)) v_size v_draftCount y_32 v_fault v_tape v_draft) (fun (w_33 : Int32) (w_34 : Int32) (w_35 : Int32) (w_36 : List Int32) =>
    mm_bd1 (fX2_meets N (41 : Int32) v_size w_34 w_35 v_tape) (fun (r_38 : Bool) =>
    if r_38 = false then
    (mm_bd1 (fX2_fail N w_34 w_35) (fun (w_41 : Int32) =>
    some (w_33, w_34, w_41, w_36)))
    else (mm_nm ((w_34 + (1 : Int32))) (fun (y_43 : Int32) =>
    some (w_33, y_43, w_35, w_36)))))))
    else (fX2_readOne_157 N go v_size v_draftCount v_place v_fault v_tape v_draft)) := rfl

theorem uf_X2_readOneo (N : Nat) (go : Int32 → Int32 → Int32 → Int32 → Int32 → List Int32 → List Int32 → Option (Int32 × Int32 × Int32 × List Int32)) (x1 : Int32) (v_size : Int32) (v_draftCount : Int32) (v_place : Int32) (v_fault : Int32) (v_tape : List Int32) (v_draft : List Int32) : fX2_readOneo N go x1 v_size v_draftCount v_place v_fault v_tape v_draft = mm_bd1 (fX2_next N v_size v_place v_tape) (fun (r_1 : Int32) =>
    mm_bd1 (fX2_isDigit N r_1) (fun (r_3 : Bool) =>
    if r_3 = false then
    (mm_bd1 (fX2_isName N r_1) (fun (r_6 : Bool) =>
    if r_6 = false then
    (if (6 : Int32) ≤ x1 then
    (fX2_readOne_99 N go x1 r_1 v_size v_draftCount v_place v_fault v_tape v_draft)
    else (if r_1 = (33 : Int32) then
    (fX2_readOne_62 N go x1 r_1 v_size v_draftCount v_place v_fault v_tape v_draft)
    else (if r_1 = (45 : Int32) then
    (fX2_readOne_62 N go x1 r_1 v_size v_draftCount v_place v_fault v_tape v_draft)
    else (fX2_readOne_99 N go x1 r_1 v_size v_draftCount v_place v_fault v_tape v_draft))))
    else (mm_nm ((v_place + (1 : Int32))) (fun (y_12 : Int32) =>
    mm_bd2 (fX2_note N r_1 v_draftCount v_draft) (fun (w_13 : Int32) (w_14 : List Int32) =>
    some (w_13, y_12, v_fault, w_14))))))
    else (mm_bd3 (fX2_readNumber N v_size v_draftCount v_place v_tape v_draft) (fun (w_16 : Int32) (w_17 : Int32) (w_18 : List Int32) =>
    some (w_16, w_17, v_fault, w_18))))) := rfl

set_option maxHeartbeats 4000000 in
set_option maxRecDepth 20000 in
theorem sf_X2_readOneo {N : Nat} (hN : 700 ≤ N) {K : Int} {go : Int32 → Int32 → Int32 → Int32 → Int32 → List Int32 → List Int32 → Option (Int32 × Int32 × Int32 × List Int32)} {x1 : Int32} {v_size : Int32} {v_draftCount : Int32} {v_place : Int32} {v_fault : Int32} {v_tape : List Int32} {v_draft : List Int32} (h_0 : 0 ≤ v_size.toInt) (h_1 : v_size.toInt ≤ 120) (h_2 : 0 ≤ v_draftCount.toInt) (h_3 : v_draftCount.toInt ≤ 121) (h_4 : v_tape.length = 120) (h_5 : v_draft.length = 121) (h_6 : 0 ≤ v_place.toInt) (h_7 : v_place.toInt ≤ v_size.toInt) (h_8 : 0 ≤ x1.toInt) (h_9 : x1.toInt ≤ 6) (hK : K ≤ x1.toInt + 1) (hgo : ∀ (x1 : Int32) (v_size : Int32) (v_draftCount : Int32) (v_place : Int32) (v_fault : Int32) (v_tape : List Int32) (v_draft : List Int32), 0 ≤ v_size.toInt → v_size.toInt ≤ 120 → 0 ≤ v_draftCount.toInt → v_draftCount.toInt ≤ 121 → v_tape.length = 120 → v_draft.length = 121 → 0 ≤ v_place.toInt → v_place.toInt ≤ v_size.toInt → 0 ≤ x1.toInt → x1.toInt ≤ 6 → K ≤ x1.toInt → wp (go x1 v_size v_draftCount v_place v_fault v_tape v_draft) (cu4 (fun (wv_draftCount : Int32) (wv_place : Int32) (wv_fault : Int32) (wv_draft : List Int32) => 0 ≤ wv_draftCount.toInt ∧ wv_draftCount.toInt ≤ 121 ∧ wv_draft.length = 121 ∧ v_place.toInt ≤ wv_place.toInt ∧ wv_place.toInt ≤ v_size.toInt))) : wp (fX2_readOneo N go x1 v_size v_draftCount v_place v_fault v_tape v_draft) (cu4 (fun (wv_draftCount : Int32) (wv_place : Int32) (wv_fault : Int32) (wv_draft : List Int32) => 0 ≤ wv_draftCount.toInt ∧ wv_draftCount.toInt ≤ 121 ∧ wv_draft.length = 121 ∧ v_place.toInt ≤ wv_place.toInt ∧ wv_place.toInt ≤ v_size.toInt)) := by
  refine wp_of (uf_X2_readOneo _ _ _ _ _ _ _ _ _) ?_
  refine wp_in1 ?_
  refine wp_of (uf_X2_next _ _ _ _) ?_
  refine wp_if (fun c_1 => ?_) (fun c_1 => ?_)
  ·
    have dc_1 := i_le c_1
    refine wp_so1 ?_
    show wp _ _
    refine wp_in1 ?_
    refine wp_of (uf_X2_isDigit _ _) ?_
    refine wp_ifp (by decide) ?_
    refine wp_so1 ?_
    show wp _ _
    refine wp_ifp (by decide) ?_
    refine wp_in1 ?_
    refine wp_of (uf_X2_isName _ _) ?_
    refine wp_ifn (by decide) ?_
    refine wp_ifn (by decide) ?_
    refine wp_ifn (by decide) ?_
    refine wp_ifn (by decide) ?_
    refine wp_ifn (by decide) ?_
    refine wp_ifn (by decide) ?_
    refine wp_so1 ?_
    show wp _ _
    refine wp_ifp (by decide) ?_
    have n_3 : (6 : Int32).toInt = 6 := by decide
    refine wp_if (fun c_2 => ?_) (fun c_2 => ?_)
    ·
      have dc_2 := i_le c_2
      refine wp_of (uf_X2_readOne_99 _ _ _ _ _ _ _ _ _ _) ?_
      refine wp_ifp c_2 ?_
      refine wp_of (uf_X2_readOne_157 _ _ _ _ _ _ _ _) ?_
      refine wp_bd1 (sf_X2_fail hN ) (fun w_44 _ => ?_)
      exact wp_so4 ⟨h_2, h_3, h_5, (by omega), h_7⟩
    ·
      have dc_2 := i_nle c_2
      refine wp_ifn (by decide) ?_
      refine wp_ifn (by decide) ?_
      refine wp_of (uf_X2_readOne_99 _ _ _ _ _ _ _ _ _ _) ?_
      refine wp_ifn c_2 ?_
      refine wp_ifn (by decide) ?_
      refine wp_of (uf_X2_readOne_157 _ _ _ _ _ _ _ _) ?_
      refine wp_bd1 (sf_X2_fail hN ) (fun w_44__4 _ => ?_)
      exact wp_so4 ⟨h_2, h_3, h_5, (by omega), h_7⟩
  ·
    have dc_1 := i_nle c_1
    refine wp_ck (i_inb (by omega) (by omega)) ?_
    refine wp_so1 ?_
    show wp _ _
    refine wp_in1 ?_
    refine wp_of (uf_X2_isDigit _ _) ?_
    have n_6 : (48 : Int32).toInt = 48 := by decide
    refine wp_if (fun c_5 => ?_) (fun c_5 => ?_)
    ·
      have dc_5 := i_lt c_5
      refine wp_so1 ?_
      show wp _ _
      refine wp_ifp (by decide) ?_
      refine wp_in1 ?_
      refine wp_of (uf_X2_isName _ _) ?_
      have n_8 : (98 : Int32).toInt = 98 := by decide
      refine wp_if (fun c_7 => ?_) (fun c_7 => ?_)
      ·
        have dc_7 := i_eq c_7
        refine wp_so1 ?_
        show wp _ _
        refine wp_ifn (by decide) ?_
        have n_9 : (1 : Int32).toInt = 1 := by decide
        refine wp_nm (fun y_12 h_y_12 => ?_)
        have e_10 := i_addE h_y_12.symm (by omega) (by omega)
        refine wp_bd2 (sf_X2_note hN h_2 h_3 h_5) (fun w_13 w_14 ⟨q_11, q_12, q_13⟩ => ?_)
        exact wp_so4 ⟨q_11, q_12, q_13, (by omega), (by omega)⟩
      ·
        have dc_7 := i_ne c_7
        have n_15 : (102 : Int32).toInt = 102 := by decide
        refine wp_if (fun c_14 => ?_) (fun c_14 => ?_)
        ·
          have dc_14 := i_eq c_14
          refine wp_so1 ?_
          show wp _ _
          refine wp_ifn (by decide) ?_
          have n_17 : (1 : Int32).toInt = 1 := by decide
          refine wp_nm (fun y_12__16 h_y_12__16 => ?_)
          have e_18 := i_addE h_y_12__16.symm (by omega) (by omega)
          refine wp_bd2 (sf_X2_note hN h_2 h_3 h_5) (fun w_13__19 w_14__20 ⟨q_21, q_22, q_23⟩ => ?_)
          exact wp_so4 ⟨q_21, q_22, q_23, (by omega), (by omega)⟩
        ·
          have dc_14 := i_ne c_14
          have n_25 : (107 : Int32).toInt = 107 := by decide
          refine wp_if (fun c_24 => ?_) (fun c_24 => ?_)
          ·
            have dc_24 := i_eq c_24
            refine wp_so1 ?_
            show wp _ _
            refine wp_ifn (by decide) ?_
            have n_27 : (1 : Int32).toInt = 1 := by decide
            refine wp_nm (fun y_12__26 h_y_12__26 => ?_)
            have e_28 := i_addE h_y_12__26.symm (by omega) (by omega)
            refine wp_bd2 (sf_X2_note hN h_2 h_3 h_5) (fun w_13__29 w_14__30 ⟨q_31, q_32, q_33⟩ => ?_)
            exact wp_so4 ⟨q_31, q_32, q_33, (by omega), (by omega)⟩
          ·
            have dc_24 := i_ne c_24
            have n_35 : (110 : Int32).toInt = 110 := by decide
            refine wp_if (fun c_34 => ?_) (fun c_34 => ?_)
            ·
              have dc_34 := i_eq c_34
              refine wp_so1 ?_
              show wp _ _
              refine wp_ifn (by decide) ?_
              have n_37 : (1 : Int32).toInt = 1 := by decide
              refine wp_nm (fun y_12__36 h_y_12__36 => ?_)
              have e_38 := i_addE h_y_12__36.symm (by omega) (by omega)
              refine wp_bd2 (sf_X2_note hN h_2 h_3 h_5) (fun w_13__39 w_14__40 ⟨q_41, q_42, q_43⟩ => ?_)
              exact wp_so4 ⟨q_41, q_42, q_43, (by omega), (by omega)⟩
            ·
              have dc_34 := i_ne c_34
              have n_45 : (114 : Int32).toInt = 114 := by decide
              refine wp_if (fun c_44 => ?_) (fun c_44 => ?_)
              ·
                have dc_44 := i_eq c_44
                refine wp_so1 ?_
                show wp _ _
                refine wp_ifn (by decide) ?_
                have n_47 : (1 : Int32).toInt = 1 := by decide
                refine wp_nm (fun y_12__46 h_y_12__46 => ?_)
                have e_48 := i_addE h_y_12__46.symm (by omega) (by omega)
                refine wp_bd2 (sf_X2_note hN h_2 h_3 h_5) (fun w_13__49 w_14__50 ⟨q_51, q_52, q_53⟩ => ?_)
                exact wp_so4 ⟨q_51, q_52, q_53, (by omega), (by omega)⟩
              ·
                have dc_44 := i_ne c_44
                have n_55 : (119 : Int32).toInt = 119 := by decide
                refine wp_if (fun c_54 => ?_) (fun c_54 => ?_)
                ·
                  have dc_54 := i_eq c_54
                  refine wp_so1 ?_
                  show wp _ _
                  refine wp_ifn (by decide) ?_
                  have n_57 : (1 : Int32).toInt = 1 := by decide
                  refine wp_nm (fun y_12__56 h_y_12__56 => ?_)
                  have e_58 := i_addE h_y_12__56.symm (by omega) (by omega)
                  refine wp_bd2 (sf_X2_note hN h_2 h_3 h_5) (fun w_13__59 w_14__60 ⟨q_61, q_62, q_63⟩ => ?_)
                  exact wp_so4 ⟨q_61, q_62, q_63, (by omega), (by omega)⟩
                ·
                  have dc_54 := i_ne c_54
                  refine wp_so1 ?_
                  show wp _ _
                  refine wp_ifp (by decide) ?_
                  have n_65 : (6 : Int32).toInt = 6 := by decide
                  refine wp_if (fun c_64 => ?_) (fun c_64 => ?_)
                  ·
                    have dc_64 := i_le c_64
                    refine wp_of (uf_X2_readOne_99 _ _ _ _ _ _ _ _ _ _) ?_
                    refine wp_ifp c_64 ?_
                    refine wp_of (uf_X2_readOne_157 _ _ _ _ _ _ _ _) ?_
                    refine wp_bd1 (sf_X2_fail hN ) (fun w_44__66 _ => ?_)
                    exact wp_so4 ⟨h_2, h_3, h_5, (by omega), h_7⟩
                  ·
                    have dc_64 := i_nle c_64
                    have n_68 : (33 : Int32).toInt = 33 := by decide
                    refine wp_if (fun c_67 => ?_) (fun c_67 => ?_)
                    ·
                      have dc_67 := i_eq c_67
                      refine wp_of (uf_X2_readOne_62 _ _ _ _ _ _ _ _ _ _) ?_
                      have n_69 : (1 : Int32).toInt = 1 := by decide
                      refine wp_nm (fun y_20 h_y_20 => ?_)
                      have e_70 := i_addE h_y_20.symm (by omega) (by omega)
                      generalize hz_z : (x1 + (1 : Int32)) = z
                      have e_71 := i_addE hz_z (by omega) (by omega)
                      refine wp_bd4 (hgo _ _ _ _ _ _ _ h_0 h_1 h_2 h_3 h_4 h_5 (by omega) (by omega) (by omega) (by omega) (by omega)) (fun w_21 w_22 w_23 w_24 ⟨q_72, q_73, q_74, q_75, q_76⟩ => ?_)
                      refine wp_ifp c_67 ?_
                      refine wp_of (uf_X2_readOne_93 _ _ _ _ _ _ _ _ _) ?_
                      refine wp_bd2 (sf_X2_note hN q_72 q_73 q_74) (fun w_27 w_28 ⟨q_77, q_78, q_79⟩ => ?_)
                      exact wp_so4 ⟨q_77, q_78, q_79, (by omega), q_76⟩
                    ·
                      have dc_67 := i_ne c_67
                      have n_81 : (45 : Int32).toInt = 45 := by decide
                      refine wp_if (fun c_80 => ?_) (fun c_80 => ?_)
                      ·
                        have dc_80 := i_eq c_80
                        refine wp_of (uf_X2_readOne_62 _ _ _ _ _ _ _ _ _ _) ?_
                        have n_83 : (1 : Int32).toInt = 1 := by decide
                        refine wp_nm (fun y_20__82 h_y_20__82 => ?_)
                        have e_84 := i_addE h_y_20__82.symm (by omega) (by omega)
                        generalize hz_z__85 : (x1 + (1 : Int32)) = z__85
                        have e_86 := i_addE hz_z__85 (by omega) (by omega)
                        refine wp_bd4 (hgo _ _ _ _ _ _ _ h_0 h_1 h_2 h_3 h_4 h_5 (by omega) (by omega) (by omega) (by omega) (by omega)) (fun w_21__87 w_22__88 w_23__89 w_24__90 ⟨q_91, q_92, q_93, q_94, q_95⟩ => ?_)
                        refine wp_ifn c_67 ?_
                        refine wp_of (uf_X2_readOne_93 _ _ _ _ _ _ _ _ _) ?_
                        refine wp_bd2 (sf_X2_note hN q_91 q_92 q_93) (fun w_27__96 w_28__97 ⟨q_98, q_99, q_100⟩ => ?_)
                        exact wp_so4 ⟨q_98, q_99, q_100, (by omega), q_95⟩
                      ·
                        have dc_80 := i_ne c_80
                        refine wp_of (uf_X2_readOne_99 _ _ _ _ _ _ _ _ _ _) ?_
                        refine wp_ifn c_64 ?_
                        have n_102 : (40 : Int32).toInt = 40 := by decide
                        refine wp_if (fun c_101 => ?_) (fun c_101 => ?_)
                        ·
                          have dc_101 := i_eq c_101
                          have n_103 : (1 : Int32).toInt = 1 := by decide
                          refine wp_nm (fun y_32 h_y_32 => ?_)
                          have e_104 := i_addE h_y_32.symm (by omega) (by omega)
                          generalize hz_z__105 : (x1 + (1 : Int32)) = z__105
                          have e_106 := i_addE hz_z__105 (by omega) (by omega)
                          refine wp_bd4 (sf_X2_readEither hN h_0 h_1 h_2 h_3 h_4 h_5 (by omega) (by omega) (by omega) (by omega) (by omega) hgo) (fun w_33 w_34 w_35 w_36 ⟨q_107, q_108, q_109, q_110, q_111⟩ => ?_)
                          have n_112 : (41 : Int32).toInt = 41 := by decide
                          refine wp_bd1 (sf_X2_meets hN h_0 h_1 h_4 (by omega) (by omega)) (fun r_38 q_113 => ?_)
                          rcases q_113 with ⟨rfl, q_113⟩ | ⟨rfl, q_113⟩
                          ·
                            refine wp_ifn (by decide) ?_
                            refine wp_nm (fun y_43 h_y_43 => ?_)
                            have e_114 := i_addE h_y_43.symm (by omega) (by omega)
                            exact wp_so4 ⟨q_107, q_108, q_109, (by omega), (by omega)⟩
                          ·
                            refine wp_ifp (by decide) ?_
                            refine wp_bd1 (sf_X2_fail hN ) (fun w_41 _ => ?_)
                            exact wp_so4 ⟨q_107, q_108, q_109, (by omega), q_111⟩
                        ·
                          have dc_101 := i_ne c_101
                          refine wp_of (uf_X2_readOne_157 _ _ _ _ _ _ _ _) ?_
                          refine wp_bd1 (sf_X2_fail hN ) (fun w_44__115 _ => ?_)
                          exact wp_so4 ⟨h_2, h_3, h_5, (by omega), h_7⟩
    ·
      have dc_5 := i_nlt c_5
      have n_117 : (57 : Int32).toInt = 57 := by decide
      refine wp_if (fun c_116 => ?_) (fun c_116 => ?_)
      ·
        have dc_116 := i_lt c_116
        refine wp_so1 ?_
        show wp _ _
        refine wp_ifp (by decide) ?_
        refine wp_in1 ?_
        refine wp_of (uf_X2_isName _ _) ?_
        have n_119 : (98 : Int32).toInt = 98 := by decide
        refine wp_if (fun c_118 => ?_) (fun c_118 => ?_)
        ·
          have dc_118 := i_eq c_118
          refine wp_so1 ?_
          show wp _ _
          refine wp_ifn (by decide) ?_
          have n_121 : (1 : Int32).toInt = 1 := by decide
          refine wp_nm (fun y_12__120 h_y_12__120 => ?_)
          have e_122 := i_addE h_y_12__120.symm (by omega) (by omega)
          refine wp_bd2 (sf_X2_note hN h_2 h_3 h_5) (fun w_13__123 w_14__124 ⟨q_125, q_126, q_127⟩ => ?_)
          exact wp_so4 ⟨q_125, q_126, q_127, (by omega), (by omega)⟩
        ·
          have dc_118 := i_ne c_118
          have n_129 : (102 : Int32).toInt = 102 := by decide
          refine wp_if (fun c_128 => ?_) (fun c_128 => ?_)
          ·
            have dc_128 := i_eq c_128
            refine wp_so1 ?_
            show wp _ _
            refine wp_ifn (by decide) ?_
            have n_131 : (1 : Int32).toInt = 1 := by decide
            refine wp_nm (fun y_12__130 h_y_12__130 => ?_)
            have e_132 := i_addE h_y_12__130.symm (by omega) (by omega)
            refine wp_bd2 (sf_X2_note hN h_2 h_3 h_5) (fun w_13__133 w_14__134 ⟨q_135, q_136, q_137⟩ => ?_)
            exact wp_so4 ⟨q_135, q_136, q_137, (by omega), (by omega)⟩
          ·
            have dc_128 := i_ne c_128
            have n_139 : (107 : Int32).toInt = 107 := by decide
            refine wp_if (fun c_138 => ?_) (fun c_138 => ?_)
            ·
              have dc_138 := i_eq c_138
              refine wp_so1 ?_
              show wp _ _
              refine wp_ifn (by decide) ?_
              have n_141 : (1 : Int32).toInt = 1 := by decide
              refine wp_nm (fun y_12__140 h_y_12__140 => ?_)
              have e_142 := i_addE h_y_12__140.symm (by omega) (by omega)
              refine wp_bd2 (sf_X2_note hN h_2 h_3 h_5) (fun w_13__143 w_14__144 ⟨q_145, q_146, q_147⟩ => ?_)
              exact wp_so4 ⟨q_145, q_146, q_147, (by omega), (by omega)⟩
            ·
              have dc_138 := i_ne c_138
              have n_149 : (110 : Int32).toInt = 110 := by decide
              refine wp_if (fun c_148 => ?_) (fun c_148 => ?_)
              ·
                have dc_148 := i_eq c_148
                refine wp_so1 ?_
                show wp _ _
                refine wp_ifn (by decide) ?_
                have n_151 : (1 : Int32).toInt = 1 := by decide
                refine wp_nm (fun y_12__150 h_y_12__150 => ?_)
                have e_152 := i_addE h_y_12__150.symm (by omega) (by omega)
                refine wp_bd2 (sf_X2_note hN h_2 h_3 h_5) (fun w_13__153 w_14__154 ⟨q_155, q_156, q_157⟩ => ?_)
                exact wp_so4 ⟨q_155, q_156, q_157, (by omega), (by omega)⟩
              ·
                have dc_148 := i_ne c_148
                have n_159 : (114 : Int32).toInt = 114 := by decide
                refine wp_if (fun c_158 => ?_) (fun c_158 => ?_)
                ·
                  have dc_158 := i_eq c_158
                  refine wp_so1 ?_
                  show wp _ _
                  refine wp_ifn (by decide) ?_
                  have n_161 : (1 : Int32).toInt = 1 := by decide
                  refine wp_nm (fun y_12__160 h_y_12__160 => ?_)
                  have e_162 := i_addE h_y_12__160.symm (by omega) (by omega)
                  refine wp_bd2 (sf_X2_note hN h_2 h_3 h_5) (fun w_13__163 w_14__164 ⟨q_165, q_166, q_167⟩ => ?_)
                  exact wp_so4 ⟨q_165, q_166, q_167, (by omega), (by omega)⟩
                ·
                  have dc_158 := i_ne c_158
                  have n_169 : (119 : Int32).toInt = 119 := by decide
                  refine wp_if (fun c_168 => ?_) (fun c_168 => ?_)
                  ·
                    have dc_168 := i_eq c_168
                    refine wp_so1 ?_
                    show wp _ _
                    refine wp_ifn (by decide) ?_
                    have n_171 : (1 : Int32).toInt = 1 := by decide
                    refine wp_nm (fun y_12__170 h_y_12__170 => ?_)
                    have e_172 := i_addE h_y_12__170.symm (by omega) (by omega)
                    refine wp_bd2 (sf_X2_note hN h_2 h_3 h_5) (fun w_13__173 w_14__174 ⟨q_175, q_176, q_177⟩ => ?_)
                    exact wp_so4 ⟨q_175, q_176, q_177, (by omega), (by omega)⟩
                  ·
                    have dc_168 := i_ne c_168
                    refine wp_so1 ?_
                    show wp _ _
                    refine wp_ifp (by decide) ?_
                    have n_179 : (6 : Int32).toInt = 6 := by decide
                    refine wp_if (fun c_178 => ?_) (fun c_178 => ?_)
                    ·
                      have dc_178 := i_le c_178
                      refine wp_of (uf_X2_readOne_99 _ _ _ _ _ _ _ _ _ _) ?_
                      refine wp_ifp c_178 ?_
                      refine wp_of (uf_X2_readOne_157 _ _ _ _ _ _ _ _) ?_
                      refine wp_bd1 (sf_X2_fail hN ) (fun w_44__180 _ => ?_)
                      exact wp_so4 ⟨h_2, h_3, h_5, (by omega), h_7⟩
                    ·
                      have dc_178 := i_nle c_178
                      have n_182 : (33 : Int32).toInt = 33 := by decide
                      refine wp_if (fun c_181 => ?_) (fun c_181 => ?_)
                      ·
                        have dc_181 := i_eq c_181
                        refine wp_of (uf_X2_readOne_62 _ _ _ _ _ _ _ _ _ _) ?_
                        have n_184 : (1 : Int32).toInt = 1 := by decide
                        refine wp_nm (fun y_20__183 h_y_20__183 => ?_)
                        have e_185 := i_addE h_y_20__183.symm (by omega) (by omega)
                        generalize hz_z__186 : (x1 + (1 : Int32)) = z__186
                        have e_187 := i_addE hz_z__186 (by omega) (by omega)
                        refine wp_bd4 (hgo _ _ _ _ _ _ _ h_0 h_1 h_2 h_3 h_4 h_5 (by omega) (by omega) (by omega) (by omega) (by omega)) (fun w_21__188 w_22__189 w_23__190 w_24__191 ⟨q_192, q_193, q_194, q_195, q_196⟩ => ?_)
                        refine wp_ifp c_181 ?_
                        refine wp_of (uf_X2_readOne_93 _ _ _ _ _ _ _ _ _) ?_
                        refine wp_bd2 (sf_X2_note hN q_192 q_193 q_194) (fun w_27__197 w_28__198 ⟨q_199, q_200, q_201⟩ => ?_)
                        exact wp_so4 ⟨q_199, q_200, q_201, (by omega), q_196⟩
                      ·
                        have dc_181 := i_ne c_181
                        have n_203 : (45 : Int32).toInt = 45 := by decide
                        refine wp_if (fun c_202 => ?_) (fun c_202 => ?_)
                        ·
                          have dc_202 := i_eq c_202
                          refine wp_of (uf_X2_readOne_62 _ _ _ _ _ _ _ _ _ _) ?_
                          have n_205 : (1 : Int32).toInt = 1 := by decide
                          refine wp_nm (fun y_20__204 h_y_20__204 => ?_)
                          have e_206 := i_addE h_y_20__204.symm (by omega) (by omega)
                          generalize hz_z__207 : (x1 + (1 : Int32)) = z__207
                          have e_208 := i_addE hz_z__207 (by omega) (by omega)
                          refine wp_bd4 (hgo _ _ _ _ _ _ _ h_0 h_1 h_2 h_3 h_4 h_5 (by omega) (by omega) (by omega) (by omega) (by omega)) (fun w_21__209 w_22__210 w_23__211 w_24__212 ⟨q_213, q_214, q_215, q_216, q_217⟩ => ?_)
                          refine wp_ifn c_181 ?_
                          refine wp_of (uf_X2_readOne_93 _ _ _ _ _ _ _ _ _) ?_
                          refine wp_bd2 (sf_X2_note hN q_213 q_214 q_215) (fun w_27__218 w_28__219 ⟨q_220, q_221, q_222⟩ => ?_)
                          exact wp_so4 ⟨q_220, q_221, q_222, (by omega), q_217⟩
                        ·
                          have dc_202 := i_ne c_202
                          refine wp_of (uf_X2_readOne_99 _ _ _ _ _ _ _ _ _ _) ?_
                          refine wp_ifn c_178 ?_
                          have n_224 : (40 : Int32).toInt = 40 := by decide
                          refine wp_if (fun c_223 => ?_) (fun c_223 => ?_)
                          ·
                            have dc_223 := i_eq c_223
                            have n_226 : (1 : Int32).toInt = 1 := by decide
                            refine wp_nm (fun y_32__225 h_y_32__225 => ?_)
                            have e_227 := i_addE h_y_32__225.symm (by omega) (by omega)
                            generalize hz_z__228 : (x1 + (1 : Int32)) = z__228
                            have e_229 := i_addE hz_z__228 (by omega) (by omega)
                            refine wp_bd4 (sf_X2_readEither hN h_0 h_1 h_2 h_3 h_4 h_5 (by omega) (by omega) (by omega) (by omega) (by omega) hgo) (fun w_33__230 w_34__231 w_35__232 w_36__233 ⟨q_234, q_235, q_236, q_237, q_238⟩ => ?_)
                            have n_239 : (41 : Int32).toInt = 41 := by decide
                            refine wp_bd1 (sf_X2_meets hN h_0 h_1 h_4 (by omega) (by omega)) (fun r_38__240 q_241 => ?_)
                            rcases q_241 with ⟨rfl, q_241⟩ | ⟨rfl, q_241⟩
                            ·
                              refine wp_ifn (by decide) ?_
                              refine wp_nm (fun y_43__242 h_y_43__242 => ?_)
                              have e_243 := i_addE h_y_43__242.symm (by omega) (by omega)
                              exact wp_so4 ⟨q_234, q_235, q_236, (by omega), (by omega)⟩
                            ·
                              refine wp_ifp (by decide) ?_
                              refine wp_bd1 (sf_X2_fail hN ) (fun w_41__244 _ => ?_)
                              exact wp_so4 ⟨q_234, q_235, q_236, (by omega), q_238⟩
                          ·
                            have dc_223 := i_ne c_223
                            refine wp_of (uf_X2_readOne_157 _ _ _ _ _ _ _ _) ?_
                            refine wp_bd1 (sf_X2_fail hN ) (fun w_44__245 _ => ?_)
                            exact wp_so4 ⟨h_2, h_3, h_5, (by omega), h_7⟩
      ·
        have dc_116 := i_nlt c_116
        refine wp_so1 ?_
        show wp _ _
        refine wp_ifn (by decide) ?_
        refine wp_bd3 (sf_X2_readNumber hN h_0 h_1 h_2 h_3 h_4 h_5 h_6 h_7) (fun w_16 w_17 w_18 ⟨q_246, q_247, q_248, q_249, q_250⟩ => ?_)
        exact wp_so4 ⟨q_246, q_247, q_248, q_249, q_250⟩
set_option maxHeartbeats 4000000 in
set_option maxRecDepth 20000 in
theorem sf_X2_readOne {N : Nat} (hN : 700 ≤ N) : ∀ (M : Nat) (x1 : Int32) (v_size : Int32) (v_draftCount : Int32) (v_place : Int32) (v_fault : Int32) (v_tape : List Int32) (v_draft : List Int32), 0 ≤ v_size.toInt → v_size.toInt ≤ 120 → 0 ≤ v_draftCount.toInt → v_draftCount.toInt ≤ 121 → v_tape.length = 120 → v_draft.length = 121 → 0 ≤ v_place.toInt → v_place.toInt ≤ v_size.toInt → 0 ≤ x1.toInt → x1.toInt ≤ 6 → 7 - (M : Int) ≤ x1.toInt → wp (fX2_readOne N M x1 v_size v_draftCount v_place v_fault v_tape v_draft) (cu4 (fun (wv_draftCount : Int32) (wv_place : Int32) (wv_fault : Int32) (wv_draft : List Int32) => 0 ≤ wv_draftCount.toInt ∧ wv_draftCount.toInt ≤ 121 ∧ wv_draft.length = 121 ∧ v_place.toInt ≤ wv_place.toInt ∧ wv_place.toInt ≤ v_size.toInt)) := by
  intro M
  induction M with
  | zero =>
    intro x1 v_size v_draftCount v_place v_fault v_tape v_draft h_0 h_1 h_2 h_3 h_4 h_5 h_6 h_7 h_8 h_9 hK
    exact absurd hK (by omega)
  | succ M ih =>
    intro x1 v_size v_draftCount v_place v_fault v_tape v_draft h_0 h_1 h_2 h_3 h_4 h_5 h_6 h_7 h_8 h_9 hK
    rw [uf_X2_readOne]
    exact sf_X2_readOneo (K := 7 - (M : Int)) hN h_0 h_1 h_2 h_3 h_4 h_5 h_6 h_7 h_8 h_9 (by omega) ih
set_option maxHeartbeats 4000000 in
set_option maxRecDepth 20000 in
theorem sf_X2_readOne_go {N : Nat} (hN : 700 ≤ N) : ∀ (x1 : Int32) (v_size : Int32) (v_draftCount : Int32) (v_place : Int32) (v_fault : Int32) (v_tape : List Int32) (v_draft : List Int32), 0 ≤ v_size.toInt → v_size.toInt ≤ 120 → 0 ≤ v_draftCount.toInt → v_draftCount.toInt ≤ 121 → v_tape.length = 120 → v_draft.length = 121 → 0 ≤ v_place.toInt → v_place.toInt ≤ v_size.toInt → 0 ≤ x1.toInt → x1.toInt ≤ 6 → (0 : Int) ≤ x1.toInt → wp (fX2_readOne N 8 x1 v_size v_draftCount v_place v_fault v_tape v_draft) (cu4 (fun (wv_draftCount : Int32) (wv_place : Int32) (wv_fault : Int32) (wv_draft : List Int32) => 0 ≤ wv_draftCount.toInt ∧ wv_draftCount.toInt ≤ 121 ∧ wv_draft.length = 121 ∧ v_place.toInt ≤ wv_place.toInt ∧ wv_place.toInt ≤ v_size.toInt)) := fun x1 v_size v_draftCount v_place v_fault v_tape v_draft h_0 h_1 h_2 h_3 h_4 h_5 h_6 h_7 h_8 h_9 _ => sf_X2_readOne hN 8 x1 v_size v_draftCount v_place v_fault v_tape v_draft h_0 h_1 h_2 h_3 h_4 h_5 h_6 h_7 h_8 h_9 (by omega)
set_option maxHeartbeats 4000000 in
set_option maxRecDepth 20000 in
theorem sf_X2_readOne_at {N : Nat} {M : Nat} (hN : 700 ≤ N) {x1 : Int32} {v_size : Int32} {v_draftCount : Int32} {v_place : Int32} {v_fault : Int32} {v_tape : List Int32} {v_draft : List Int32} (h_0 : 0 ≤ v_size.toInt) (h_1 : v_size.toInt ≤ 120) (h_2 : 0 ≤ v_draftCount.toInt) (h_3 : v_draftCount.toInt ≤ 121) (h_4 : v_tape.length = 120) (h_5 : v_draft.length = 121) (h_6 : 0 ≤ v_place.toInt) (h_7 : v_place.toInt ≤ v_size.toInt) (h_8 : 0 ≤ x1.toInt) (h_9 : x1.toInt ≤ 6) (hK : 7 - (M : Int) ≤ x1.toInt) : wp (fX2_readOne N M x1 v_size v_draftCount v_place v_fault v_tape v_draft) (cu4 (fun (wv_draftCount : Int32) (wv_place : Int32) (wv_fault : Int32) (wv_draft : List Int32) => 0 ≤ wv_draftCount.toInt ∧ wv_draftCount.toInt ≤ 121 ∧ wv_draft.length = 121 ∧ v_place.toInt ≤ wv_place.toInt ∧ wv_place.toInt ≤ v_size.toInt)) := sf_X2_readOne hN M x1 v_size v_draftCount v_place v_fault v_tape v_draft h_0 h_1 h_2 h_3 h_4 h_5 h_6 h_7 h_8 h_9 hK

theorem uf_X2_readLine (N : Nat) (v_size : Int32) (v_draftCount : Int32) (v_place : Int32) (v_fault : Int32) (v_tape : List Int32) (v_draft : List Int32) : fX2_readLine N v_size v_draftCount v_place v_fault v_tape v_draft = mm_bd4 (fX2_readEither N (fX2_readOne N 8) (0 : Int32) v_size v_draftCount v_place v_fault v_tape v_draft) (fun (w_1 : Int32) (w_2 : Int32) (w_3 : Int32) (w_4 : List Int32) =>
    mm_bd1 (fX2_meets N (63 : Int32) v_size w_2 w_3 v_tape) (fun (r_6 : Bool) =>
    if r_6 = false then
    (fX2_readLine_35 N v_size w_1 w_2 w_3 v_tape w_4)
    else (mm_nm ((w_2 + (1 : Int32))) (fun (y_9 : Int32) =>
    mm_bd2 (fX2_note N (63 : Int32) w_1 w_4) (fun (w_10 : Int32) (w_11 : List Int32) =>
    mm_bd4 (fX2_readEither N (fX2_readOne N 8) (0 : Int32) v_size w_10 y_9 w_3 v_tape w_11) (fun (w_13 : Int32) (w_14 : Int32) (w_15 : Int32) (w_16 : List Int32) =>
    fX2_readLine_35 N v_size w_13 w_14 w_15 v_tape w_16)))))) := rfl

theorem uf_X2_readLine_35 (N : Nat) (v_size : Int32) (v_draftCount : Int32) (v_place : Int32) (v_fault : Int32) (v_tape : List Int32) (v_draft : List Int32) : fX2_readLine_35 N v_size v_draftCount v_place v_fault v_tape v_draft = mm_bd2 (fX2_note N (59 : Int32) v_draftCount v_draft) (fun (w_18 : Int32) (w_19 : List Int32) =>
    some (w_18, v_place, v_fault, w_19)) := rfl

set_option maxHeartbeats 4000000 in
set_option maxRecDepth 20000 in
theorem sf_X2_readLine {N : Nat} (hN : 700 ≤ N) {v_size : Int32} {v_draftCount : Int32} {v_place : Int32} {v_fault : Int32} {v_tape : List Int32} {v_draft : List Int32} (h_0 : 0 ≤ v_size.toInt) (h_1 : v_size.toInt ≤ 120) (h_2 : 0 ≤ v_draftCount.toInt) (h_3 : v_draftCount.toInt ≤ 121) (h_4 : v_tape.length = 120) (h_5 : v_draft.length = 121) (h_6 : 0 ≤ v_place.toInt) (h_7 : v_place.toInt ≤ v_size.toInt) : wp (fX2_readLine N v_size v_draftCount v_place v_fault v_tape v_draft) (cu4 (fun (wv_draftCount : Int32) (wv_place : Int32) (wv_fault : Int32) (wv_draft : List Int32) => 0 ≤ wv_draftCount.toInt ∧ wv_draftCount.toInt ≤ 121 ∧ wv_draft.length = 121 ∧ v_place.toInt ≤ wv_place.toInt ∧ wv_place.toInt ≤ v_size.toInt)) := by
  refine wp_of (uf_X2_readLine _ _ _ _ _ _ _) ?_
  have n_1 : (0 : Int32).toInt = 0 := by decide
  refine wp_bd4 (sf_X2_readEither hN h_0 h_1 h_2 h_3 h_4 h_5 h_6 h_7 (by omega) (by omega) (by omega) (sf_X2_readOne_go hN)) (fun w_1 w_2 w_3 w_4 ⟨q_2, q_3, q_4, q_5, q_6⟩ => ?_)
  have n_7 : (63 : Int32).toInt = 63 := by decide
  refine wp_bd1 (sf_X2_meets hN h_0 h_1 h_4 (by omega) (by omega)) (fun r_6 q_8 => ?_)
  rcases q_8 with ⟨rfl, q_8⟩ | ⟨rfl, q_8⟩
  ·
    refine wp_ifn (by decide) ?_
    have n_9 : (1 : Int32).toInt = 1 := by decide
    refine wp_nm (fun y_9 h_y_9 => ?_)
    have e_10 := i_addE h_y_9.symm (by omega) (by omega)
    refine wp_bd2 (sf_X2_note hN q_2 q_3 q_4) (fun w_10 w_11 ⟨q_11, q_12, q_13⟩ => ?_)
    refine wp_bd4 (sf_X2_readEither hN h_0 h_1 q_11 q_12 h_4 q_13 (by omega) (by omega) (by omega) (by omega) (by omega) (sf_X2_readOne_go hN)) (fun w_13 w_14 w_15 w_16 ⟨q_14, q_15, q_16, q_17, q_18⟩ => ?_)
    refine wp_of (uf_X2_readLine_35 _ _ _ _ _ _ _) ?_
    refine wp_bd2 (sf_X2_note hN q_14 q_15 q_16) (fun w_18 w_19 ⟨q_19, q_20, q_21⟩ => ?_)
    exact wp_so4 ⟨q_19, q_20, q_21, (by omega), q_18⟩
  ·
    refine wp_ifp (by decide) ?_
    refine wp_of (uf_X2_readLine_35 _ _ _ _ _ _ _) ?_
    refine wp_bd2 (sf_X2_note hN q_2 q_3 q_4) (fun w_18__22 w_19__23 ⟨q_24, q_25, q_26⟩ => ?_)
    exact wp_so4 ⟨q_24, q_25, q_26, q_5, q_6⟩

theorem uf_X2_readTape_108 (N : Nat) (v_size : Int32) (v_stepCount : Int32) (v_draftCount : Int32) (v_place : Int32) (v_fault : Int32) (v_tape : List Int32) (v_steps : List Int32) (v_draft : List Int32) : fX2_readTape_108 N v_size v_stepCount v_draftCount v_place v_fault v_tape v_steps v_draft = some (v_fault, v_size, v_stepCount, v_draftCount, v_place, v_fault, v_steps, v_draft) := rfl

theorem uf_X2_readTape_21 (N : Nat) (n : Nat) (x1 : Int32) (v_size : Int32) (v_stepCount : Int32) (v_draftCount : Int32) (v_place : Int32) (v_fault : Int32) (v_tape : List Int32) (v_steps : List Int32) (v_draft : List Int32) : fX2_readTape_21 N (n + 1) x1 v_size v_stepCount v_draftCount v_place v_fault v_tape v_steps v_draft = 
    if (120 : Int32) ≤ x1 then
    (fX2_readTape_56 N v_size v_stepCount v_draftCount v_place v_fault v_tape v_steps v_draft)
    else (mm_bd1 (fX2_meets N (59 : Int32) v_size v_place v_fault v_tape) (fun (r_7 : Bool) =>
    if r_7 = false then
    (fX2_readTape_56 N v_size v_stepCount v_draftCount v_place v_fault v_tape v_steps v_draft)
    else (mm_nm ((v_place + (1 : Int32))) (fun (y_10 : Int32) =>
    mm_bd4 (fX2_readLine N v_size v_draftCount y_10 v_fault v_tape v_draft) (fun (w_11 : Int32) (w_12 : Int32) (w_13 : Int32) (w_14 : List Int32) =>
    mm_nm (x1 + (1 : Int32)) (fun (y_16 : Int32) =>
    fX2_readTape_21 N n y_16 v_size v_stepCount w_11 w_12 w_13 v_tape v_steps w_14)))))) := rfl

theorem uf_X2_readTape_56 (N : Nat) (v_size : Int32) (v_stepCount : Int32) (v_draftCount : Int32) (v_place : Int32) (v_fault : Int32) (v_tape : List Int32) (v_steps : List Int32) (v_draft : List Int32) : fX2_readTape_56 N v_size v_stepCount v_draftCount v_place v_fault v_tape v_steps v_draft = if v_size ≤ v_place then
    (fX2_readTape_71 N v_size v_stepCount v_draftCount v_place v_fault v_tape v_steps v_draft)
    else (mm_bd1 (fX2_fail N v_place v_fault) (fun (w_18 : Int32) =>
    fX2_readTape_71 N v_size v_stepCount v_draftCount v_place w_18 v_tape v_steps v_draft)) := rfl

theorem uf_X2_readTape_71 (N : Nat) (v_size : Int32) (v_stepCount : Int32) (v_draftCount : Int32) (v_place : Int32) (v_fault : Int32) (v_tape : List Int32) (v_steps : List Int32) (v_draft : List Int32) : fX2_readTape_71 N v_size v_stepCount v_draftCount v_place v_fault v_tape v_steps v_draft = if 0 ≤ v_fault then
    (fX2_readTape_108 N (0 : Int32) v_stepCount v_draftCount v_place v_fault v_tape v_steps v_draft)
    else (mm_ck (mm_cok (0 : Int32) (0 : Int32) v_draftCount v_draft.length v_steps.length) (mm_nm (mm_cp v_draft v_steps (0 : Int32) (0 : Int32) v_draftCount) (fun (l_22 : List Int32) =>
    fX2_readTape_108 N (0 : Int32) v_draftCount v_draftCount v_place v_fault v_tape l_22 v_draft))) := rfl

set_option maxHeartbeats 4000000 in
set_option maxRecDepth 20000 in
theorem sf_X2_readTape_21 {N : Nat} (hN : 700 ≤ N)  : ∀ (n : Nat) (x1 : Int32) (v_size : Int32) (v_stepCount : Int32) (v_draftCount : Int32) (v_place : Int32) (v_fault : Int32) (v_tape : List Int32) (v_steps : List Int32) (v_draft : List Int32), 0 ≤ v_size.toInt → v_size.toInt ≤ 120 → 0 ≤ v_stepCount.toInt → v_stepCount.toInt ≤ 121 → 0 ≤ v_draftCount.toInt → v_draftCount.toInt ≤ 121 → v_tape.length = 120 → v_steps.length = 121 → v_draft.length = 121 → 0 ≤ v_place.toInt → v_place.toInt ≤ v_size.toInt → 0 ≤ x1.toInt → x1.toInt ≤ 120 → (120 - x1.toInt).toNat < n → wp (fX2_readTape_21 N n x1 v_size v_stepCount v_draftCount v_place v_fault v_tape v_steps v_draft) (cu8 (fun (r : Int32) (wv_size : Int32) (wv_stepCount : Int32) (wv_draftCount : Int32) (wv_place : Int32) (wv_fault : Int32) (wv_steps : List Int32) (wv_draft : List Int32) => 0 ≤ wv_size.toInt ∧ wv_size.toInt ≤ 120 ∧ 0 ≤ wv_stepCount.toInt ∧ wv_stepCount.toInt ≤ 121 ∧ 0 ≤ wv_draftCount.toInt ∧ wv_draftCount.toInt ≤ 121 ∧ wv_steps.length = 121 ∧ wv_draft.length = 121)) := by
  intro n
  induction n with
  | zero =>
    intro x1 v_size v_stepCount v_draftCount v_place v_fault v_tape v_steps v_draft h_0 h_1 h_2 h_3 h_4 h_5 h_6 h_7 h_8 h_9 h_10 h_11 h_12 hm
    exact absurd hm (by omega)
  | succ n ih =>
    intro x1 v_size v_stepCount v_draftCount v_place v_fault v_tape v_steps v_draft h_0 h_1 h_2 h_3 h_4 h_5 h_6 h_7 h_8 h_9 h_10 h_11 h_12 hm
    refine wp_of (uf_X2_readTape_21 _ _ _ _ _ _ _ _ _ _ _) ?_
    have n_2 : (120 : Int32).toInt = 120 := by decide
    refine wp_if (fun c_1 => ?_) (fun c_1 => ?_)
    ·
      have dc_1 := i_le c_1
      refine wp_of (uf_X2_readTape_56 _ _ _ _ _ _ _ _ _) ?_
      refine wp_if (fun c_3 => ?_) (fun c_3 => ?_)
      ·
        have dc_3 := i_le c_3
        refine wp_of (uf_X2_readTape_71 _ _ _ _ _ _ _ _ _) ?_
        have n_5 : (0 : Int32).toInt = 0 := by decide
        refine wp_if (fun c_4 => ?_) (fun c_4 => ?_)
        ·
          have dc_4 := i_le c_4
          refine wp_of (uf_X2_readTape_108 _ _ _ _ _ _ _ _ _) ?_
          exact wp_so8 ⟨(by omega), (by omega), h_2, h_3, h_4, h_5, h_7, h_8⟩
        ·
          have dc_4 := i_nle c_4
          have hc_6 : (mm_cok (0 : Int32) (0 : Int32) v_draftCount v_draft.length v_steps.length) = true := i_cok (by omega) (by omega) (by omega) (by omega) (by omega)
          refine wp_ck hc_6 ?_
          refine wp_nm (fun l_22 h_l_22 => ?_)
          have nl_l_22 : l_22.length = 121 := by rw [h_l_22, cp_len hc_6]; assumption
          refine wp_of (uf_X2_readTape_108 _ _ _ _ _ _ _ _ _) ?_
          exact wp_so8 ⟨(by omega), (by omega), h_4, h_5, h_4, h_5, nl_l_22, h_8⟩
      ·
        have dc_3 := i_nle c_3
        refine wp_bd1 (sf_X2_fail hN ) (fun w_18 _ => ?_)
        refine wp_of (uf_X2_readTape_71 _ _ _ _ _ _ _ _ _) ?_
        have n_8 : (0 : Int32).toInt = 0 := by decide
        refine wp_if (fun c_7 => ?_) (fun c_7 => ?_)
        ·
          have dc_7 := i_le c_7
          refine wp_of (uf_X2_readTape_108 _ _ _ _ _ _ _ _ _) ?_
          exact wp_so8 ⟨(by omega), (by omega), h_2, h_3, h_4, h_5, h_7, h_8⟩
        ·
          have dc_7 := i_nle c_7
          have hc_9 : (mm_cok (0 : Int32) (0 : Int32) v_draftCount v_draft.length v_steps.length) = true := i_cok (by omega) (by omega) (by omega) (by omega) (by omega)
          refine wp_ck hc_9 ?_
          refine wp_nm (fun l_22__10 h_l_22__10 => ?_)
          have nl_l_22__10 : l_22__10.length = 121 := by rw [h_l_22__10, cp_len hc_9]; assumption
          refine wp_of (uf_X2_readTape_108 _ _ _ _ _ _ _ _ _) ?_
          exact wp_so8 ⟨(by omega), (by omega), h_4, h_5, h_4, h_5, nl_l_22__10, h_8⟩
    ·
      have dc_1 := i_nle c_1
      have n_11 : (59 : Int32).toInt = 59 := by decide
      refine wp_bd1 (sf_X2_meets hN h_0 h_1 h_6 h_9 (by omega)) (fun r_7 q_12 => ?_)
      rcases q_12 with ⟨rfl, q_12⟩ | ⟨rfl, q_12⟩
      ·
        refine wp_ifn (by decide) ?_
        have n_13 : (1 : Int32).toInt = 1 := by decide
        refine wp_nm (fun y_10 h_y_10 => ?_)
        have e_14 := i_addE h_y_10.symm (by omega) (by omega)
        refine wp_bd4 (sf_X2_readLine hN h_0 h_1 h_4 h_5 h_6 h_8 (by omega) (by omega)) (fun w_11 w_12 w_13 w_14 ⟨q_15, q_16, q_17, q_18, q_19⟩ => ?_)
        refine wp_nm (fun y_16 h_y_16 => ?_)
        have e_20 := i_addE h_y_16.symm (by omega) (by omega)
        exact ih _ _ _ _ _ _ _ _ _ h_0 h_1 h_2 h_3 q_15 q_16 h_6 h_7 q_17 (by omega) q_19 (by omega) (by omega) (by omega)
      ·
        refine wp_ifp (by decide) ?_
        refine wp_of (uf_X2_readTape_56 _ _ _ _ _ _ _ _ _) ?_
        refine wp_if (fun c_21 => ?_) (fun c_21 => ?_)
        ·
          have dc_21 := i_le c_21
          refine wp_of (uf_X2_readTape_71 _ _ _ _ _ _ _ _ _) ?_
          have n_23 : (0 : Int32).toInt = 0 := by decide
          refine wp_if (fun c_22 => ?_) (fun c_22 => ?_)
          ·
            have dc_22 := i_le c_22
            refine wp_of (uf_X2_readTape_108 _ _ _ _ _ _ _ _ _) ?_
            exact wp_so8 ⟨(by omega), (by omega), h_2, h_3, h_4, h_5, h_7, h_8⟩
          ·
            have dc_22 := i_nle c_22
            have hc_24 : (mm_cok (0 : Int32) (0 : Int32) v_draftCount v_draft.length v_steps.length) = true := i_cok (by omega) (by omega) (by omega) (by omega) (by omega)
            refine wp_ck hc_24 ?_
            refine wp_nm (fun l_22__25 h_l_22__25 => ?_)
            have nl_l_22__25 : l_22__25.length = 121 := by rw [h_l_22__25, cp_len hc_24]; assumption
            refine wp_of (uf_X2_readTape_108 _ _ _ _ _ _ _ _ _) ?_
            exact wp_so8 ⟨(by omega), (by omega), h_4, h_5, h_4, h_5, nl_l_22__25, h_8⟩
        ·
          have dc_21 := i_nle c_21
          refine wp_bd1 (sf_X2_fail hN ) (fun w_18__26 _ => ?_)
          refine wp_of (uf_X2_readTape_71 _ _ _ _ _ _ _ _ _) ?_
          have n_28 : (0 : Int32).toInt = 0 := by decide
          refine wp_if (fun c_27 => ?_) (fun c_27 => ?_)
          ·
            have dc_27 := i_le c_27
            refine wp_of (uf_X2_readTape_108 _ _ _ _ _ _ _ _ _) ?_
            exact wp_so8 ⟨(by omega), (by omega), h_2, h_3, h_4, h_5, h_7, h_8⟩
          ·
            have dc_27 := i_nle c_27
            have hc_29 : (mm_cok (0 : Int32) (0 : Int32) v_draftCount v_draft.length v_steps.length) = true := i_cok (by omega) (by omega) (by omega) (by omega) (by omega)
            refine wp_ck hc_29 ?_
            refine wp_nm (fun l_22__30 h_l_22__30 => ?_)
            have nl_l_22__30 : l_22__30.length = 121 := by rw [h_l_22__30, cp_len hc_29]; assumption
            refine wp_of (uf_X2_readTape_108 _ _ _ _ _ _ _ _ _) ?_
            exact wp_so8 ⟨(by omega), (by omega), h_4, h_5, h_4, h_5, nl_l_22__30, h_8⟩

theorem uf_X2_readTape (N : Nat) (v_size : Int32) (v_stepCount : Int32) (v_draftCount : Int32) (v_place : Int32) (v_fault : Int32) (v_tape : List Int32) (v_steps : List Int32) (v_draft : List Int32) : fX2_readTape N v_size v_stepCount v_draftCount v_place v_fault v_tape v_steps v_draft = mm_bd4 (fX2_readLine N v_size (0 : Int32) (0 : Int32) (-1 : Int32) v_tape v_draft) (fun (w_1 : Int32) (w_2 : Int32) (w_3 : Int32) (w_4 : List Int32) =>
    fX2_readTape_21 N N (0 : Int32) v_size v_stepCount w_1 w_2 w_3 v_tape v_steps w_4) := rfl

set_option maxHeartbeats 4000000 in
set_option maxRecDepth 20000 in
theorem sf_X2_readTape {N : Nat} (hN : 700 ≤ N) {v_size : Int32} {v_stepCount : Int32} {v_draftCount : Int32} {v_place : Int32} {v_fault : Int32} {v_tape : List Int32} {v_steps : List Int32} {v_draft : List Int32} (h_0 : 0 ≤ v_size.toInt) (h_1 : v_size.toInt ≤ 120) (h_2 : 0 ≤ v_stepCount.toInt) (h_3 : v_stepCount.toInt ≤ 121) (h_4 : 0 ≤ v_draftCount.toInt) (h_5 : v_draftCount.toInt ≤ 121) (h_6 : v_tape.length = 120) (h_7 : v_steps.length = 121) (h_8 : v_draft.length = 121) : wp (fX2_readTape N v_size v_stepCount v_draftCount v_place v_fault v_tape v_steps v_draft) (cu8 (fun (r : Int32) (wv_size : Int32) (wv_stepCount : Int32) (wv_draftCount : Int32) (wv_place : Int32) (wv_fault : Int32) (wv_steps : List Int32) (wv_draft : List Int32) => 0 ≤ wv_size.toInt ∧ wv_size.toInt ≤ 120 ∧ 0 ≤ wv_stepCount.toInt ∧ wv_stepCount.toInt ≤ 121 ∧ 0 ≤ wv_draftCount.toInt ∧ wv_draftCount.toInt ≤ 121 ∧ wv_steps.length = 121 ∧ wv_draft.length = 121)) := by
  refine wp_of (uf_X2_readTape _ _ _ _ _ _ _ _ _) ?_
  have n_1 : (0 : Int32).toInt = 0 := by decide
  refine wp_bd4 (sf_X2_readLine hN h_0 h_1 (by omega) (by omega) h_6 h_8 (by omega) (by omega)) (fun w_1 w_2 w_3 w_4 ⟨q_2, q_3, q_4, q_5, q_6⟩ => ?_)
  exact sf_X2_readTape_21 hN _ _ _ _ _ _ _ _ _ _ h_0 h_1 h_2 h_3 q_2 q_3 h_6 h_7 q_4 (by omega) q_6 (by omega) (by omega) (by omega)

theorem uf_X2_joined (N : Nat) (x0 : Int32) (x1 : Int32) (x2 : Int32) : fX2_joined N x0 x1 x2 = if x0 = (37 : Int32) then
    (if x2 = 0 then
    (some ((0 : Int32)))
    else (mm_ck (mm_nz x2) (some ((mm_rem x1 x2)))))
    else (if x0 = (38 : Int32) then
    (if x1 = 0 then
    (some ((0 : Int32)))
    else (if x2 = 0 then
    (some ((0 : Int32)))
    else (some ((1 : Int32)))))
    else (if x0 = (42 : Int32) then
    (some ((x1 * x2)))
    else (if x0 = (43 : Int32) then
    (some ((x1 + x2)))
    else (if x0 = (45 : Int32) then
    (some ((x1 - x2)))
    else (if x0 = (47 : Int32) then
    (if x2 = 0 then
    (some ((0 : Int32)))
    else (mm_ck (mm_nz x2) (some ((x1 / x2)))))
    else (if x0 = (60 : Int32) then
    (if x2 ≤ x1 then
    (some ((0 : Int32)))
    else (some ((1 : Int32))))
    else (if x0 = (61 : Int32) then
    (if x1 = x2 then
    (some ((1 : Int32)))
    else (some ((0 : Int32))))
    else (if x0 = (62 : Int32) then
    (if x1 ≤ x2 then
    (some ((0 : Int32)))
    else (some ((1 : Int32))))
    else (if x0 = (124 : Int32) then
    (if x1 = 0 then
    (if x2 = 0 then
    (some ((0 : Int32)))
    else (some ((1 : Int32))))
    else (some ((1 : Int32))))
    else (some ((0 : Int32)))))))))))) := rfl

set_option maxHeartbeats 4000000 in
set_option maxRecDepth 20000 in
theorem sf_X2_joined {N : Nat} (hN : 700 ≤ N) {x0 : Int32} {x1 : Int32} {x2 : Int32}  : wp (fX2_joined N x0 x1 x2) (fun (r : Int32) => True) := by
  refine wp_of (uf_X2_joined _ _ _ _) ?_
  have n_2 : (37 : Int32).toInt = 37 := by decide
  refine wp_if (fun c_1 => ?_) (fun c_1 => ?_)
  ·
    have dc_1 := i_eq c_1
    have n_4 : (0 : Int32).toInt = 0 := by decide
    refine wp_if (fun c_3 => ?_) (fun c_3 => ?_)
    ·
      have dc_3 := i_eq c_3
      exact wp_so1 trivial
    ·
      have dc_3 := i_ne c_3
      refine wp_ck (i_nz (by omega)) ?_
      exact wp_so1 trivial
  ·
    have dc_1 := i_ne c_1
    have n_6 : (38 : Int32).toInt = 38 := by decide
    refine wp_if (fun c_5 => ?_) (fun c_5 => ?_)
    ·
      have dc_5 := i_eq c_5
      have n_8 : (0 : Int32).toInt = 0 := by decide
      refine wp_if (fun c_7 => ?_) (fun c_7 => ?_)
      ·
        have dc_7 := i_eq c_7
        exact wp_so1 trivial
      ·
        have dc_7 := i_ne c_7
        refine wp_if (fun c_9 => ?_) (fun c_9 => ?_)
        ·
          have dc_9 := i_eq c_9
          exact wp_so1 trivial
        ·
          have dc_9 := i_ne c_9
          exact wp_so1 trivial
    ·
      have dc_5 := i_ne c_5
      have n_11 : (42 : Int32).toInt = 42 := by decide
      refine wp_if (fun c_10 => ?_) (fun c_10 => ?_)
      ·
        have dc_10 := i_eq c_10
        exact wp_so1 trivial
      ·
        have dc_10 := i_ne c_10
        have n_13 : (43 : Int32).toInt = 43 := by decide
        refine wp_if (fun c_12 => ?_) (fun c_12 => ?_)
        ·
          have dc_12 := i_eq c_12
          exact wp_so1 trivial
        ·
          have dc_12 := i_ne c_12
          have n_15 : (45 : Int32).toInt = 45 := by decide
          refine wp_if (fun c_14 => ?_) (fun c_14 => ?_)
          ·
            have dc_14 := i_eq c_14
            exact wp_so1 trivial
          ·
            have dc_14 := i_ne c_14
            have n_17 : (47 : Int32).toInt = 47 := by decide
            refine wp_if (fun c_16 => ?_) (fun c_16 => ?_)
            ·
              have dc_16 := i_eq c_16
              have n_19 : (0 : Int32).toInt = 0 := by decide
              refine wp_if (fun c_18 => ?_) (fun c_18 => ?_)
              ·
                have dc_18 := i_eq c_18
                exact wp_so1 trivial
              ·
                have dc_18 := i_ne c_18
                refine wp_ck (i_nz (by omega)) ?_
                exact wp_so1 trivial
            ·
              have dc_16 := i_ne c_16
              have n_21 : (60 : Int32).toInt = 60 := by decide
              refine wp_if (fun c_20 => ?_) (fun c_20 => ?_)
              ·
                have dc_20 := i_eq c_20
                refine wp_if (fun c_22 => ?_) (fun c_22 => ?_)
                ·
                  have dc_22 := i_le c_22
                  exact wp_so1 trivial
                ·
                  have dc_22 := i_nle c_22
                  exact wp_so1 trivial
              ·
                have dc_20 := i_ne c_20
                have n_24 : (61 : Int32).toInt = 61 := by decide
                refine wp_if (fun c_23 => ?_) (fun c_23 => ?_)
                ·
                  have dc_23 := i_eq c_23
                  refine wp_if (fun c_25 => ?_) (fun c_25 => ?_)
                  ·
                    have dc_25 := i_eq c_25
                    exact wp_so1 trivial
                  ·
                    have dc_25 := i_ne c_25
                    exact wp_so1 trivial
                ·
                  have dc_23 := i_ne c_23
                  have n_27 : (62 : Int32).toInt = 62 := by decide
                  refine wp_if (fun c_26 => ?_) (fun c_26 => ?_)
                  ·
                    have dc_26 := i_eq c_26
                    refine wp_if (fun c_28 => ?_) (fun c_28 => ?_)
                    ·
                      have dc_28 := i_le c_28
                      exact wp_so1 trivial
                    ·
                      have dc_28 := i_nle c_28
                      exact wp_so1 trivial
                  ·
                    have dc_26 := i_ne c_26
                    have n_30 : (124 : Int32).toInt = 124 := by decide
                    refine wp_if (fun c_29 => ?_) (fun c_29 => ?_)
                    ·
                      have dc_29 := i_eq c_29
                      have n_32 : (0 : Int32).toInt = 0 := by decide
                      refine wp_if (fun c_31 => ?_) (fun c_31 => ?_)
                      ·
                        have dc_31 := i_eq c_31
                        refine wp_if (fun c_33 => ?_) (fun c_33 => ?_)
                        ·
                          have dc_33 := i_eq c_33
                          exact wp_so1 trivial
                        ·
                          have dc_33 := i_ne c_33
                          exact wp_so1 trivial
                      ·
                        have dc_31 := i_ne c_31
                        exact wp_so1 trivial
                    ·
                      have dc_29 := i_ne c_29
                      exact wp_so1 trivial

theorem uf_X2_push (N : Nat) (x1 : Int32) (v_stacked : Int32) (v_stack : List Int32) : fX2_push N x1 v_stacked v_stack = if (121 : Int32) ≤ v_stacked then
    (some (v_stacked, v_stack))
    else (mm_ck (mm_inb v_stacked v_stack.length) (mm_nm (mm_is v_stack v_stacked x1) (fun (l_3 : List Int32) =>
    mm_nm ((v_stacked + (1 : Int32))) (fun (y_4 : Int32) =>
    some (y_4, l_3))))) := rfl

set_option maxHeartbeats 4000000 in
set_option maxRecDepth 20000 in
theorem sf_X2_push {N : Nat} (hN : 700 ≤ N) {x1 : Int32} {v_stacked : Int32} {v_stack : List Int32} (h_0 : v_stack.length = 121) (h_1 : 0 ≤ v_stacked.toInt) (h_2 : v_stacked.toInt ≤ 121) : wp (fX2_push N x1 v_stacked v_stack) (cu2 (fun (wv_stacked : Int32) (wv_stack : List Int32) => wv_stack.length = 121 ∧ 0 ≤ wv_stacked.toInt ∧ wv_stacked.toInt ≤ 121)) := by
  refine wp_of (uf_X2_push _ _ _ _) ?_
  have n_2 : (121 : Int32).toInt = 121 := by decide
  refine wp_if (fun c_1 => ?_) (fun c_1 => ?_)
  ·
    have dc_1 := i_le c_1
    exact wp_so2 ⟨h_0, h_1, h_2⟩
  ·
    have dc_1 := i_nle c_1
    refine wp_ck (i_inb (by omega) (by omega)) ?_
    refine wp_nm (fun l_3 h_l_3 => ?_)
    have nl_l_3 : l_3.length = 121 := by rw [h_l_3, is_len]; assumption
    have n_3 : (1 : Int32).toInt = 1 := by decide
    refine wp_nm (fun y_4 h_y_4 => ?_)
    have e_4 := i_addE h_y_4.symm (by omega) (by omega)
    exact wp_so2 ⟨nl_l_3, (by omega), (by omega)⟩

theorem uf_X2_pop (N : Nat) (v_stacked : Int32) (v_stack : List Int32) : fX2_pop N v_stacked v_stack = if v_stacked = 0 then
    (some ((0 : Int32), v_stacked))
    else (mm_nm ((v_stacked - (1 : Int32))) (fun (y_2 : Int32) =>
    mm_ck (mm_inb y_2 v_stack.length) (some ((mm_ig v_stack y_2), y_2)))) := rfl

set_option maxHeartbeats 4000000 in
set_option maxRecDepth 20000 in
theorem sf_X2_pop {N : Nat} (hN : 700 ≤ N) {v_stacked : Int32} {v_stack : List Int32} (h_0 : v_stack.length = 121) (h_1 : 0 ≤ v_stacked.toInt) (h_2 : v_stacked.toInt ≤ 121) : wp (fX2_pop N v_stacked v_stack) (cu2 (fun (r : Int32) (wv_stacked : Int32) => 0 ≤ wv_stacked.toInt ∧ wv_stacked.toInt ≤ 121)) := by
  refine wp_of (uf_X2_pop _ _ _) ?_
  have n_2 : (0 : Int32).toInt = 0 := by decide
  refine wp_if (fun c_1 => ?_) (fun c_1 => ?_)
  ·
    have dc_1 := i_eq c_1
    exact wp_so2 ⟨h_1, h_2⟩
  ·
    have dc_1 := i_ne c_1
    have n_3 : (1 : Int32).toInt = 1 := by decide
    refine wp_nm (fun y_2 h_y_2 => ?_)
    have e_4 := i_subE h_y_2.symm (by omega) (by omega)
    refine wp_ck (i_inb (by omega) (by omega)) ?_
    exact wp_so2 ⟨(by omega), (by omega)⟩

theorem uf_X2_worth_173 (N : Nat) (k_24 : Int32 → Int32 → Int32 → Int32 → Int32 → Int32 → Int32 → Int32 → Int32 → Int32 → List Int32 → List Int32 → Option (Int32 × Int32 × List Int32)) (x1 : Int32) (x2 : Int32) (x3 : Int32) (x4 : Int32) (x5 : Int32) (x6 : Int32) (x8 : Int32) (s0 : Int32) (v_stepCount : Int32) (v_stacked : Int32) (v_steps : List Int32) (v_stack : List Int32) : fX2_worth_173 N k_24 x1 x2 x3 x4 x5 x6 x8 s0 v_stepCount v_stacked v_steps v_stack = fX2_worth_317 N k_24 x1 x2 x3 x4 x5 x6 s0 x8 v_stepCount v_stacked v_steps v_stack := rfl

theorem uf_X2_worth_24 (N : Nat) (n : Nat) (x1 : Int32) (x2 : Int32) (x3 : Int32) (x4 : Int32) (x5 : Int32) (x6 : Int32) (x7 : Int32) (x8 : Int32) (v_stepCount : Int32) (v_stacked : Int32) (v_steps : List Int32) (v_stack : List Int32) : fX2_worth_24 N (n + 1) x1 x2 x3 x4 x5 x6 x7 x8 v_stepCount v_stacked v_steps v_stack = 
    if v_stepCount ≤ x8 then
    (some ((0 : Int32), v_stacked, v_stack))
    else (mm_ck (mm_inb x8 v_steps.length) (mm_nm ((mm_ig v_steps x8)) (fun (y_4 : Int32) =>
    if y_4 = (33 : Int32) then
    (mm_bd2 (fX2_pop N v_stacked v_stack) (fun (r_6 : Int32) (w_7 : Int32) =>
    if r_6 = 0 then
    (fX2_worth_242 N (fX2_worth_24 N n) x1 x2 x3 x4 x5 x6 x7 x8 (1 : Int32) v_stepCount w_7 v_steps v_stack)
    else (fX2_worth_242 N (fX2_worth_24 N n) x1 x2 x3 x4 x5 x6 x7 x8 (0 : Int32) v_stepCount w_7 v_steps v_stack)))
    else (if y_4 = (59 : Int32) then
    (mm_bd2 (fX2_pop N v_stacked v_stack) (fun (r_11 : Int32) (w_12 : Int32) =>
    if x7 = 0 then
    (fX2_worth_317 N (fX2_worth_24 N n) x1 x2 x3 x4 x5 x6 (1 : Int32) x8 v_stepCount w_12 v_steps v_stack)
    else (some ((mm_max (0 : Int32) (mm_min (9 : Int32) r_11)), w_12, v_stack))))
    else (if y_4 = (63 : Int32) then
    (mm_bd2 (fX2_pop N v_stacked v_stack) (fun (r_16 : Int32) (w_17 : Int32) =>
    if r_16 = 0 then
    (fX2_worth_173 N (fX2_worth_24 N n) x1 x2 x3 x4 x5 x6 x8 (0 : Int32) v_stepCount w_17 v_steps v_stack)
    else (fX2_worth_173 N (fX2_worth_24 N n) x1 x2 x3 x4 x5 x6 x8 (1 : Int32) v_stepCount w_17 v_steps v_stack)))
    else (if y_4 = (98 : Int32) then
    (mm_bd2 (fX2_push N x6 v_stacked v_stack) (fun (w_21 : Int32) (w_22 : List Int32) =>
    fX2_worth_317 N (fX2_worth_24 N n) x1 x2 x3 x4 x5 x6 x7 x8 v_stepCount w_21 v_steps w_22))
    else (if y_4 = (102 : Int32) then
    (mm_bd2 (fX2_push N x5 v_stacked v_stack) (fun (w_25 : Int32) (w_26 : List Int32) =>
    fX2_worth_317 N (fX2_worth_24 N n) x1 x2 x3 x4 x5 x6 x7 x8 v_stepCount w_25 v_steps w_26))
    else (if y_4 = (107 : Int32) then
    (mm_bd2 (fX2_push N x4 v_stacked v_stack) (fun (w_29 : Int32) (w_30 : List Int32) =>
    fX2_worth_317 N (fX2_worth_24 N n) x1 x2 x3 x4 x5 x6 x7 x8 v_stepCount w_29 v_steps w_30))
    else (if y_4 = (110 : Int32) then
    (mm_bd2 (fX2_push N x1 v_stacked v_stack) (fun (w_33 : Int32) (w_34 : List Int32) =>
    fX2_worth_317 N (fX2_worth_24 N n) x1 x2 x3 x4 x5 x6 x7 x8 v_stepCount w_33 v_steps w_34))
    else (if y_4 = (114 : Int32) then
    (mm_bd2 (fX2_push N x3 v_stacked v_stack) (fun (w_37 : Int32) (w_38 : List Int32) =>
    fX2_worth_317 N (fX2_worth_24 N n) x1 x2 x3 x4 x5 x6 x7 x8 v_stepCount w_37 v_steps w_38))
    else (if y_4 = (119 : Int32) then
    (mm_bd2 (fX2_push N x2 v_stacked v_stack) (fun (w_41 : Int32) (w_42 : List Int32) =>
    fX2_worth_317 N (fX2_worth_24 N n) x1 x2 x3 x4 x5 x6 x7 x8 v_stepCount w_41 v_steps w_42))
    else (if y_4 = (126 : Int32) then
    (mm_bd2 (fX2_pop N v_stacked v_stack) (fun (r_45 : Int32) (w_46 : Int32) =>
    mm_bd2 (fX2_push N (-r_45) w_46 v_stack) (fun (w_48 : Int32) (w_49 : List Int32) =>
    fX2_worth_317 N (fX2_worth_24 N n) x1 x2 x3 x4 x5 x6 x7 x8 v_stepCount w_48 v_steps w_49)))
    else (mm_ck (mm_inb x8 v_steps.length) (if (mm_ig v_steps x8) < (1000 : Int32) then
    (mm_bd2 (fX2_pop N v_stacked v_stack) (fun (r_53 : Int32) (w_54 : Int32) =>
    mm_ck (mm_inb x8 v_steps.length) (mm_bd2 (fX2_pop N w_54 v_stack) (fun (r_57 : Int32) (w_58 : Int32) =>
    mm_bd1 (fX2_joined N (mm_ig v_steps x8) r_57 r_53) (fun (r_60 : Int32) =>
    mm_bd2 (fX2_push N r_60 w_58 v_stack) (fun (w_62 : Int32) (w_63 : List Int32) =>
    fX2_worth_317 N (fX2_worth_24 N n) x1 x2 x3 x4 x5 x6 x7 x8 v_stepCount w_62 v_steps w_63))))))
    else (mm_ck (mm_inb x8 v_steps.length) (mm_bd2 (fX2_push N ((mm_ig v_steps x8) - (1000 : Int32)) v_stacked v_stack) (fun (w_66 : Int32) (w_67 : List Int32) =>
    fX2_worth_317 N (fX2_worth_24 N n) x1 x2 x3 x4 x5 x6 x7 x8 v_stepCount w_66 v_steps w_67))))))))))))))))) := rfl

theorem uf_X2_worth_242 (N : Nat) (k_24 : Int32 → Int32 → Int32 → Int32 → Int32 → Int32 → Int32 → Int32 → Int32 → Int32 → List Int32 → List Int32 → Option (Int32 × Int32 × List Int32)) (x1 : Int32) (x2 : Int32) (x3 : Int32) (x4 : Int32) (x5 : Int32) (x6 : Int32) (x7 : Int32) (x8 : Int32) (s0 : Int32) (v_stepCount : Int32) (v_stacked : Int32) (v_steps : List Int32) (v_stack : List Int32) : fX2_worth_242 N k_24 x1 x2 x3 x4 x5 x6 x7 x8 s0 v_stepCount v_stacked v_steps v_stack = mm_bd2 (fX2_push N s0 v_stacked v_stack) (fun (w_70 : Int32) (w_71 : List Int32) =>
    fX2_worth_317 N k_24 x1 x2 x3 x4 x5 x6 x7 x8 v_stepCount w_70 v_steps w_71) := rfl

theorem uf_X2_worth_317 (N : Nat) (k_24 : Int32 → Int32 → Int32 → Int32 → Int32 → Int32 → Int32 → Int32 → Int32 → Int32 → List Int32 → List Int32 → Option (Int32 × Int32 × List Int32)) (x1 : Int32) (x2 : Int32) (x3 : Int32) (x4 : Int32) (x5 : Int32) (x6 : Int32) (x7 : Int32) (x8 : Int32) (v_stepCount : Int32) (v_stacked : Int32) (v_steps : List Int32) (v_stack : List Int32) : fX2_worth_317 N k_24 x1 x2 x3 x4 x5 x6 x7 x8 v_stepCount v_stacked v_steps v_stack = mm_nm (x8 + (1 : Int32)) (fun (y_69 : Int32) =>
    k_24 x1 x2 x3 x4 x5 x6 x7 y_69 v_stepCount v_stacked v_steps v_stack) := rfl

set_option maxHeartbeats 4000000 in
set_option maxRecDepth 20000 in
theorem sf_X2_worth_24 {N : Nat} (hN : 700 ≤ N)  : ∀ (n : Nat) (x1 : Int32) (x2 : Int32) (x3 : Int32) (x4 : Int32) (x5 : Int32) (x6 : Int32) (x7 : Int32) (x8 : Int32) (v_stepCount : Int32) (v_stacked : Int32) (v_steps : List Int32) (v_stack : List Int32), 0 ≤ v_stepCount.toInt → v_stepCount.toInt ≤ 121 → v_steps.length = 121 → v_stack.length = 121 → 0 ≤ v_stacked.toInt → v_stacked.toInt ≤ 121 → 0 ≤ x8.toInt → x8.toInt ≤ v_stepCount.toInt → (v_stepCount.toInt - x8.toInt).toNat < n → wp (fX2_worth_24 N n x1 x2 x3 x4 x5 x6 x7 x8 v_stepCount v_stacked v_steps v_stack) (cu3 (fun (r : Int32) (wv_stacked : Int32) (wv_stack : List Int32) => wv_stack.length = 121)) := by
  intro n
  induction n with
  | zero =>
    intro x1 x2 x3 x4 x5 x6 x7 x8 v_stepCount v_stacked v_steps v_stack h_0 h_1 h_2 h_3 h_4 h_5 h_6 h_7 hm
    exact absurd hm (by omega)
  | succ n ih =>
    intro x1 x2 x3 x4 x5 x6 x7 x8 v_stepCount v_stacked v_steps v_stack h_0 h_1 h_2 h_3 h_4 h_5 h_6 h_7 hm
    refine wp_of (uf_X2_worth_24 _ _ _ _ _ _ _ _ _ _ _ _ _ _) ?_
    refine wp_if (fun c_1 => ?_) (fun c_1 => ?_)
    ·
      have dc_1 := i_le c_1
      exact wp_so3 h_3
    ·
      have dc_1 := i_nle c_1
      refine wp_ck (i_inb (by omega) (by omega)) ?_
      refine wp_nm (fun y_4 h_y_4 => ?_)
      have t_y_4 : y_4.toInt = ((mm_ig v_steps x8)).toInt := by rw [h_y_4]
      have n_3 : (33 : Int32).toInt = 33 := by decide
      refine wp_if (fun c_2 => ?_) (fun c_2 => ?_)
      ·
        have dc_2 := i_eq c_2
        refine wp_bd2 (sf_X2_pop hN h_3 h_4 h_5) (fun r_6 w_7 ⟨q_4, q_5⟩ => ?_)
        have n_7 : (0 : Int32).toInt = 0 := by decide
        refine wp_if (fun c_6 => ?_) (fun c_6 => ?_)
        ·
          have dc_6 := i_eq c_6
          refine wp_of (uf_X2_worth_242 _ _ _ _ _ _ _ _ _ _ _ _ _ _ _) ?_
          refine wp_bd2 (sf_X2_push hN h_3 q_4 q_5) (fun w_70 w_71 ⟨q_8, q_9, q_10⟩ => ?_)
          refine wp_of (uf_X2_worth_317 _ _ _ _ _ _ _ _ _ _ _ _ _ _) ?_
          have n_11 : (1 : Int32).toInt = 1 := by decide
          refine wp_nm (fun y_69 h_y_69 => ?_)
          have e_12 := i_addE h_y_69.symm (by omega) (by omega)
          exact ih _ _ _ _ _ _ _ _ _ _ _ _ h_0 h_1 h_2 q_8 q_9 q_10 (by omega) (by omega) (by omega)
        ·
          have dc_6 := i_ne c_6
          refine wp_of (uf_X2_worth_242 _ _ _ _ _ _ _ _ _ _ _ _ _ _ _) ?_
          refine wp_bd2 (sf_X2_push hN h_3 q_4 q_5) (fun w_70__13 w_71__14 ⟨q_15, q_16, q_17⟩ => ?_)
          refine wp_of (uf_X2_worth_317 _ _ _ _ _ _ _ _ _ _ _ _ _ _) ?_
          have n_19 : (1 : Int32).toInt = 1 := by decide
          refine wp_nm (fun y_69__18 h_y_69__18 => ?_)
          have e_20 := i_addE h_y_69__18.symm (by omega) (by omega)
          exact ih _ _ _ _ _ _ _ _ _ _ _ _ h_0 h_1 h_2 q_15 q_16 q_17 (by omega) (by omega) (by omega)
      ·
        have dc_2 := i_ne c_2
        have n_22 : (59 : Int32).toInt = 59 := by decide
        refine wp_if (fun c_21 => ?_) (fun c_21 => ?_)
        ·
          have dc_21 := i_eq c_21
          refine wp_bd2 (sf_X2_pop hN h_3 h_4 h_5) (fun r_11 w_12 ⟨q_23, q_24⟩ => ?_)
          have n_26 : (0 : Int32).toInt = 0 := by decide
          refine wp_if (fun c_25 => ?_) (fun c_25 => ?_)
          ·
            have dc_25 := i_eq c_25
            refine wp_of (uf_X2_worth_317 _ _ _ _ _ _ _ _ _ _ _ _ _ _) ?_
            have n_28 : (1 : Int32).toInt = 1 := by decide
            refine wp_nm (fun y_69__27 h_y_69__27 => ?_)
            have e_29 := i_addE h_y_69__27.symm (by omega) (by omega)
            exact ih _ _ _ _ _ _ _ _ _ _ _ _ h_0 h_1 h_2 h_3 q_23 q_24 (by omega) (by omega) (by omega)
          ·
            have dc_25 := i_ne c_25
            exact wp_so3 h_3
        ·
          have dc_21 := i_ne c_21
          have n_31 : (63 : Int32).toInt = 63 := by decide
          refine wp_if (fun c_30 => ?_) (fun c_30 => ?_)
          ·
            have dc_30 := i_eq c_30
            refine wp_bd2 (sf_X2_pop hN h_3 h_4 h_5) (fun r_16 w_17 ⟨q_32, q_33⟩ => ?_)
            have n_35 : (0 : Int32).toInt = 0 := by decide
            refine wp_if (fun c_34 => ?_) (fun c_34 => ?_)
            ·
              have dc_34 := i_eq c_34
              refine wp_of (uf_X2_worth_173 _ _ _ _ _ _ _ _ _ _ _ _ _ _) ?_
              refine wp_of (uf_X2_worth_317 _ _ _ _ _ _ _ _ _ _ _ _ _ _) ?_
              have n_37 : (1 : Int32).toInt = 1 := by decide
              refine wp_nm (fun y_69__36 h_y_69__36 => ?_)
              have e_38 := i_addE h_y_69__36.symm (by omega) (by omega)
              exact ih _ _ _ _ _ _ _ _ _ _ _ _ h_0 h_1 h_2 h_3 q_32 q_33 (by omega) (by omega) (by omega)
            ·
              have dc_34 := i_ne c_34
              refine wp_of (uf_X2_worth_173 _ _ _ _ _ _ _ _ _ _ _ _ _ _) ?_
              refine wp_of (uf_X2_worth_317 _ _ _ _ _ _ _ _ _ _ _ _ _ _) ?_
              have n_40 : (1 : Int32).toInt = 1 := by decide
              refine wp_nm (fun y_69__39 h_y_69__39 => ?_)
              have e_41 := i_addE h_y_69__39.symm (by omega) (by omega)
              exact ih _ _ _ _ _ _ _ _ _ _ _ _ h_0 h_1 h_2 h_3 q_32 q_33 (by omega) (by omega) (by omega)
          ·
            have dc_30 := i_ne c_30
            have n_43 : (98 : Int32).toInt = 98 := by decide
            refine wp_if (fun c_42 => ?_) (fun c_42 => ?_)
            ·
              have dc_42 := i_eq c_42
              refine wp_bd2 (sf_X2_push hN h_3 h_4 h_5) (fun w_21 w_22 ⟨q_44, q_45, q_46⟩ => ?_)
              refine wp_of (uf_X2_worth_317 _ _ _ _ _ _ _ _ _ _ _ _ _ _) ?_
              have n_48 : (1 : Int32).toInt = 1 := by decide
              refine wp_nm (fun y_69__47 h_y_69__47 => ?_)
              have e_49 := i_addE h_y_69__47.symm (by omega) (by omega)
              exact ih _ _ _ _ _ _ _ _ _ _ _ _ h_0 h_1 h_2 q_44 q_45 q_46 (by omega) (by omega) (by omega)
            ·
              have dc_42 := i_ne c_42
              have n_51 : (102 : Int32).toInt = 102 := by decide
              refine wp_if (fun c_50 => ?_) (fun c_50 => ?_)
              ·
                have dc_50 := i_eq c_50
                refine wp_bd2 (sf_X2_push hN h_3 h_4 h_5) (fun w_25 w_26 ⟨q_52, q_53, q_54⟩ => ?_)
                refine wp_of (uf_X2_worth_317 _ _ _ _ _ _ _ _ _ _ _ _ _ _) ?_
                have n_56 : (1 : Int32).toInt = 1 := by decide
                refine wp_nm (fun y_69__55 h_y_69__55 => ?_)
                have e_57 := i_addE h_y_69__55.symm (by omega) (by omega)
                exact ih _ _ _ _ _ _ _ _ _ _ _ _ h_0 h_1 h_2 q_52 q_53 q_54 (by omega) (by omega) (by omega)
              ·
                have dc_50 := i_ne c_50
                have n_59 : (107 : Int32).toInt = 107 := by decide
                refine wp_if (fun c_58 => ?_) (fun c_58 => ?_)
                ·
                  have dc_58 := i_eq c_58
                  refine wp_bd2 (sf_X2_push hN h_3 h_4 h_5) (fun w_29 w_30 ⟨q_60, q_61, q_62⟩ => ?_)
                  refine wp_of (uf_X2_worth_317 _ _ _ _ _ _ _ _ _ _ _ _ _ _) ?_
                  have n_64 : (1 : Int32).toInt = 1 := by decide
                  refine wp_nm (fun y_69__63 h_y_69__63 => ?_)
                  have e_65 := i_addE h_y_69__63.symm (by omega) (by omega)
                  exact ih _ _ _ _ _ _ _ _ _ _ _ _ h_0 h_1 h_2 q_60 q_61 q_62 (by omega) (by omega) (by omega)
                ·
                  have dc_58 := i_ne c_58
                  have n_67 : (110 : Int32).toInt = 110 := by decide
                  refine wp_if (fun c_66 => ?_) (fun c_66 => ?_)
                  ·
                    have dc_66 := i_eq c_66
                    refine wp_bd2 (sf_X2_push hN h_3 h_4 h_5) (fun w_33 w_34 ⟨q_68, q_69, q_70⟩ => ?_)
                    refine wp_of (uf_X2_worth_317 _ _ _ _ _ _ _ _ _ _ _ _ _ _) ?_
                    have n_72 : (1 : Int32).toInt = 1 := by decide
                    refine wp_nm (fun y_69__71 h_y_69__71 => ?_)
                    have e_73 := i_addE h_y_69__71.symm (by omega) (by omega)
                    exact ih _ _ _ _ _ _ _ _ _ _ _ _ h_0 h_1 h_2 q_68 q_69 q_70 (by omega) (by omega) (by omega)
                  ·
                    have dc_66 := i_ne c_66
                    have n_75 : (114 : Int32).toInt = 114 := by decide
                    refine wp_if (fun c_74 => ?_) (fun c_74 => ?_)
                    ·
                      have dc_74 := i_eq c_74
                      refine wp_bd2 (sf_X2_push hN h_3 h_4 h_5) (fun w_37 w_38 ⟨q_76, q_77, q_78⟩ => ?_)
                      refine wp_of (uf_X2_worth_317 _ _ _ _ _ _ _ _ _ _ _ _ _ _) ?_
                      have n_80 : (1 : Int32).toInt = 1 := by decide
                      refine wp_nm (fun y_69__79 h_y_69__79 => ?_)
                      have e_81 := i_addE h_y_69__79.symm (by omega) (by omega)
                      exact ih _ _ _ _ _ _ _ _ _ _ _ _ h_0 h_1 h_2 q_76 q_77 q_78 (by omega) (by omega) (by omega)
                    ·
                      have dc_74 := i_ne c_74
                      have n_83 : (119 : Int32).toInt = 119 := by decide
                      refine wp_if (fun c_82 => ?_) (fun c_82 => ?_)
                      ·
                        have dc_82 := i_eq c_82
                        refine wp_bd2 (sf_X2_push hN h_3 h_4 h_5) (fun w_41 w_42 ⟨q_84, q_85, q_86⟩ => ?_)
                        refine wp_of (uf_X2_worth_317 _ _ _ _ _ _ _ _ _ _ _ _ _ _) ?_
                        have n_88 : (1 : Int32).toInt = 1 := by decide
                        refine wp_nm (fun y_69__87 h_y_69__87 => ?_)
                        have e_89 := i_addE h_y_69__87.symm (by omega) (by omega)
                        exact ih _ _ _ _ _ _ _ _ _ _ _ _ h_0 h_1 h_2 q_84 q_85 q_86 (by omega) (by omega) (by omega)
                      ·
                        have dc_82 := i_ne c_82
                        have n_91 : (126 : Int32).toInt = 126 := by decide
                        refine wp_if (fun c_90 => ?_) (fun c_90 => ?_)
                        ·
                          have dc_90 := i_eq c_90
                          refine wp_bd2 (sf_X2_pop hN h_3 h_4 h_5) (fun r_45 w_46 ⟨q_92, q_93⟩ => ?_)
                          refine wp_bd2 (sf_X2_push hN h_3 q_92 q_93) (fun w_48 w_49 ⟨q_94, q_95, q_96⟩ => ?_)
                          refine wp_of (uf_X2_worth_317 _ _ _ _ _ _ _ _ _ _ _ _ _ _) ?_
                          have n_98 : (1 : Int32).toInt = 1 := by decide
                          refine wp_nm (fun y_69__97 h_y_69__97 => ?_)
                          have e_99 := i_addE h_y_69__97.symm (by omega) (by omega)
                          exact ih _ _ _ _ _ _ _ _ _ _ _ _ h_0 h_1 h_2 q_94 q_95 q_96 (by omega) (by omega) (by omega)
                        ·
                          have dc_90 := i_ne c_90
                          refine wp_ck (i_inb (by omega) (by omega)) ?_
                          have n_101 : (1000 : Int32).toInt = 1000 := by decide
                          refine wp_if (fun c_100 => ?_) (fun c_100 => ?_)
                          ·
                            have dc_100 := i_lt c_100
                            refine wp_bd2 (sf_X2_pop hN h_3 h_4 h_5) (fun r_53 w_54 ⟨q_102, q_103⟩ => ?_)
                            refine wp_ck (i_inb (by omega) (by omega)) ?_
                            refine wp_bd2 (sf_X2_pop hN h_3 q_102 q_103) (fun r_57 w_58 ⟨q_104, q_105⟩ => ?_)
                            refine wp_bd1 (sf_X2_joined hN ) (fun r_60 _ => ?_)
                            refine wp_bd2 (sf_X2_push hN h_3 q_104 q_105) (fun w_62 w_63 ⟨q_106, q_107, q_108⟩ => ?_)
                            refine wp_of (uf_X2_worth_317 _ _ _ _ _ _ _ _ _ _ _ _ _ _) ?_
                            have n_110 : (1 : Int32).toInt = 1 := by decide
                            refine wp_nm (fun y_69__109 h_y_69__109 => ?_)
                            have e_111 := i_addE h_y_69__109.symm (by omega) (by omega)
                            exact ih _ _ _ _ _ _ _ _ _ _ _ _ h_0 h_1 h_2 q_106 q_107 q_108 (by omega) (by omega) (by omega)
                          ·
                            have dc_100 := i_nlt c_100
                            refine wp_ck (i_inb (by omega) (by omega)) ?_
                            refine wp_bd2 (sf_X2_push hN h_3 h_4 h_5) (fun w_66 w_67 ⟨q_112, q_113, q_114⟩ => ?_)
                            refine wp_of (uf_X2_worth_317 _ _ _ _ _ _ _ _ _ _ _ _ _ _) ?_
                            have n_116 : (1 : Int32).toInt = 1 := by decide
                            refine wp_nm (fun y_69__115 h_y_69__115 => ?_)
                            have e_117 := i_addE h_y_69__115.symm (by omega) (by omega)
                            exact ih _ _ _ _ _ _ _ _ _ _ _ _ h_0 h_1 h_2 q_112 q_113 q_114 (by omega) (by omega) (by omega)

theorem uf_X2_worth (N : Nat) (x1 : Int32) (x2 : Int32) (x3 : Int32) (x4 : Int32) (x5 : Int32) (x6 : Int32) (v_stepCount : Int32) (v_stacked : Int32) (v_steps : List Int32) (v_stack : List Int32) : fX2_worth N x1 x2 x3 x4 x5 x6 v_stepCount v_stacked v_steps v_stack = if v_stepCount = 0 then
    (some (((1 : Int32) + ((2 : Int32) * x3)), v_stacked, v_stack))
    else (fX2_worth_24 N N x1 x2 x3 x4 x5 x6 (1 : Int32) (0 : Int32) v_stepCount (0 : Int32) v_steps v_stack) := rfl

set_option maxHeartbeats 4000000 in
set_option maxRecDepth 20000 in
theorem sf_X2_worth {N : Nat} (hN : 700 ≤ N) {x1 : Int32} {x2 : Int32} {x3 : Int32} {x4 : Int32} {x5 : Int32} {x6 : Int32} {v_stepCount : Int32} {v_stacked : Int32} {v_steps : List Int32} {v_stack : List Int32} (h_0 : 0 ≤ v_stepCount.toInt) (h_1 : v_stepCount.toInt ≤ 121) (h_2 : v_steps.length = 121) (h_3 : v_stack.length = 121) : wp (fX2_worth N x1 x2 x3 x4 x5 x6 v_stepCount v_stacked v_steps v_stack) (cu3 (fun (r : Int32) (wv_stacked : Int32) (wv_stack : List Int32) => wv_stack.length = 121)) := by
  refine wp_of (uf_X2_worth _ _ _ _ _ _ _ _ _ _ _) ?_
  have n_2 : (0 : Int32).toInt = 0 := by decide
  refine wp_if (fun c_1 => ?_) (fun c_1 => ?_)
  ·
    have dc_1 := i_eq c_1
    exact wp_so3 h_3
  ·
    have dc_1 := i_ne c_1
    exact sf_X2_worth_24 hN _ _ _ _ _ _ _ _ _ _ _ _ _ h_0 h_1 h_2 h_3 (by omega) (by omega) (by omega) (by omega) (by omega)
end
