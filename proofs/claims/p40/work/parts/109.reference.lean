/-! reference: X9_foldsOn, X9_fold, X9_flat, X9_crease, X9_sizeAt, X9_fieldAt, X9_shape, X9_isField -/
theorem dX9_foldsOn_0 : decode cX9_foldsOn 0 = .ok (.aload_n 0, 1) := by decide +kernel
theorem dX9_foldsOn_1 : decode cX9_foldsOn 1 = .ok (.iload_n 1, 1) := by decide +kernel
theorem dX9_foldsOn_2 : decode cX9_foldsOn 2 = .ok (.iload_n 2, 1) := by decide +kernel
theorem dX9_foldsOn_3 : decode cX9_foldsOn 3 = .ok (.iload_n 3, 1) := by decide +kernel
theorem dX9_foldsOn_4 : decode cX9_foldsOn 4 = .ok (.invokevirtual 231, 3) := by decide +kernel
theorem dX9_foldsOn_7 : decode cX9_foldsOn 7 = .ok (.aload_n 0, 1) := by decide +kernel
theorem dX9_foldsOn_8 : decode cX9_foldsOn 8 = .ok (.iload_n 1, 1) := by decide +kernel
theorem dX9_foldsOn_9 : decode cX9_foldsOn 9 = .ok (.iload_n 2, 1) := by decide +kernel
theorem dX9_foldsOn_10 : decode cX9_foldsOn 10 = .ok (.iload_n 3, 1) := by decide +kernel
theorem dX9_foldsOn_11 : decode cX9_foldsOn 11 = .ok (.invokevirtual 235, 3) := by decide +kernel
theorem dX9_foldsOn_14 : decode cX9_foldsOn 14 = .ok (.return_, 1) := by decide +kernel
def fX9_foldsOn (N : Nat) (x1 : Int32) (x2 : Int32) (x3 : Int32) (v_rowsOf : Int32) (v_columnsOf : Int32) (v_textMany : Int32) (v_base : Int32) (v_at : Int32) (v_ends : Int32) (v_fault : Int32) (v_opened : Int32) (v_bentMany : Int32) (v_bentWrong : Int32) (v_moreWorn : Int32) (v_limit : List Int32) (v_shapeRows : List Int32) (v_shapeColumns : List Int32) (v_row : List Int32) (v_column : List Int32) (v_below : List Int32) (v_face : List Int32) (v_worn : List Int32) (v_lastBend : List Int32) (v_tape : List Int32) (v_text : List Int32) (v_names : List Int32) (v_bends : List Int32) (v_high : List Int32) (v_to : List Int32) (v_pileSize : List Int32) : Option (Int32 × Int32 × Int32 × Int32 × Int32 × Int32 × Int32 × Int32 × List Int32 × List Int32 × List Int32 × List Int32 × List Int32 × List Int32 × List Int32 × List Int32 × List Int32 × List Int32 × List Int32 × List Int32 × List Int32) :=
    mm_bd12 (fX9_bendsAll N x1 x2 x3 v_rowsOf v_columnsOf v_textMany v_base v_at v_ends v_fault v_opened v_bentMany v_bentWrong v_moreWorn v_limit v_row v_column v_face v_worn v_lastBend v_tape v_text v_names v_bends) (fun (w_1 : Int32) (w_2 : Int32) (w_3 : Int32) (w_4 : Int32) (w_5 : Int32) (w_6 : Int32) (w_7 : Int32) (w_8 : Int32) (w_9 : List Int32) (w_10 : List Int32) (w_11 : List Int32) (w_12 : List Int32) =>
    mm_bd9 (fX9_movesAll N x1 x2 x3 v_rowsOf v_columnsOf v_shapeRows v_shapeColumns v_row v_column v_below v_face v_high v_to v_pileSize) (fun (w_14 : List Int32) (w_15 : List Int32) (w_16 : List Int32) (w_17 : List Int32) (w_18 : List Int32) (w_19 : List Int32) (w_20 : List Int32) (w_21 : List Int32) (w_22 : List Int32) =>
    some (w_1, w_2, w_3, w_4, w_5, w_6, w_7, w_8, w_14, w_15, w_16, w_17, w_18, w_19, w_9, w_10, w_11, w_12, w_20, w_21, w_22)))

set_option maxHeartbeats 4000000 in
set_option maxRecDepth 100000 in
theorem ctX9_foldsOn {l : Launch} {D : va_G} {cI cL cS cH : ClassId} {a : Nat → Nat} {x1 : Int32} {x2 : Int32} {x3 : Int32} {v_keptMany : Int32} {v_done : Int32} {v_rowsOf : Int32} {v_columnsOf : Int32} {v_folded : Int32} {v_wronged : Int32} {v_tapeMany : Int32} {v_textMany : Int32} {v_base : Int32} {v_at : Int32} {v_ends : Int32} {v_fault : Int32} {v_opened : Int32} {v_bentMany : Int32} {v_bentWrong : Int32} {v_moreWorn : Int32} {v_planned : Int32} {v_allWrong : Int32} {v_allWorn : Int32} {v_z : Int32} {v_wishedField : Int32} {v_isFound : Bool} {v_bestWrong : Int32} {v_bestWorn : Int32} {v_bestMany : Int32} {v_soughtBy : Int32} {v_sought : Int32} {v_soughtAt : Int32} {v_foundMany : Int32} {v_foundOrder : Int32} {v_isKept : Bool} {v_imageRows : Int32} {v_imageColumns : Int32} {v_imageFolded : Int32} {v_imageWronged : Int32} {v_bodies : Int32} {v_ran : Int32} {v_ownKind : Int32} {v_ownNumber : Int32} {v_limit : List Int32} {v_changeWas : List Int32} {v_changeIs : List Int32} {v_shapeRows : List Int32} {v_shapeColumns : List Int32} {v_row : List Int32} {v_column : List Int32} {v_below : List Int32} {v_face : List Int32} {v_worn : List Int32} {v_lastBend : List Int32} {v_tape : List Int32} {v_text : List Int32} {v_names : List Int32} {v_bends : List Int32} {v_high : List Int32} {v_to : List Int32} {v_pileSize : List Int32} {v_planLine : List Int32} {v_planWay : List Int32} {v_way1 : List Int32} {v_bestWay : List Int32} {v_order1 : List Int32} {v_placeIn : List Int32} {v_bodyKind : List Int32} {v_trace : List Int32} {v_shelf : List Int32} {v_many : List Int32} {v_items : List Int64} {v_carried : List Int64} {w_base : Int32} {w_at : Int32} {w_ends : Int32} {w_fault : Int32} {w_opened : Int32} {w_bentMany : Int32} {w_bentWrong : Int32} {w_moreWorn : Int32} {w_shapeRows : List Int32} {w_shapeColumns : List Int32} {w_row : List Int32} {w_column : List Int32} {w_below : List Int32} {w_face : List Int32} {w_worn : List Int32} {w_lastBend : List Int32} {w_names : List Int32} {w_bends : List Int32} {w_high : List Int32} {w_to : List Int32} {w_pileSize : List Int32} {N d : Nat} (hd : 59 ≤ d) (hf : fX9_foldsOn N x1 x2 x3 v_rowsOf v_columnsOf v_textMany v_base v_at v_ends v_fault v_opened v_bentMany v_bentWrong v_moreWorn v_limit v_shapeRows v_shapeColumns v_row v_column v_below v_face v_worn v_lastBend v_tape v_text v_names v_bends v_high v_to v_pileSize = some (w_base, w_at, w_ends, w_fault, w_opened, w_bentMany, w_bentWrong, w_moreWorn, w_shapeRows, w_shapeColumns, w_row, w_column, w_below, w_face, w_worn, w_lastBend, w_names, w_bends, w_high, w_to, w_pileSize)) : mm_Ct l yX9_foldsOn cX9_foldsOn 4 none d D (mm_T cI cL cS cH) [.ref (a 0), .int x1, .int x2, .int x3] (wd_X9 cI cL cS cH a v_keptMany v_done v_rowsOf v_columnsOf v_folded v_wronged v_tapeMany v_textMany v_base v_at v_ends v_fault v_opened v_bentMany v_bentWrong v_moreWorn v_planned v_allWrong v_allWorn v_z v_wishedField v_isFound v_bestWrong v_bestWorn v_bestMany v_soughtBy v_sought v_soughtAt v_foundMany v_foundOrder v_isKept v_imageRows v_imageColumns v_imageFolded v_imageWronged v_bodies v_ran v_ownKind v_ownNumber v_limit v_changeWas v_changeIs v_shapeRows v_shapeColumns v_row v_column v_below v_face v_worn v_lastBend v_tape v_text v_names v_bends v_high v_to v_pileSize v_planLine v_planWay v_way1 v_bestWay v_order1 v_placeIn v_bodyKind v_trace v_shelf v_many v_items v_carried) (wd_X9 cI cL cS cH a v_keptMany v_done v_rowsOf v_columnsOf v_folded v_wronged v_tapeMany v_textMany w_base w_at w_ends w_fault w_opened w_bentMany w_bentWrong w_moreWorn v_planned v_allWrong v_allWorn v_z v_wishedField v_isFound v_bestWrong v_bestWorn v_bestMany v_soughtBy v_sought v_soughtAt v_foundMany v_foundOrder v_isKept v_imageRows v_imageColumns v_imageFolded v_imageWronged v_bodies v_ran v_ownKind v_ownNumber v_limit v_changeWas v_changeIs w_shapeRows w_shapeColumns w_row w_column w_below w_face w_worn w_lastBend v_tape v_text w_names w_bends w_high w_to w_pileSize v_planLine v_planWay v_way1 v_bestWay v_order1 v_placeIn v_bodyKind v_trace v_shelf v_many v_items v_carried) none := by
  refine mm_of (by decide) (Nat.le_of_ble_eq_true rfl) ?_
  intro p e s m args below meth c A H locs ls C0 hP hD hA hS hl
  have C0 : mm_Cx p s m args meth c RX9 cX9_foldsOn 4 none D (mm_T cI cL cS cH) A := C0
  obtain ⟨hx, hb, hml, hown, hts, hr, hlocks, hK, hSt⟩ := id C0
  have hl : lv_has ls 4 [(0, .ref (a 0)), (1, .int x1), (2, .int x2), (3, .int x3)] := hl
  unfold fX9_foldsOn at hf
  refine lv_aload_n hx hb dX9_foldsOn_0 rfl (lv_at hl 0 rfl) ?_
  refine lv_iload_n hx hb dX9_foldsOn_1 rfl (lv_at hl 1 rfl) ?_
  refine lv_iload_n hx hb dX9_foldsOn_2 rfl (lv_at hl 2 rfl) ?_
  refine lv_iload_n hx hb dX9_foldsOn_3 rfl (lv_at hl 3 rfl) ?_
  refine mm_ct12 hf (fun w_1 w_2 w_3 w_4 w_5 w_6 w_7 w_8 w_9 w_10 w_11 w_12 hc_13 hf => ?_)
  refine mm_callVF (q0 := 0) (ci := 9) (rest := []) C0 lk_X9_231 (ctX9_bendsAll (a := a) (d := d - 1) (by omega) hc_13) (by omega) rfl hl.1 rfl (mm_cat rfl) dX9_foldsOn_4 hP hD hA hS rfl rfl (fun H locs hP hD hS => ?_)
  refine W.eq (g2 := F0 m 7 ls []) rfl ?_
  refine lv_aload_n hx hb dX9_foldsOn_7 rfl (lv_at hl 0 rfl) ?_
  refine lv_iload_n hx hb dX9_foldsOn_8 rfl (lv_at hl 1 rfl) ?_
  refine lv_iload_n hx hb dX9_foldsOn_9 rfl (lv_at hl 2 rfl) ?_
  refine lv_iload_n hx hb dX9_foldsOn_10 rfl (lv_at hl 3 rfl) ?_
  refine mm_ct9 hf (fun w_14 w_15 w_16 w_17 w_18 w_19 w_20 w_21 w_22 hc_23 hf => ?_)
  refine mm_callVF (q0 := 0) (ci := 9) (rest := []) C0 lk_X9_235 (ctX9_movesAll (a := a) (d := d - 1) (by omega) hc_23) (by omega) rfl hl.1 rfl (mm_cat rfl) dX9_foldsOn_11 hP hD hA hS rfl rfl (fun H locs hP hD hS => ?_)
  refine W.eq (g2 := F0 m 14 ls []) rfl ?_
  apply mm_sub21 hf
  exact mm_vret C0 hP hD hS dX9_foldsOn_14

theorem dX9_fold_0 : decode cX9_fold 0 = .ok (.iload_n 2, 1) := by decide +kernel
theorem dX9_fold_1 : decode cX9_fold 1 = .ok (.i2l, 1) := by decide +kernel
theorem dX9_fold_2 : decode cX9_fold 2 = .ok (.lconst 0, 1) := by decide +kernel
theorem dX9_fold_3 : decode cX9_fold 3 = .ok (.ldc2_w 238, 3) := by decide +kernel
theorem dX9_fold_6 : decode cX9_fold 6 = .ok (.invokestatic 111, 3) := by decide +kernel
theorem dX9_fold_9 : decode cX9_fold 9 = .ok (.ifCond .ne 5, 3) := by decide +kernel
theorem dX9_fold_12 : decode cX9_fold 12 = .ok (.iconst (-1), 1) := by decide +kernel
theorem dX9_fold_13 : decode cX9_fold 13 = .ok (.ireturn, 1) := by decide +kernel
theorem dX9_fold_14 : decode cX9_fold 14 = .ok (.aload_n 0, 1) := by decide +kernel
theorem dX9_fold_15 : decode cX9_fold 15 = .ok (.iconst 0, 1) := by decide +kernel
theorem dX9_fold_16 : decode cX9_fold 16 = .ok (.iload_n 1, 1) := by decide +kernel
theorem dX9_fold_17 : decode cX9_fold 17 = .ok (.iload_n 2, 1) := by decide +kernel
theorem dX9_fold_18 : decode cX9_fold 18 = .ok (.invokevirtual 240, 3) := by decide +kernel
theorem dX9_fold_21 : decode cX9_fold 21 = .ok (.ifCond .ne 6, 3) := by decide +kernel
theorem dX9_fold_24 : decode cX9_fold 24 = .ok (.bipush (-2), 2) := by decide +kernel
theorem dX9_fold_26 : decode cX9_fold 26 = .ok (.ireturn, 1) := by decide +kernel
theorem dX9_fold_27 : decode cX9_fold 27 = .ok (.aload_n 0, 1) := by decide +kernel
theorem dX9_fold_28 : decode cX9_fold 28 = .ok (.iconst 0, 1) := by decide +kernel
theorem dX9_fold_29 : decode cX9_fold 29 = .ok (.iload_n 1, 1) := by decide +kernel
theorem dX9_fold_30 : decode cX9_fold 30 = .ok (.iload_n 2, 1) := by decide +kernel
theorem dX9_fold_31 : decode cX9_fold 31 = .ok (.invokevirtual 244, 3) := by decide +kernel
theorem dX9_fold_34 : decode cX9_fold 34 = .ok (.aload_n 0, 1) := by decide +kernel
theorem dX9_fold_35 : decode cX9_fold 35 = .ok (.dup, 1) := by decide +kernel
theorem dX9_fold_36 : decode cX9_fold 36 = .ok (.getfield 135, 3) := by decide +kernel
theorem dX9_fold_39 : decode cX9_fold 39 = .ok (.iconst 1, 1) := by decide +kernel
theorem dX9_fold_40 : decode cX9_fold 40 = .ok (.iadd, 1) := by decide +kernel
theorem dX9_fold_41 : decode cX9_fold 41 = .ok (.putfield 135, 3) := by decide +kernel
theorem dX9_fold_44 : decode cX9_fold 44 = .ok (.aload_n 0, 1) := by decide +kernel
theorem dX9_fold_45 : decode cX9_fold 45 = .ok (.dup, 1) := by decide +kernel
theorem dX9_fold_46 : decode cX9_fold 46 = .ok (.getfield 138, 3) := by decide +kernel
theorem dX9_fold_49 : decode cX9_fold 49 = .ok (.aload_n 0, 1) := by decide +kernel
theorem dX9_fold_50 : decode cX9_fold 50 = .ok (.getfield 211, 3) := by decide +kernel
theorem dX9_fold_53 : decode cX9_fold 53 = .ok (.iadd, 1) := by decide +kernel
theorem dX9_fold_54 : decode cX9_fold 54 = .ok (.putfield 138, 3) := by decide +kernel
theorem dX9_fold_57 : decode cX9_fold 57 = .ok (.aload_n 0, 1) := by decide +kernel
theorem dX9_fold_58 : decode cX9_fold 58 = .ok (.getfield 208, 3) := by decide +kernel
theorem dX9_fold_61 : decode cX9_fold 61 = .ok (.ireturn, 1) := by decide +kernel
def fX9_fold (N : Nat) (x1 : Int32) (x2 : Int32) (v_rowsOf : Int32) (v_columnsOf : Int32) (v_folded : Int32) (v_wronged : Int32) (v_textMany : Int32) (v_base : Int32) (v_at : Int32) (v_ends : Int32) (v_fault : Int32) (v_opened : Int32) (v_bentMany : Int32) (v_bentWrong : Int32) (v_moreWorn : Int32) (v_limit : List Int32) (v_shapeRows : List Int32) (v_shapeColumns : List Int32) (v_row : List Int32) (v_column : List Int32) (v_below : List Int32) (v_face : List Int32) (v_worn : List Int32) (v_lastBend : List Int32) (v_tape : List Int32) (v_text : List Int32) (v_names : List Int32) (v_bends : List Int32) (v_high : List Int32) (v_to : List Int32) (v_pileSize : List Int32) : Option (Int32 × Int32 × Int32 × Int32 × Int32 × Int32 × Int32 × Int32 × Int32 × Int32 × Int32 × List Int32 × List Int32 × List Int32 × List Int32 × List Int32 × List Int32 × List Int32 × List Int32 × List Int32 × List Int32 × List Int32 × List Int32 × List Int32) :=
    mm_bd1 (fX9_within N ((x2).toInt64) (0 : Int64) (7 : Int64)) (fun (r_1 : Bool) =>
    if r_1 = false then
    (some ((-1 : Int32), v_folded, v_wronged, v_base, v_at, v_ends, v_fault, v_opened, v_bentMany, v_bentWrong, v_moreWorn, v_shapeRows, v_shapeColumns, v_row, v_column, v_below, v_face, v_worn, v_lastBend, v_names, v_bends, v_high, v_to, v_pileSize))
    else (mm_bd1 (fX9_isLine N (0 : Int32) x1 x2 v_shapeRows v_shapeColumns) (fun (r_4 : Bool) =>
    if r_4 = false then
    (some ((-2 : Int32), v_folded, v_wronged, v_base, v_at, v_ends, v_fault, v_opened, v_bentMany, v_bentWrong, v_moreWorn, v_shapeRows, v_shapeColumns, v_row, v_column, v_below, v_face, v_worn, v_lastBend, v_names, v_bends, v_high, v_to, v_pileSize))
    else (mm_bd21 (fX9_foldsOn N (0 : Int32) x1 x2 v_rowsOf v_columnsOf v_textMany v_base v_at v_ends v_fault v_opened v_bentMany v_bentWrong v_moreWorn v_limit v_shapeRows v_shapeColumns v_row v_column v_below v_face v_worn v_lastBend v_tape v_text v_names v_bends v_high v_to v_pileSize) (fun (w_7 : Int32) (w_8 : Int32) (w_9 : Int32) (w_10 : Int32) (w_11 : Int32) (w_12 : Int32) (w_13 : Int32) (w_14 : Int32) (w_15 : List Int32) (w_16 : List Int32) (w_17 : List Int32) (w_18 : List Int32) (w_19 : List Int32) (w_20 : List Int32) (w_21 : List Int32) (w_22 : List Int32) (w_23 : List Int32) (w_24 : List Int32) (w_25 : List Int32) (w_26 : List Int32) (w_27 : List Int32) =>
    mm_nm ((v_folded + (1 : Int32))) (fun (y_29 : Int32) =>
    mm_nm ((v_wronged + w_13)) (fun (y_30 : Int32) =>
    some (w_12, y_29, y_30, w_7, w_8, w_9, w_10, w_11, w_12, w_13, w_14, w_15, w_16, w_17, w_18, w_19, w_20, w_21, w_22, w_23, w_24, w_25, w_26, w_27))))))))

set_option maxHeartbeats 4000000 in
set_option maxRecDepth 100000 in
theorem ctX9_fold {l : Launch} {D : va_G} {cI cL cS cH : ClassId} {a : Nat → Nat} {x1 : Int32} {x2 : Int32} {v_keptMany : Int32} {v_done : Int32} {v_rowsOf : Int32} {v_columnsOf : Int32} {v_folded : Int32} {v_wronged : Int32} {v_tapeMany : Int32} {v_textMany : Int32} {v_base : Int32} {v_at : Int32} {v_ends : Int32} {v_fault : Int32} {v_opened : Int32} {v_bentMany : Int32} {v_bentWrong : Int32} {v_moreWorn : Int32} {v_planned : Int32} {v_allWrong : Int32} {v_allWorn : Int32} {v_z : Int32} {v_wishedField : Int32} {v_isFound : Bool} {v_bestWrong : Int32} {v_bestWorn : Int32} {v_bestMany : Int32} {v_soughtBy : Int32} {v_sought : Int32} {v_soughtAt : Int32} {v_foundMany : Int32} {v_foundOrder : Int32} {v_isKept : Bool} {v_imageRows : Int32} {v_imageColumns : Int32} {v_imageFolded : Int32} {v_imageWronged : Int32} {v_bodies : Int32} {v_ran : Int32} {v_ownKind : Int32} {v_ownNumber : Int32} {v_limit : List Int32} {v_changeWas : List Int32} {v_changeIs : List Int32} {v_shapeRows : List Int32} {v_shapeColumns : List Int32} {v_row : List Int32} {v_column : List Int32} {v_below : List Int32} {v_face : List Int32} {v_worn : List Int32} {v_lastBend : List Int32} {v_tape : List Int32} {v_text : List Int32} {v_names : List Int32} {v_bends : List Int32} {v_high : List Int32} {v_to : List Int32} {v_pileSize : List Int32} {v_planLine : List Int32} {v_planWay : List Int32} {v_way1 : List Int32} {v_bestWay : List Int32} {v_order1 : List Int32} {v_placeIn : List Int32} {v_bodyKind : List Int32} {v_trace : List Int32} {v_shelf : List Int32} {v_many : List Int32} {v_items : List Int64} {v_carried : List Int64} {r : Int32} {w_folded : Int32} {w_wronged : Int32} {w_base : Int32} {w_at : Int32} {w_ends : Int32} {w_fault : Int32} {w_opened : Int32} {w_bentMany : Int32} {w_bentWrong : Int32} {w_moreWorn : Int32} {w_shapeRows : List Int32} {w_shapeColumns : List Int32} {w_row : List Int32} {w_column : List Int32} {w_below : List Int32} {w_face : List Int32} {w_worn : List Int32} {w_lastBend : List Int32} {w_names : List Int32} {w_bends : List Int32} {w_high : List Int32} {w_to : List Int32} {w_pileSize : List Int32} {N d : Nat} (hd : 60 ≤ d) (hf : fX9_fold N x1 x2 v_rowsOf v_columnsOf v_folded v_wronged v_textMany v_base v_at v_ends v_fault v_opened v_bentMany v_bentWrong v_moreWorn v_limit v_shapeRows v_shapeColumns v_row v_column v_below v_face v_worn v_lastBend v_tape v_text v_names v_bends v_high v_to v_pileSize = some (r, w_folded, w_wronged, w_base, w_at, w_ends, w_fault, w_opened, w_bentMany, w_bentWrong, w_moreWorn, w_shapeRows, w_shapeColumns, w_row, w_column, w_below, w_face, w_worn, w_lastBend, w_names, w_bends, w_high, w_to, w_pileSize)) : mm_Ct l yX9_fold cX9_fold 3 (some .int) d D (mm_T cI cL cS cH) [.ref (a 0), .int x1, .int x2] (wd_X9 cI cL cS cH a v_keptMany v_done v_rowsOf v_columnsOf v_folded v_wronged v_tapeMany v_textMany v_base v_at v_ends v_fault v_opened v_bentMany v_bentWrong v_moreWorn v_planned v_allWrong v_allWorn v_z v_wishedField v_isFound v_bestWrong v_bestWorn v_bestMany v_soughtBy v_sought v_soughtAt v_foundMany v_foundOrder v_isKept v_imageRows v_imageColumns v_imageFolded v_imageWronged v_bodies v_ran v_ownKind v_ownNumber v_limit v_changeWas v_changeIs v_shapeRows v_shapeColumns v_row v_column v_below v_face v_worn v_lastBend v_tape v_text v_names v_bends v_high v_to v_pileSize v_planLine v_planWay v_way1 v_bestWay v_order1 v_placeIn v_bodyKind v_trace v_shelf v_many v_items v_carried) (wd_X9 cI cL cS cH a v_keptMany v_done v_rowsOf v_columnsOf w_folded w_wronged v_tapeMany v_textMany w_base w_at w_ends w_fault w_opened w_bentMany w_bentWrong w_moreWorn v_planned v_allWrong v_allWorn v_z v_wishedField v_isFound v_bestWrong v_bestWorn v_bestMany v_soughtBy v_sought v_soughtAt v_foundMany v_foundOrder v_isKept v_imageRows v_imageColumns v_imageFolded v_imageWronged v_bodies v_ran v_ownKind v_ownNumber v_limit v_changeWas v_changeIs w_shapeRows w_shapeColumns w_row w_column w_below w_face w_worn w_lastBend v_tape v_text w_names w_bends w_high w_to w_pileSize v_planLine v_planWay v_way1 v_bestWay v_order1 v_placeIn v_bodyKind v_trace v_shelf v_many v_items v_carried) (some (.int r)) := by
  refine mm_of (by decide) (Nat.le_of_ble_eq_true rfl) ?_
  intro p e s m args below meth c A H locs ls C0 hP hD hA hS hl
  have C0 : mm_Cx p s m args meth c RX9 cX9_fold 3 (some .int) D (mm_T cI cL cS cH) A := C0
  obtain ⟨hx, hb, hml, hown, hts, hr, hlocks, hK, hSt⟩ := id C0
  have hl : lv_has ls 3 [(0, .ref (a 0)), (1, .int x1), (2, .int x2)] := hl
  unfold fX9_fold at hf
  refine lv_iload_n hx hb dX9_fold_0 rfl (lv_at hl 2 rfl) ?_
  refine lv_i2l hx hb dX9_fold_1 rfl ?_
  refine lv_lconst (v := 0) hx hb dX9_fold_2 (by decide) ?_
  refine lv_ldc2 hx hb hown (hts _ kc_X9_238) dX9_fold_3 ?_
  obtain ⟨r_1, hc_2, hf⟩ := mm_bd1s hf
  refine mm_callS0 (rest := []) C0 lk_X9_111 (ctX9_within (d := d - 1) (by omega) hc_2) (by omega) rfl hl.1 rfl (mm_cat rfl) dX9_fold_6 hP hD hA hS (fun H locs hP hS => ?_)
  refine W.eq (g2 := F0 m 9 ls [.int (mm_b r_1)]) rfl ?_
  refine lv_if_ne (tgt := 14) hx hb dX9_fold_9 (by decide) (fun c_3 => ?_) (fun c_3 => ?_)
  · have hf := mm_in hf (mm_b1 c_3)
    refine lv_aload_n hx hb dX9_fold_14 rfl (lv_at hl 0 rfl) ?_
    refine lv_iconst (v := 0) hx hb dX9_fold_15 (by decide) ?_
    refine lv_iload_n hx hb dX9_fold_16 rfl (lv_at hl 1 rfl) ?_
    refine lv_iload_n hx hb dX9_fold_17 rfl (lv_at hl 2 rfl) ?_
    obtain ⟨r_4, hc_5, hf⟩ := mm_bd1s hf
    refine mm_callVF (q0 := 0) (ci := 9) (rest := []) C0 lk_X9_240 (ctX9_isLine (a := a) (d := d - 1) (by omega) hc_5) (by omega) rfl hl.1 rfl (mm_cat rfl) dX9_fold_18 hP hD hA hS rfl rfl (fun H locs hP hD hS => ?_)
    refine W.eq (g2 := F0 m 21 ls [.int (mm_b r_4)]) rfl ?_
    refine lv_if_ne (tgt := 27) hx hb dX9_fold_21 (by decide) (fun c_6 => ?_) (fun c_6 => ?_)
    · have hf := mm_in hf (mm_b1 c_6)
      refine lv_aload_n hx hb dX9_fold_27 rfl (lv_at hl 0 rfl) ?_
      refine lv_iconst (v := 0) hx hb dX9_fold_28 (by decide) ?_
      refine lv_iload_n hx hb dX9_fold_29 rfl (lv_at hl 1 rfl) ?_
      refine lv_iload_n hx hb dX9_fold_30 rfl (lv_at hl 2 rfl) ?_
      refine mm_ct21 hf (fun w_7 w_8 w_9 w_10 w_11 w_12 w_13 w_14 w_15 w_16 w_17 w_18 w_19 w_20 w_21 w_22 w_23 w_24 w_25 w_26 w_27 hc_28 hf => ?_)
      refine mm_callVF (q0 := 0) (ci := 9) (rest := []) C0 lk_X9_244 (ctX9_foldsOn (a := a) (d := d - 1) (by omega) hc_28) (by omega) rfl hl.1 rfl (mm_cat rfl) dX9_fold_31 hP hD hA hS rfl rfl (fun H locs hP hD hS => ?_)
      refine W.eq (g2 := F0 m 34 ls []) rfl ?_
      refine lv_aload_n hx hb dX9_fold_34 rfl (lv_at hl 0 rfl) ?_
      refine lv_dup hx hb dX9_fold_35 rfl ?_
      refine mm_get C0 hP iw_X9 0 rfl rfl 15 (by decide) fl_X9_135 rfl dX9_fold_36 ?_
      refine lv_iconst (v := 1) hx hb dX9_fold_39 (by decide) ?_
      refine lv_iadd hx hb dX9_fold_40 ?_
      refine lv_topi (fun y_29 ey_29 => ?_)
      have hf := mm_nms hf ey_29
      refine mm_put C0 hP hD hS iw_X9 tyX9 tyX9_ok nmX9 0 rfl rfl 15 (by decide) fl_X9_135 rfl rfl rfl (Nat.le_of_ble_eq_true rfl) dX9_fold_41 (w2 := (wd_X9 cI cL cS cH a v_keptMany v_done v_rowsOf v_columnsOf y_29 v_wronged v_tapeMany v_textMany w_7 w_8 w_9 w_10 w_11 w_12 w_13 w_14 v_planned v_allWrong v_allWorn v_z v_wishedField v_isFound v_bestWrong v_bestWorn v_bestMany v_soughtBy v_sought v_soughtAt v_foundMany v_foundOrder v_isKept v_imageRows v_imageColumns v_imageFolded v_imageWronged v_bodies v_ran v_ownKind v_ownNumber v_limit v_changeWas v_changeIs w_15 w_16 w_17 w_18 w_19 w_20 w_21 w_22 v_tape v_text w_23 w_24 w_25 w_26 w_27 v_planLine v_planWay v_way1 v_bestWay v_order1 v_placeIn v_bodyKind v_trace v_shelf v_many v_items v_carried)) rfl (fun H locs hP hD hS => ?_)
      refine lv_aload_n hx hb dX9_fold_44 rfl (lv_at hl 0 rfl) ?_
      refine lv_dup hx hb dX9_fold_45 rfl ?_
      refine mm_get C0 hP iw_X9 0 rfl rfl 16 (by decide) fl_X9_138 rfl dX9_fold_46 ?_
      refine lv_aload_n hx hb dX9_fold_49 rfl (lv_at hl 0 rfl) ?_
      refine mm_get C0 hP iw_X9 0 rfl rfl 29 (by decide) fl_X9_211 rfl dX9_fold_50 ?_
      refine lv_iadd hx hb dX9_fold_53 ?_
      refine lv_topi (fun y_30 ey_30 => ?_)
      have hf := mm_nms hf ey_30
      refine mm_put C0 hP hD hS iw_X9 tyX9 tyX9_ok nmX9 0 rfl rfl 16 (by decide) fl_X9_138 rfl rfl rfl (Nat.le_of_ble_eq_true rfl) dX9_fold_54 (w2 := (wd_X9 cI cL cS cH a v_keptMany v_done v_rowsOf v_columnsOf y_29 y_30 v_tapeMany v_textMany w_7 w_8 w_9 w_10 w_11 w_12 w_13 w_14 v_planned v_allWrong v_allWorn v_z v_wishedField v_isFound v_bestWrong v_bestWorn v_bestMany v_soughtBy v_sought v_soughtAt v_foundMany v_foundOrder v_isKept v_imageRows v_imageColumns v_imageFolded v_imageWronged v_bodies v_ran v_ownKind v_ownNumber v_limit v_changeWas v_changeIs w_15 w_16 w_17 w_18 w_19 w_20 w_21 w_22 v_tape v_text w_23 w_24 w_25 w_26 w_27 v_planLine v_planWay v_way1 v_bestWay v_order1 v_placeIn v_bodyKind v_trace v_shelf v_many v_items v_carried)) rfl (fun H locs hP hD hS => ?_)
      refine lv_aload_n hx hb dX9_fold_57 rfl (lv_at hl 0 rfl) ?_
      refine mm_get C0 hP iw_X9 0 rfl rfl 28 (by decide) fl_X9_208 rfl dX9_fold_58 ?_
      apply mm_sub24 hf
      exact mm_iret C0 hP hD hS dX9_fold_61
    · have hf := mm_ip hf (mm_b0 c_6)
      refine lv_bipush (v := -2) hx hb dX9_fold_24 (by decide) ?_
      apply mm_sub24 hf
      exact mm_iret C0 hP hD hS dX9_fold_26
  · have hf := mm_ip hf (mm_b0 c_3)
    refine lv_iconst (v := -1) hx hb dX9_fold_12 (by decide) ?_
    apply mm_sub24 hf
    exact mm_iret C0 hP hD hS dX9_fold_13

theorem dX9_flat_0 : decode cX9_flat 0 = .ok (.aload_n 0, 1) := by decide +kernel
theorem dX9_flat_1 : decode cX9_flat 1 = .ok (.getfield 19, 3) := by decide +kernel
theorem dX9_flat_4 : decode cX9_flat 4 = .ok (.iconst 0, 1) := by decide +kernel
theorem dX9_flat_5 : decode cX9_flat 5 = .ok (.iaload, 1) := by decide +kernel
theorem dX9_flat_6 : decode cX9_flat 6 = .ok (.aload_n 0, 1) := by decide +kernel
theorem dX9_flat_7 : decode cX9_flat 7 = .ok (.getfield 22, 3) := by decide +kernel
theorem dX9_flat_10 : decode cX9_flat 10 = .ok (.iconst 0, 1) := by decide +kernel
theorem dX9_flat_11 : decode cX9_flat 11 = .ok (.iaload, 1) := by decide +kernel
theorem dX9_flat_12 : decode cX9_flat 12 = .ok (.imul, 1) := by decide +kernel
theorem dX9_flat_13 : decode cX9_flat 13 = .ok (.istore_n 1, 1) := by decide +kernel
theorem dX9_flat_14 : decode cX9_flat 14 = .ok (.aload_n 0, 1) := by decide +kernel
theorem dX9_flat_15 : decode cX9_flat 15 = .ok (.iconst 0, 1) := by decide +kernel
theorem dX9_flat_16 : decode cX9_flat 16 = .ok (.invokevirtual 131, 3) := by decide +kernel
theorem dX9_flat_19 : decode cX9_flat 19 = .ok (.iload_n 1, 1) := by decide +kernel
theorem dX9_flat_20 : decode cX9_flat 20 = .ok (.ireturn, 1) := by decide +kernel
def fX9_flat (N : Nat) (v_rowsOf : Int32) (v_columnsOf : Int32) (v_shapeRows : List Int32) (v_shapeColumns : List Int32) (v_row : List Int32) (v_column : List Int32) (v_below : List Int32) (v_face : List Int32) : Option (Int32 × List Int32 × List Int32 × List Int32 × List Int32 × List Int32 × List Int32) :=
    mm_ck (mm_inb (0 : Int32) v_shapeRows.length) (mm_ck (mm_inb (0 : Int32) v_shapeColumns.length) (mm_nm (((mm_ig v_shapeRows (0 : Int32)) * (mm_ig v_shapeColumns (0 : Int32)))) (fun (y_3 : Int32) =>
    mm_bd6 (fX9_liesFlat N (0 : Int32) v_rowsOf v_columnsOf v_shapeRows v_shapeColumns v_row v_column v_below v_face) (fun (w_4 : List Int32) (w_5 : List Int32) (w_6 : List Int32) (w_7 : List Int32) (w_8 : List Int32) (w_9 : List Int32) =>
    some (y_3, w_4, w_5, w_6, w_7, w_8, w_9)))))

set_option maxHeartbeats 4000000 in
set_option maxRecDepth 100000 in
theorem ctX9_flat {l : Launch} {D : va_G} {cI cL cS cH : ClassId} {a : Nat → Nat}  {v_keptMany : Int32} {v_done : Int32} {v_rowsOf : Int32} {v_columnsOf : Int32} {v_folded : Int32} {v_wronged : Int32} {v_tapeMany : Int32} {v_textMany : Int32} {v_base : Int32} {v_at : Int32} {v_ends : Int32} {v_fault : Int32} {v_opened : Int32} {v_bentMany : Int32} {v_bentWrong : Int32} {v_moreWorn : Int32} {v_planned : Int32} {v_allWrong : Int32} {v_allWorn : Int32} {v_z : Int32} {v_wishedField : Int32} {v_isFound : Bool} {v_bestWrong : Int32} {v_bestWorn : Int32} {v_bestMany : Int32} {v_soughtBy : Int32} {v_sought : Int32} {v_soughtAt : Int32} {v_foundMany : Int32} {v_foundOrder : Int32} {v_isKept : Bool} {v_imageRows : Int32} {v_imageColumns : Int32} {v_imageFolded : Int32} {v_imageWronged : Int32} {v_bodies : Int32} {v_ran : Int32} {v_ownKind : Int32} {v_ownNumber : Int32} {v_limit : List Int32} {v_changeWas : List Int32} {v_changeIs : List Int32} {v_shapeRows : List Int32} {v_shapeColumns : List Int32} {v_row : List Int32} {v_column : List Int32} {v_below : List Int32} {v_face : List Int32} {v_worn : List Int32} {v_lastBend : List Int32} {v_tape : List Int32} {v_text : List Int32} {v_names : List Int32} {v_bends : List Int32} {v_high : List Int32} {v_to : List Int32} {v_pileSize : List Int32} {v_planLine : List Int32} {v_planWay : List Int32} {v_way1 : List Int32} {v_bestWay : List Int32} {v_order1 : List Int32} {v_placeIn : List Int32} {v_bodyKind : List Int32} {v_trace : List Int32} {v_shelf : List Int32} {v_many : List Int32} {v_items : List Int64} {v_carried : List Int64} {r : Int32} {w_shapeRows : List Int32} {w_shapeColumns : List Int32} {w_row : List Int32} {w_column : List Int32} {w_below : List Int32} {w_face : List Int32} {N d : Nat} (hd : 3 ≤ d) (hf : fX9_flat N v_rowsOf v_columnsOf v_shapeRows v_shapeColumns v_row v_column v_below v_face = some (r, w_shapeRows, w_shapeColumns, w_row, w_column, w_below, w_face)) : mm_Ct l yX9_flat cX9_flat 2 (some .int) d D (mm_T cI cL cS cH) [.ref (a 0)] (wd_X9 cI cL cS cH a v_keptMany v_done v_rowsOf v_columnsOf v_folded v_wronged v_tapeMany v_textMany v_base v_at v_ends v_fault v_opened v_bentMany v_bentWrong v_moreWorn v_planned v_allWrong v_allWorn v_z v_wishedField v_isFound v_bestWrong v_bestWorn v_bestMany v_soughtBy v_sought v_soughtAt v_foundMany v_foundOrder v_isKept v_imageRows v_imageColumns v_imageFolded v_imageWronged v_bodies v_ran v_ownKind v_ownNumber v_limit v_changeWas v_changeIs v_shapeRows v_shapeColumns v_row v_column v_below v_face v_worn v_lastBend v_tape v_text v_names v_bends v_high v_to v_pileSize v_planLine v_planWay v_way1 v_bestWay v_order1 v_placeIn v_bodyKind v_trace v_shelf v_many v_items v_carried) (wd_X9 cI cL cS cH a v_keptMany v_done v_rowsOf v_columnsOf v_folded v_wronged v_tapeMany v_textMany v_base v_at v_ends v_fault v_opened v_bentMany v_bentWrong v_moreWorn v_planned v_allWrong v_allWorn v_z v_wishedField v_isFound v_bestWrong v_bestWorn v_bestMany v_soughtBy v_sought v_soughtAt v_foundMany v_foundOrder v_isKept v_imageRows v_imageColumns v_imageFolded v_imageWronged v_bodies v_ran v_ownKind v_ownNumber v_limit v_changeWas v_changeIs w_shapeRows w_shapeColumns w_row w_column w_below w_face v_worn v_lastBend v_tape v_text v_names v_bends v_high v_to v_pileSize v_planLine v_planWay v_way1 v_bestWay v_order1 v_placeIn v_bodyKind v_trace v_shelf v_many v_items v_carried) (some (.int r)) := by
  refine mm_of (by decide) (Nat.le_of_ble_eq_true rfl) ?_
  intro p e s m args below meth c A H locs ls C0 hP hD hA hS hl
  have C0 : mm_Cx p s m args meth c RX9 cX9_flat 2 (some .int) D (mm_T cI cL cS cH) A := C0
  obtain ⟨hx, hb, hml, hown, hts, hr, hlocks, hK, hSt⟩ := id C0
  have hl : lv_has ls 2 [(0, .ref (a 0))] := hl
  unfold fX9_flat at hf
  refine lv_aload_n hx hb dX9_flat_0 rfl (lv_at hl 0 rfl) ?_
  refine mm_get C0 hP iw_X9 0 rfl rfl 7 (by decide) fl_X9_19 rfl dX9_flat_1 ?_
  refine lv_iconst (v := 0) hx hb dX9_flat_4 (by decide) ?_
  obtain ⟨h_1, hf⟩ := mm_cks hf
  refine mm_iald C0 hP 4 rfl h_1 dX9_flat_5 ?_
  refine lv_aload_n hx hb dX9_flat_6 rfl (lv_at hl 0 rfl) ?_
  refine mm_get C0 hP iw_X9 0 rfl rfl 8 (by decide) fl_X9_22 rfl dX9_flat_7 ?_
  refine lv_iconst (v := 0) hx hb dX9_flat_10 (by decide) ?_
  obtain ⟨h_2, hf⟩ := mm_cks hf
  refine mm_iald C0 hP 5 rfl h_2 dX9_flat_11 ?_
  refine lv_imul hx hb dX9_flat_12 ?_
  refine lv_topi (fun y_3 ey_3 => ?_)
  have hf := mm_nms hf ey_3
  refine lv_istore_n (lv' := [(1, .int y_3), (0, .ref (a 0))]) hx hb dX9_flat_13 rfl hl (by decide) rfl (fun ls hl => ?_)
  refine lv_aload_n hx hb dX9_flat_14 rfl (lv_at hl 1 rfl) ?_
  refine lv_iconst (v := 0) hx hb dX9_flat_15 (by decide) ?_
  refine mm_ct6 hf (fun w_4 w_5 w_6 w_7 w_8 w_9 hc_10 hf => ?_)
  refine mm_callVF (q0 := 0) (ci := 9) (rest := []) C0 lk_X9_131 (ctX9_liesFlat (a := a) (d := d - 1) (by omega) hc_10) (by omega) rfl hl.1 rfl (mm_cat rfl) dX9_flat_16 hP hD hA hS rfl rfl (fun H locs hP hD hS => ?_)
  refine W.eq (g2 := F0 m 19 ls []) rfl ?_
  refine lv_iload_n hx hb dX9_flat_19 rfl (lv_at hl 0 rfl) ?_
  apply mm_sub7 hf
  exact mm_iret C0 hP hD hS dX9_flat_20

theorem dX9_crease_0 : decode cX9_crease 0 = .ok (.iload_n 1, 1) := by decide +kernel
theorem dX9_crease_1 : decode cX9_crease 1 = .ok (.ifCond .lt 41, 3) := by decide +kernel
theorem dX9_crease_4 : decode cX9_crease 4 = .ok (.iload_n 1, 1) := by decide +kernel
theorem dX9_crease_5 : decode cX9_crease 5 = .ok (.bipush 10, 2) := by decide +kernel
theorem dX9_crease_7 : decode cX9_crease 7 = .ok (.irem, 1) := by decide +kernel
theorem dX9_crease_8 : decode cX9_crease 8 = .ok (.iconst 1, 1) := by decide +kernel
theorem dX9_crease_9 : decode cX9_crease 9 = .ok (.if_icmp .gt 33, 3) := by decide +kernel
theorem dX9_crease_12 : decode cX9_crease 12 = .ok (.aload_n 0, 1) := by decide +kernel
theorem dX9_crease_13 : decode cX9_crease 13 = .ok (.iconst 2, 1) := by decide +kernel
theorem dX9_crease_14 : decode cX9_crease 14 = .ok (.iload_n 1, 1) := by decide +kernel
theorem dX9_crease_15 : decode cX9_crease 15 = .ok (.bipush 10, 2) := by decide +kernel
theorem dX9_crease_17 : decode cX9_crease 17 = .ok (.idiv, 1) := by decide +kernel
theorem dX9_crease_18 : decode cX9_crease 18 = .ok (.imul, 1) := by decide +kernel
theorem dX9_crease_19 : decode cX9_crease 19 = .ok (.iload_n 1, 1) := by decide +kernel
theorem dX9_crease_20 : decode cX9_crease 20 = .ok (.bipush 10, 2) := by decide +kernel
theorem dX9_crease_22 : decode cX9_crease 22 = .ok (.irem, 1) := by decide +kernel
theorem dX9_crease_23 : decode cX9_crease 23 = .ok (.iadd, 1) := by decide +kernel
theorem dX9_crease_24 : decode cX9_crease 24 = .ok (.invokevirtual 217, 3) := by decide +kernel
theorem dX9_crease_27 : decode cX9_crease 27 = .ok (.ifCond .eq 15, 3) := by decide +kernel
theorem dX9_crease_30 : decode cX9_crease 30 = .ok (.iload_n 2, 1) := by decide +kernel
theorem dX9_crease_31 : decode cX9_crease 31 = .ok (.i2l, 1) := by decide +kernel
theorem dX9_crease_32 : decode cX9_crease 32 = .ok (.lconst 0, 1) := by decide +kernel
theorem dX9_crease_33 : decode cX9_crease 33 = .ok (.ldc2_w 247, 3) := by decide +kernel
theorem dX9_crease_36 : decode cX9_crease 36 = .ok (.invokestatic 111, 3) := by decide +kernel
theorem dX9_crease_39 : decode cX9_crease 39 = .ok (.ifCond .ne 5, 3) := by decide +kernel
theorem dX9_crease_42 : decode cX9_crease 42 = .ok (.iconst (-1), 1) := by decide +kernel
theorem dX9_crease_43 : decode cX9_crease 43 = .ok (.ireturn, 1) := by decide +kernel
theorem dX9_crease_44 : decode cX9_crease 44 = .ok (.iconst 2, 1) := by decide +kernel
theorem dX9_crease_45 : decode cX9_crease 45 = .ok (.iload_n 1, 1) := by decide +kernel
theorem dX9_crease_46 : decode cX9_crease 46 = .ok (.bipush 10, 2) := by decide +kernel
theorem dX9_crease_48 : decode cX9_crease 48 = .ok (.idiv, 1) := by decide +kernel
theorem dX9_crease_49 : decode cX9_crease 49 = .ok (.imul, 1) := by decide +kernel
theorem dX9_crease_50 : decode cX9_crease 50 = .ok (.iload_n 1, 1) := by decide +kernel
theorem dX9_crease_51 : decode cX9_crease 51 = .ok (.bipush 10, 2) := by decide +kernel
theorem dX9_crease_53 : decode cX9_crease 53 = .ok (.irem, 1) := by decide +kernel
theorem dX9_crease_54 : decode cX9_crease 54 = .ok (.iadd, 1) := by decide +kernel
theorem dX9_crease_55 : decode cX9_crease 55 = .ok (.istore_n 3, 1) := by decide +kernel
theorem dX9_crease_56 : decode cX9_crease 56 = .ok (.iload_n 2, 1) := by decide +kernel
theorem dX9_crease_57 : decode cX9_crease 57 = .ok (.ifCond .ne 12, 3) := by decide +kernel
theorem dX9_crease_60 : decode cX9_crease 60 = .ok (.aload_n 0, 1) := by decide +kernel
theorem dX9_crease_61 : decode cX9_crease 61 = .ok (.getfield 37, 3) := by decide +kernel
theorem dX9_crease_64 : decode cX9_crease 64 = .ok (.iload_n 3, 1) := by decide +kernel
theorem dX9_crease_65 : decode cX9_crease 65 = .ok (.iaload, 1) := by decide +kernel
theorem dX9_crease_66 : decode cX9_crease 66 = .ok (.goto 37, 3) := by decide +kernel
theorem dX9_crease_69 : decode cX9_crease 69 = .ok (.iload_n 2, 1) := by decide +kernel
theorem dX9_crease_70 : decode cX9_crease 70 = .ok (.iconst 1, 1) := by decide +kernel
theorem dX9_crease_71 : decode cX9_crease 71 = .ok (.if_icmp .ne 12, 3) := by decide +kernel
theorem dX9_crease_74 : decode cX9_crease 74 = .ok (.aload_n 0, 1) := by decide +kernel
theorem dX9_crease_75 : decode cX9_crease 75 = .ok (.getfield 40, 3) := by decide +kernel
theorem dX9_crease_78 : decode cX9_crease 78 = .ok (.iload_n 3, 1) := by decide +kernel
theorem dX9_crease_79 : decode cX9_crease 79 = .ok (.iaload, 1) := by decide +kernel
theorem dX9_crease_80 : decode cX9_crease 80 = .ok (.goto 23, 3) := by decide +kernel
theorem dX9_crease_83 : decode cX9_crease 83 = .ok (.aload_n 0, 1) := by decide +kernel
theorem dX9_crease_84 : decode cX9_crease 84 = .ok (.getfield 37, 3) := by decide +kernel
theorem dX9_crease_87 : decode cX9_crease 87 = .ok (.iload_n 3, 1) := by decide +kernel
theorem dX9_crease_88 : decode cX9_crease 88 = .ok (.iaload, 1) := by decide +kernel
theorem dX9_crease_89 : decode cX9_crease 89 = .ok (.aload_n 0, 1) := by decide +kernel
theorem dX9_crease_90 : decode cX9_crease 90 = .ok (.getfield 7, 3) := by decide +kernel
theorem dX9_crease_93 : decode cX9_crease 93 = .ok (.iconst 0, 1) := by decide +kernel
theorem dX9_crease_94 : decode cX9_crease 94 = .ok (.iaload, 1) := by decide +kernel
theorem dX9_crease_95 : decode cX9_crease 95 = .ok (.if_icmp .lt 7, 3) := by decide +kernel
theorem dX9_crease_98 : decode cX9_crease 98 = .ok (.iconst 1, 1) := by decide +kernel
theorem dX9_crease_99 : decode cX9_crease 99 = .ok (.goto 4, 3) := by decide +kernel
theorem dX9_crease_102 : decode cX9_crease 102 = .ok (.iconst 0, 1) := by decide +kernel
theorem dX9_crease_103 : decode cX9_crease 103 = .ok (.ireturn, 1) := by decide +kernel
def fX9_crease (N : Nat) (x1 : Int32) (x2 : Int32) (v_rowsOf : Int32) (v_columnsOf : Int32) (v_limit : List Int32) (v_worn : List Int32) (v_lastBend : List Int32) : Option (Int32) :=
    if x1 < 0 then
    (some ((-1 : Int32)))
    else (mm_ck (mm_nz (10 : Int32)) (if (1 : Int32) < (mm_rem x1 (10 : Int32)) then
    (some ((-1 : Int32)))
    else (mm_ck (mm_nz (10 : Int32)) (mm_ck (mm_nz (10 : Int32)) (mm_bd1 (fX9_isCrease N (((2 : Int32) * (x1 / (10 : Int32))) + (mm_rem x1 (10 : Int32))) v_rowsOf v_columnsOf) (fun (r_6 : Bool) =>
    if r_6 = false then
    (some ((-1 : Int32)))
    else (mm_bd1 (fX9_within N ((x2).toInt64) (0 : Int64) (2 : Int64)) (fun (r_9 : Bool) =>
    if r_9 = false then
    (some ((-1 : Int32)))
    else (mm_ck (mm_nz (10 : Int32)) (mm_ck (mm_nz (10 : Int32)) (mm_nm ((((2 : Int32) * (x1 / (10 : Int32))) + (mm_rem x1 (10 : Int32)))) (fun (y_14 : Int32) =>
    if x2 = 0 then
    (mm_ck (mm_inb y_14 v_worn.length) (some ((mm_ig v_worn y_14))))
    else (if x2 = (1 : Int32) then
    (mm_ck (mm_inb y_14 v_lastBend.length) (some ((mm_ig v_lastBend y_14))))
    else (mm_ck (mm_inb y_14 v_worn.length) (mm_ck (mm_inb (0 : Int32) v_limit.length) (if (mm_ig v_worn y_14) < (mm_ig v_limit (0 : Int32)) then
    (some ((0 : Int32)))
    else (some ((1 : Int32)))))))))))))))))))

set_option maxHeartbeats 4000000 in
set_option maxRecDepth 100000 in
theorem ctX9_crease {l : Launch} {D : va_G} {cI cL cS cH : ClassId} {a : Nat → Nat} {x1 : Int32} {x2 : Int32} {v_keptMany : Int32} {v_done : Int32} {v_rowsOf : Int32} {v_columnsOf : Int32} {v_folded : Int32} {v_wronged : Int32} {v_tapeMany : Int32} {v_textMany : Int32} {v_base : Int32} {v_at : Int32} {v_ends : Int32} {v_fault : Int32} {v_opened : Int32} {v_bentMany : Int32} {v_bentWrong : Int32} {v_moreWorn : Int32} {v_planned : Int32} {v_allWrong : Int32} {v_allWorn : Int32} {v_z : Int32} {v_wishedField : Int32} {v_isFound : Bool} {v_bestWrong : Int32} {v_bestWorn : Int32} {v_bestMany : Int32} {v_soughtBy : Int32} {v_sought : Int32} {v_soughtAt : Int32} {v_foundMany : Int32} {v_foundOrder : Int32} {v_isKept : Bool} {v_imageRows : Int32} {v_imageColumns : Int32} {v_imageFolded : Int32} {v_imageWronged : Int32} {v_bodies : Int32} {v_ran : Int32} {v_ownKind : Int32} {v_ownNumber : Int32} {v_limit : List Int32} {v_changeWas : List Int32} {v_changeIs : List Int32} {v_shapeRows : List Int32} {v_shapeColumns : List Int32} {v_row : List Int32} {v_column : List Int32} {v_below : List Int32} {v_face : List Int32} {v_worn : List Int32} {v_lastBend : List Int32} {v_tape : List Int32} {v_text : List Int32} {v_names : List Int32} {v_bends : List Int32} {v_high : List Int32} {v_to : List Int32} {v_pileSize : List Int32} {v_planLine : List Int32} {v_planWay : List Int32} {v_way1 : List Int32} {v_bestWay : List Int32} {v_order1 : List Int32} {v_placeIn : List Int32} {v_bodyKind : List Int32} {v_trace : List Int32} {v_shelf : List Int32} {v_many : List Int32} {v_items : List Int64} {v_carried : List Int64} {r : Int32} {N d : Nat} (hd : 3 ≤ d) (hf : fX9_crease N x1 x2 v_rowsOf v_columnsOf v_limit v_worn v_lastBend = some r) : mm_Ct l yX9_crease cX9_crease 4 (some .int) d D (mm_T cI cL cS cH) [.ref (a 0), .int x1, .int x2] (wd_X9 cI cL cS cH a v_keptMany v_done v_rowsOf v_columnsOf v_folded v_wronged v_tapeMany v_textMany v_base v_at v_ends v_fault v_opened v_bentMany v_bentWrong v_moreWorn v_planned v_allWrong v_allWorn v_z v_wishedField v_isFound v_bestWrong v_bestWorn v_bestMany v_soughtBy v_sought v_soughtAt v_foundMany v_foundOrder v_isKept v_imageRows v_imageColumns v_imageFolded v_imageWronged v_bodies v_ran v_ownKind v_ownNumber v_limit v_changeWas v_changeIs v_shapeRows v_shapeColumns v_row v_column v_below v_face v_worn v_lastBend v_tape v_text v_names v_bends v_high v_to v_pileSize v_planLine v_planWay v_way1 v_bestWay v_order1 v_placeIn v_bodyKind v_trace v_shelf v_many v_items v_carried) (wd_X9 cI cL cS cH a v_keptMany v_done v_rowsOf v_columnsOf v_folded v_wronged v_tapeMany v_textMany v_base v_at v_ends v_fault v_opened v_bentMany v_bentWrong v_moreWorn v_planned v_allWrong v_allWorn v_z v_wishedField v_isFound v_bestWrong v_bestWorn v_bestMany v_soughtBy v_sought v_soughtAt v_foundMany v_foundOrder v_isKept v_imageRows v_imageColumns v_imageFolded v_imageWronged v_bodies v_ran v_ownKind v_ownNumber v_limit v_changeWas v_changeIs v_shapeRows v_shapeColumns v_row v_column v_below v_face v_worn v_lastBend v_tape v_text v_names v_bends v_high v_to v_pileSize v_planLine v_planWay v_way1 v_bestWay v_order1 v_placeIn v_bodyKind v_trace v_shelf v_many v_items v_carried) (some (.int r)) := by
  refine mm_of (by decide) (Nat.le_of_ble_eq_true rfl) ?_
  intro p e s m args below meth c A H locs ls C0 hP hD hA hS hl
  have C0 : mm_Cx p s m args meth c RX9 cX9_crease 4 (some .int) D (mm_T cI cL cS cH) A := C0
  obtain ⟨hx, hb, hml, hown, hts, hr, hlocks, hK, hSt⟩ := id C0
  have hl : lv_has ls 4 [(0, .ref (a 0)), (1, .int x1), (2, .int x2)] := hl
  unfold fX9_crease at hf
  refine lv_iload_n hx hb dX9_crease_0 rfl (lv_at hl 1 rfl) ?_
  refine lv_if_lt (tgt := 42) hx hb dX9_crease_1 (by decide) (fun c_1 => ?_) (fun c_1 => ?_)
  · have hf := mm_ip hf c_1
    refine lv_iconst (v := -1) hx hb dX9_crease_42 (by decide) ?_
    obtain rfl := mm_inj1 hf
    exact mm_iret C0 hP hD hS dX9_crease_43
  · have hf := mm_in hf c_1
    refine lv_iload_n hx hb dX9_crease_4 rfl (lv_at hl 1 rfl) ?_
    refine lv_bipush (v := 10) hx hb dX9_crease_5 (by decide) ?_
    obtain ⟨h_2, hf⟩ := mm_cks hf
    refine lv_irem hx hb dX9_crease_7 (mm_nzs h_2) ?_
    refine lv_iconst (v := 1) hx hb dX9_crease_8 (by decide) ?_
    refine lv_icmp_gt (tgt := 42) hx hb dX9_crease_9 (by decide) (fun c_3 => ?_) (fun c_3 => ?_)
    · have hf := mm_ip hf c_3
      refine lv_iconst (v := -1) hx hb dX9_crease_42 (by decide) ?_
      obtain rfl := mm_inj1 hf
      exact mm_iret C0 hP hD hS dX9_crease_43
    · have hf := mm_in hf c_3
      refine lv_aload_n hx hb dX9_crease_12 rfl (lv_at hl 0 rfl) ?_
      refine lv_iconst (v := 2) hx hb dX9_crease_13 (by decide) ?_
      refine lv_iload_n hx hb dX9_crease_14 rfl (lv_at hl 1 rfl) ?_
      refine lv_bipush (v := 10) hx hb dX9_crease_15 (by decide) ?_
      obtain ⟨h_4, hf⟩ := mm_cks hf
      refine lv_idiv hx hb dX9_crease_17 (mm_nzs h_4) ?_
      refine lv_imul hx hb dX9_crease_18 ?_
      refine lv_iload_n hx hb dX9_crease_19 rfl (lv_at hl 1 rfl) ?_
      refine lv_bipush (v := 10) hx hb dX9_crease_20 (by decide) ?_
      obtain ⟨h_5, hf⟩ := mm_cks hf
      refine lv_irem hx hb dX9_crease_22 (mm_nzs h_5) ?_
      refine lv_iadd hx hb dX9_crease_23 ?_
      obtain ⟨r_6, hc_7, hf⟩ := mm_bd1s hf
      refine mm_callVF (q0 := 0) (ci := 9) (rest := []) C0 lk_X9_217 (ctX9_isCrease (a := a) (d := d - 1) (by omega) hc_7) (by omega) rfl hl.1 rfl (mm_cat rfl) dX9_crease_24 hP hD hA hS rfl rfl (fun H locs hP hD hS => ?_)
      refine W.eq (g2 := F0 m 27 ls [.int (mm_b r_6)]) rfl ?_
      refine lv_if_eq (tgt := 42) hx hb dX9_crease_27 (by decide) (fun c_8 => ?_) (fun c_8 => ?_)
      · have hf := mm_ip hf (mm_b0 c_8)
        refine lv_iconst (v := -1) hx hb dX9_crease_42 (by decide) ?_
        obtain rfl := mm_inj1 hf
        exact mm_iret C0 hP hD hS dX9_crease_43
      · have hf := mm_in hf (mm_b1 c_8)
        refine lv_iload_n hx hb dX9_crease_30 rfl (lv_at hl 2 rfl) ?_
        refine lv_i2l hx hb dX9_crease_31 rfl ?_
        refine lv_lconst (v := 0) hx hb dX9_crease_32 (by decide) ?_
        refine lv_ldc2 hx hb hown (hts _ kc_X9_247) dX9_crease_33 ?_
        obtain ⟨r_9, hc_10, hf⟩ := mm_bd1s hf
        refine mm_callS0 (rest := []) C0 lk_X9_111 (ctX9_within (d := d - 1) (by omega) hc_10) (by omega) rfl hl.1 rfl (mm_cat rfl) dX9_crease_36 hP hD hA hS (fun H locs hP hS => ?_)
        refine W.eq (g2 := F0 m 39 ls [.int (mm_b r_9)]) rfl ?_
        refine lv_if_ne (tgt := 44) hx hb dX9_crease_39 (by decide) (fun c_11 => ?_) (fun c_11 => ?_)
        · have hf := mm_in hf (mm_b1 c_11)
          refine lv_iconst (v := 2) hx hb dX9_crease_44 (by decide) ?_
          refine lv_iload_n hx hb dX9_crease_45 rfl (lv_at hl 1 rfl) ?_
          refine lv_bipush (v := 10) hx hb dX9_crease_46 (by decide) ?_
          obtain ⟨h_12, hf⟩ := mm_cks hf
          refine lv_idiv hx hb dX9_crease_48 (mm_nzs h_12) ?_
          refine lv_imul hx hb dX9_crease_49 ?_
          refine lv_iload_n hx hb dX9_crease_50 rfl (lv_at hl 1 rfl) ?_
          refine lv_bipush (v := 10) hx hb dX9_crease_51 (by decide) ?_
          obtain ⟨h_13, hf⟩ := mm_cks hf
          refine lv_irem hx hb dX9_crease_53 (mm_nzs h_13) ?_
          refine lv_iadd hx hb dX9_crease_54 ?_
          refine lv_topi (fun y_14 ey_14 => ?_)
          have hf := mm_nms hf ey_14
          refine lv_istore_n (lv' := [(3, .int y_14), (0, .ref (a 0)), (1, .int x1), (2, .int x2)]) hx hb dX9_crease_55 rfl hl (by decide) rfl (fun ls hl => ?_)
          refine lv_iload_n hx hb dX9_crease_56 rfl (lv_at hl 3 rfl) ?_
          refine lv_if_ne (tgt := 69) hx hb dX9_crease_57 (by decide) (fun c_15 => ?_) (fun c_15 => ?_)
          · have hf := mm_in hf c_15
            refine lv_iload_n hx hb dX9_crease_69 rfl (lv_at hl 3 rfl) ?_
            refine lv_iconst (v := 1) hx hb dX9_crease_70 (by decide) ?_
            refine lv_icmp_ne (tgt := 83) hx hb dX9_crease_71 (by decide) (fun c_16 => ?_) (fun c_16 => ?_)
            · have hf := mm_in hf c_16
              refine lv_aload_n hx hb dX9_crease_83 rfl (lv_at hl 1 rfl) ?_
              refine mm_get C0 hP iw_X9 0 rfl rfl 13 (by decide) fl_X9_37 rfl dX9_crease_84 ?_
              refine lv_iload_n hx hb dX9_crease_87 rfl (lv_at hl 0 rfl) ?_
              obtain ⟨h_17, hf⟩ := mm_cks hf
              refine mm_iald C0 hP 10 rfl h_17 dX9_crease_88 ?_
              refine lv_aload_n hx hb dX9_crease_89 rfl (lv_at hl 1 rfl) ?_
              refine mm_get C0 hP iw_X9 0 rfl rfl 0 (by decide) fl_X9_7 rfl dX9_crease_90 ?_
              refine lv_iconst (v := 0) hx hb dX9_crease_93 (by decide) ?_
              obtain ⟨h_18, hf⟩ := mm_cks hf
              refine mm_iald C0 hP 1 rfl h_18 dX9_crease_94 ?_
              refine lv_icmp_lt (tgt := 102) hx hb dX9_crease_95 (by decide) (fun c_19 => ?_) (fun c_19 => ?_)
              · have hf := mm_ip hf c_19
                refine lv_iconst (v := 0) hx hb dX9_crease_102 (by decide) ?_
                obtain rfl := mm_inj1 hf
                exact mm_iret C0 hP hD hS dX9_crease_103
              · have hf := mm_in hf c_19
                refine lv_iconst (v := 1) hx hb dX9_crease_98 (by decide) ?_
                refine lv_goto (tgt := 103) hx hb dX9_crease_99 (by decide) ?_
                obtain rfl := mm_inj1 hf
                exact mm_iret C0 hP hD hS dX9_crease_103
            · have hf := mm_ip hf c_16
              refine lv_aload_n hx hb dX9_crease_74 rfl (lv_at hl 1 rfl) ?_
              refine mm_get C0 hP iw_X9 0 rfl rfl 14 (by decide) fl_X9_40 rfl dX9_crease_75 ?_
              refine lv_iload_n hx hb dX9_crease_78 rfl (lv_at hl 0 rfl) ?_
              obtain ⟨h_20, hf⟩ := mm_cks hf
              refine mm_iald C0 hP 11 rfl h_20 dX9_crease_79 ?_
              refine lv_goto (tgt := 103) hx hb dX9_crease_80 (by decide) ?_
              obtain rfl := mm_inj1 hf
              exact mm_iret C0 hP hD hS dX9_crease_103
          · have hf := mm_ip hf c_15
            refine lv_aload_n hx hb dX9_crease_60 rfl (lv_at hl 1 rfl) ?_
            refine mm_get C0 hP iw_X9 0 rfl rfl 13 (by decide) fl_X9_37 rfl dX9_crease_61 ?_
            refine lv_iload_n hx hb dX9_crease_64 rfl (lv_at hl 0 rfl) ?_
            obtain ⟨h_21, hf⟩ := mm_cks hf
            refine mm_iald C0 hP 10 rfl h_21 dX9_crease_65 ?_
            refine lv_goto (tgt := 103) hx hb dX9_crease_66 (by decide) ?_
            obtain rfl := mm_inj1 hf
            exact mm_iret C0 hP hD hS dX9_crease_103
        · have hf := mm_ip hf (mm_b0 c_11)
          refine lv_iconst (v := -1) hx hb dX9_crease_42 (by decide) ?_
          obtain rfl := mm_inj1 hf
          exact mm_iret C0 hP hD hS dX9_crease_43

theorem dX9_sizeAt_0 : decode cX9_sizeAt 0 = .ok (.iconst 0, 1) := by decide +kernel
theorem dX9_sizeAt_1 : decode cX9_sizeAt 1 = .ok (.istore 4, 2) := by decide +kernel
theorem dX9_sizeAt_3 : decode cX9_sizeAt 3 = .ok (.iconst 0, 1) := by decide +kernel
theorem dX9_sizeAt_4 : decode cX9_sizeAt 4 = .ok (.istore 5, 2) := by decide +kernel
theorem dX9_sizeAt_6 : decode cX9_sizeAt 6 = .ok (.iload 5, 2) := by decide +kernel
theorem dX9_sizeAt_8 : decode cX9_sizeAt 8 = .ok (.aload_n 0, 1) := by decide +kernel
theorem dX9_sizeAt_9 : decode cX9_sizeAt 9 = .ok (.invokevirtual 127, 3) := by decide +kernel
theorem dX9_sizeAt_12 : decode cX9_sizeAt 12 = .ok (.if_icmp .ge 51, 3) := by decide +kernel
theorem dX9_sizeAt_15 : decode cX9_sizeAt 15 = .ok (.iload 4, 2) := by decide +kernel
theorem dX9_sizeAt_17 : decode cX9_sizeAt 17 = .ok (.aload_n 0, 1) := by decide +kernel
theorem dX9_sizeAt_18 : decode cX9_sizeAt 18 = .ok (.getfield 25, 3) := by decide +kernel
theorem dX9_sizeAt_21 : decode cX9_sizeAt 21 = .ok (.bipush 32, 2) := by decide +kernel
theorem dX9_sizeAt_23 : decode cX9_sizeAt 23 = .ok (.iload_n 1, 1) := by decide +kernel
theorem dX9_sizeAt_24 : decode cX9_sizeAt 24 = .ok (.imul, 1) := by decide +kernel
theorem dX9_sizeAt_25 : decode cX9_sizeAt 25 = .ok (.iload 5, 2) := by decide +kernel
theorem dX9_sizeAt_27 : decode cX9_sizeAt 27 = .ok (.iadd, 1) := by decide +kernel
theorem dX9_sizeAt_28 : decode cX9_sizeAt 28 = .ok (.iaload, 1) := by decide +kernel
theorem dX9_sizeAt_29 : decode cX9_sizeAt 29 = .ok (.iload_n 2, 1) := by decide +kernel
theorem dX9_sizeAt_30 : decode cX9_sizeAt 30 = .ok (.if_icmp .ne 23, 3) := by decide +kernel
theorem dX9_sizeAt_33 : decode cX9_sizeAt 33 = .ok (.aload_n 0, 1) := by decide +kernel
theorem dX9_sizeAt_34 : decode cX9_sizeAt 34 = .ok (.getfield 28, 3) := by decide +kernel
theorem dX9_sizeAt_37 : decode cX9_sizeAt 37 = .ok (.bipush 32, 2) := by decide +kernel
theorem dX9_sizeAt_39 : decode cX9_sizeAt 39 = .ok (.iload_n 1, 1) := by decide +kernel
theorem dX9_sizeAt_40 : decode cX9_sizeAt 40 = .ok (.imul, 1) := by decide +kernel
theorem dX9_sizeAt_41 : decode cX9_sizeAt 41 = .ok (.iload 5, 2) := by decide +kernel
theorem dX9_sizeAt_43 : decode cX9_sizeAt 43 = .ok (.iadd, 1) := by decide +kernel
theorem dX9_sizeAt_44 : decode cX9_sizeAt 44 = .ok (.iaload, 1) := by decide +kernel
theorem dX9_sizeAt_45 : decode cX9_sizeAt 45 = .ok (.iload_n 3, 1) := by decide +kernel
theorem dX9_sizeAt_46 : decode cX9_sizeAt 46 = .ok (.if_icmp .ne 7, 3) := by decide +kernel
theorem dX9_sizeAt_49 : decode cX9_sizeAt 49 = .ok (.iconst 1, 1) := by decide +kernel
theorem dX9_sizeAt_50 : decode cX9_sizeAt 50 = .ok (.goto 4, 3) := by decide +kernel
theorem dX9_sizeAt_53 : decode cX9_sizeAt 53 = .ok (.iconst 0, 1) := by decide +kernel
theorem dX9_sizeAt_54 : decode cX9_sizeAt 54 = .ok (.iadd, 1) := by decide +kernel
theorem dX9_sizeAt_55 : decode cX9_sizeAt 55 = .ok (.istore 4, 2) := by decide +kernel
theorem dX9_sizeAt_57 : decode cX9_sizeAt 57 = .ok (.iinc 5 1, 3) := by decide +kernel
theorem dX9_sizeAt_60 : decode cX9_sizeAt 60 = .ok (.goto (-54), 3) := by decide +kernel
theorem dX9_sizeAt_63 : decode cX9_sizeAt 63 = .ok (.iload 4, 2) := by decide +kernel
theorem dX9_sizeAt_65 : decode cX9_sizeAt 65 = .ok (.ireturn, 1) := by decide +kernel
def fX9_sizeAt_54 (N : Nat) (k_6 : Int32 → Int32 → Int32 → Int32 → Int32 → Int32 → Int32 → List Int32 → List Int32 → Option (Int32)) (x1 : Int32) (x2 : Int32) (x3 : Int32) (x5 : Int32) (s0 : Int32) (s1 : Int32) (v_rowsOf : Int32) (v_columnsOf : Int32) (v_row : List Int32) (v_column : List Int32) : Option (Int32) :=
    mm_nm ((s1 + s0)) (fun (y_8 : Int32) =>
    mm_nm (x5 + (1 : Int32)) (fun (y_9 : Int32) =>
    k_6 x1 x2 x3 y_8 y_9 v_rowsOf v_columnsOf v_row v_column))

set_option maxHeartbeats 4000000 in
set_option maxRecDepth 100000 in
theorem tX9_sizeAt_54 {p : Program} {l : Launch} {e : Env} {s : State} {m : MethodId} {args : Array Value} {below : List Frame} {meth : Method} {c : Code} {D : va_G} {cI cL cS cH : ClassId} {A : Nat → Prop} {d : Nat} {a : Nat → Nat} (hd : 2 ≤ d) (C0 : mm_Cx p s m args meth c RX9 cX9_sizeAt 6 (some .int) D (mm_T cI cL cS cH) A) (hA : ∀ q, s.heap.size ≤ q → A q) {v_keptMany : Int32} {v_done : Int32} {v_folded : Int32} {v_wronged : Int32} {v_tapeMany : Int32} {v_textMany : Int32} {v_base : Int32} {v_at : Int32} {v_ends : Int32} {v_fault : Int32} {v_opened : Int32} {v_bentMany : Int32} {v_bentWrong : Int32} {v_moreWorn : Int32} {v_planned : Int32} {v_allWrong : Int32} {v_allWorn : Int32} {v_z : Int32} {v_wishedField : Int32} {v_isFound : Bool} {v_bestWrong : Int32} {v_bestWorn : Int32} {v_bestMany : Int32} {v_soughtBy : Int32} {v_sought : Int32} {v_soughtAt : Int32} {v_foundMany : Int32} {v_foundOrder : Int32} {v_isKept : Bool} {v_imageRows : Int32} {v_imageColumns : Int32} {v_imageFolded : Int32} {v_imageWronged : Int32} {v_bodies : Int32} {v_ran : Int32} {v_ownKind : Int32} {v_ownNumber : Int32} {v_limit : List Int32} {v_changeWas : List Int32} {v_changeIs : List Int32} {v_shapeRows : List Int32} {v_shapeColumns : List Int32} {v_below : List Int32} {v_face : List Int32} {v_worn : List Int32} {v_lastBend : List Int32} {v_tape : List Int32} {v_text : List Int32} {v_names : List Int32} {v_bends : List Int32} {v_high : List Int32} {v_to : List Int32} {v_pileSize : List Int32} {v_planLine : List Int32} {v_planWay : List Int32} {v_way1 : List Int32} {v_bestWay : List Int32} {v_order1 : List Int32} {v_placeIn : List Int32} {v_bodyKind : List Int32} {v_trace : List Int32} {v_shelf : List Int32} {v_many : List Int32} {v_items : List Int64} {v_carried : List Int64} {r : Int32} (N : Nat) {k_6 : Int32 → Int32 → Int32 → Int32 → Int32 → Int32 → Int32 → List Int32 → List Int32 → Option (Int32)} (hk_6 : ∀ (x1 : Int32) (x2 : Int32) (x3 : Int32) (x4 : Int32) (x5 : Int32) (v_rowsOf : Int32) (v_columnsOf : Int32) (v_row : List Int32) (v_column : List Int32) (H : Heap) (locs : List Loc) (ls : Array Slot), k_6 x1 x2 x3 x4 x5 v_rowsOf v_columnsOf v_row v_column = some r → va_P D mm_cl (wd_X9 cI cL cS cH a v_keptMany v_done v_rowsOf v_columnsOf v_folded v_wronged v_tapeMany v_textMany v_base v_at v_ends v_fault v_opened v_bentMany v_bentWrong v_moreWorn v_planned v_allWrong v_allWorn v_z v_wishedField v_isFound v_bestWrong v_bestWorn v_bestMany v_soughtBy v_sought v_soughtAt v_foundMany v_foundOrder v_isKept v_imageRows v_imageColumns v_imageFolded v_imageWronged v_bodies v_ran v_ownKind v_ownNumber v_limit v_changeWas v_changeIs v_shapeRows v_shapeColumns v_row v_column v_below v_face v_worn v_lastBend v_tape v_text v_names v_bends v_high v_to v_pileSize v_planLine v_planWay v_way1 v_bestWay v_order1 v_placeIn v_bodyKind v_trace v_shelf v_many v_items v_carried) H → va_D A (wd_X9 cI cL cS cH a v_keptMany v_done v_rowsOf v_columnsOf v_folded v_wronged v_tapeMany v_textMany v_base v_at v_ends v_fault v_opened v_bentMany v_bentWrong v_moreWorn v_planned v_allWrong v_allWorn v_z v_wishedField v_isFound v_bestWrong v_bestWorn v_bestMany v_soughtBy v_sought v_soughtAt v_foundMany v_foundOrder v_isKept v_imageRows v_imageColumns v_imageFolded v_imageWronged v_bodies v_ran v_ownKind v_ownNumber v_limit v_changeWas v_changeIs v_shapeRows v_shapeColumns v_row v_column v_below v_face v_worn v_lastBend v_tape v_text v_names v_bends v_high v_to v_pileSize v_planLine v_planWay v_way1 v_bestWay v_order1 v_placeIn v_bodyKind v_trace v_shelf v_many v_items v_carried) → va_S A s.heap H locs → lv_has ls 6 [(0, .ref (a 0)), (1, .int x1), (2, .int x2), (3, .int x3), (4, .int x4), (5, .int x5)] → W p l e (mm_rr d) s m args below meth c H locs 0 0 (mm_Z below D A (wd_X9 cI cL cS cH a v_keptMany v_done v_rowsOf v_columnsOf v_folded v_wronged v_tapeMany v_textMany v_base v_at v_ends v_fault v_opened v_bentMany v_bentWrong v_moreWorn v_planned v_allWrong v_allWorn v_z v_wishedField v_isFound v_bestWrong v_bestWorn v_bestMany v_soughtBy v_sought v_soughtAt v_foundMany v_foundOrder v_isKept v_imageRows v_imageColumns v_imageFolded v_imageWronged v_bodies v_ran v_ownKind v_ownNumber v_limit v_changeWas v_changeIs v_shapeRows v_shapeColumns v_row v_column v_below v_face v_worn v_lastBend v_tape v_text v_names v_bends v_high v_to v_pileSize v_planLine v_planWay v_way1 v_bestWay v_order1 v_placeIn v_bodyKind v_trace v_shelf v_many v_items v_carried) (some (.int r)) args s) (F0 m 6 ls [])) : ∀ (x1 : Int32) (x2 : Int32) (x3 : Int32) (x5 : Int32) (s0 : Int32) (s1 : Int32) (v_rowsOf : Int32) (v_columnsOf : Int32) (v_row : List Int32) (v_column : List Int32) (H : Heap) (locs : List Loc) (ls : Array Slot), fX9_sizeAt_54 N k_6 x1 x2 x3 x5 s0 s1 v_rowsOf v_columnsOf v_row v_column = some r → va_P D mm_cl (wd_X9 cI cL cS cH a v_keptMany v_done v_rowsOf v_columnsOf v_folded v_wronged v_tapeMany v_textMany v_base v_at v_ends v_fault v_opened v_bentMany v_bentWrong v_moreWorn v_planned v_allWrong v_allWorn v_z v_wishedField v_isFound v_bestWrong v_bestWorn v_bestMany v_soughtBy v_sought v_soughtAt v_foundMany v_foundOrder v_isKept v_imageRows v_imageColumns v_imageFolded v_imageWronged v_bodies v_ran v_ownKind v_ownNumber v_limit v_changeWas v_changeIs v_shapeRows v_shapeColumns v_row v_column v_below v_face v_worn v_lastBend v_tape v_text v_names v_bends v_high v_to v_pileSize v_planLine v_planWay v_way1 v_bestWay v_order1 v_placeIn v_bodyKind v_trace v_shelf v_many v_items v_carried) H → va_D A (wd_X9 cI cL cS cH a v_keptMany v_done v_rowsOf v_columnsOf v_folded v_wronged v_tapeMany v_textMany v_base v_at v_ends v_fault v_opened v_bentMany v_bentWrong v_moreWorn v_planned v_allWrong v_allWorn v_z v_wishedField v_isFound v_bestWrong v_bestWorn v_bestMany v_soughtBy v_sought v_soughtAt v_foundMany v_foundOrder v_isKept v_imageRows v_imageColumns v_imageFolded v_imageWronged v_bodies v_ran v_ownKind v_ownNumber v_limit v_changeWas v_changeIs v_shapeRows v_shapeColumns v_row v_column v_below v_face v_worn v_lastBend v_tape v_text v_names v_bends v_high v_to v_pileSize v_planLine v_planWay v_way1 v_bestWay v_order1 v_placeIn v_bodyKind v_trace v_shelf v_many v_items v_carried) → va_S A s.heap H locs → lv_has ls 6 [(0, .ref (a 0)), (1, .int x1), (2, .int x2), (3, .int x3), (5, .int x5)] → W p l e (mm_rr d) s m args below meth c H locs 0 0 (mm_Z below D A (wd_X9 cI cL cS cH a v_keptMany v_done v_rowsOf v_columnsOf v_folded v_wronged v_tapeMany v_textMany v_base v_at v_ends v_fault v_opened v_bentMany v_bentWrong v_moreWorn v_planned v_allWrong v_allWorn v_z v_wishedField v_isFound v_bestWrong v_bestWorn v_bestMany v_soughtBy v_sought v_soughtAt v_foundMany v_foundOrder v_isKept v_imageRows v_imageColumns v_imageFolded v_imageWronged v_bodies v_ran v_ownKind v_ownNumber v_limit v_changeWas v_changeIs v_shapeRows v_shapeColumns v_row v_column v_below v_face v_worn v_lastBend v_tape v_text v_names v_bends v_high v_to v_pileSize v_planLine v_planWay v_way1 v_bestWay v_order1 v_placeIn v_bodyKind v_trace v_shelf v_many v_items v_carried) (some (.int r)) args s) (F0 m 54 ls [.int s0, .int s1]) := by
  obtain ⟨hx, hb, hml, hown, hts, hr, hlocks, hK, hSt⟩ := id C0
  intro x1 x2 x3 x5 s0 s1 v_rowsOf v_columnsOf v_row v_column H locs ls hf hP hD hS hl
  unfold fX9_sizeAt_54 at hf
  refine lv_iadd hx hb dX9_sizeAt_54 ?_
  refine lv_topi (fun y_8 ey_8 => ?_)
  have hf := mm_nms hf ey_8
  refine lv_istore (lv' := [(4, .int y_8), (0, .ref (a 0)), (1, .int x1), (2, .int x2), (3, .int x3), (5, .int x5)]) hx hb dX9_sizeAt_55 hl (by decide) rfl (fun ls hl => ?_)
  obtain ⟨y_9, ey_9⟩ : ∃ z : Int32, z = x5 + (1 : Int32) := ⟨_, rfl⟩
  have hf := mm_nms hf ey_9
  refine lv_iinc (v := y_9) (lv' := [(5, .int y_9), (4, .int y_8), (0, .ref (a 0)), (1, .int x1), (2, .int x2), (3, .int x3)]) hx hb dX9_sizeAt_57 hl (k := 5) rfl (by rw [ey_9]; rfl) (by decide) rfl (fun ls hl => ?_)
  refine lv_goto (tgt := 6) hx hb dX9_sizeAt_60 (by decide) ?_
  exact hk_6 _ _ _ _ _ _ _ _ _ H locs ls hf hP hD hS (lv_sub hl [2, 3, 4, 5, 1, 0] rfl)

def fX9_sizeAt_53 (N : Nat) (k_6 : Int32 → Int32 → Int32 → Int32 → Int32 → Int32 → Int32 → List Int32 → List Int32 → Option (Int32)) (x1 : Int32) (x2 : Int32) (x3 : Int32) (x5 : Int32) (s0 : Int32) (v_rowsOf : Int32) (v_columnsOf : Int32) (v_row : List Int32) (v_column : List Int32) : Option (Int32) :=
    fX9_sizeAt_54 N k_6 x1 x2 x3 x5 (0 : Int32) s0 v_rowsOf v_columnsOf v_row v_column

set_option maxHeartbeats 4000000 in
set_option maxRecDepth 100000 in
theorem tX9_sizeAt_53 {p : Program} {l : Launch} {e : Env} {s : State} {m : MethodId} {args : Array Value} {below : List Frame} {meth : Method} {c : Code} {D : va_G} {cI cL cS cH : ClassId} {A : Nat → Prop} {d : Nat} {a : Nat → Nat} (hd : 2 ≤ d) (C0 : mm_Cx p s m args meth c RX9 cX9_sizeAt 6 (some .int) D (mm_T cI cL cS cH) A) (hA : ∀ q, s.heap.size ≤ q → A q) {v_keptMany : Int32} {v_done : Int32} {v_folded : Int32} {v_wronged : Int32} {v_tapeMany : Int32} {v_textMany : Int32} {v_base : Int32} {v_at : Int32} {v_ends : Int32} {v_fault : Int32} {v_opened : Int32} {v_bentMany : Int32} {v_bentWrong : Int32} {v_moreWorn : Int32} {v_planned : Int32} {v_allWrong : Int32} {v_allWorn : Int32} {v_z : Int32} {v_wishedField : Int32} {v_isFound : Bool} {v_bestWrong : Int32} {v_bestWorn : Int32} {v_bestMany : Int32} {v_soughtBy : Int32} {v_sought : Int32} {v_soughtAt : Int32} {v_foundMany : Int32} {v_foundOrder : Int32} {v_isKept : Bool} {v_imageRows : Int32} {v_imageColumns : Int32} {v_imageFolded : Int32} {v_imageWronged : Int32} {v_bodies : Int32} {v_ran : Int32} {v_ownKind : Int32} {v_ownNumber : Int32} {v_limit : List Int32} {v_changeWas : List Int32} {v_changeIs : List Int32} {v_shapeRows : List Int32} {v_shapeColumns : List Int32} {v_below : List Int32} {v_face : List Int32} {v_worn : List Int32} {v_lastBend : List Int32} {v_tape : List Int32} {v_text : List Int32} {v_names : List Int32} {v_bends : List Int32} {v_high : List Int32} {v_to : List Int32} {v_pileSize : List Int32} {v_planLine : List Int32} {v_planWay : List Int32} {v_way1 : List Int32} {v_bestWay : List Int32} {v_order1 : List Int32} {v_placeIn : List Int32} {v_bodyKind : List Int32} {v_trace : List Int32} {v_shelf : List Int32} {v_many : List Int32} {v_items : List Int64} {v_carried : List Int64} {r : Int32} (N : Nat) {k_6 : Int32 → Int32 → Int32 → Int32 → Int32 → Int32 → Int32 → List Int32 → List Int32 → Option (Int32)} (hk_6 : ∀ (x1 : Int32) (x2 : Int32) (x3 : Int32) (x4 : Int32) (x5 : Int32) (v_rowsOf : Int32) (v_columnsOf : Int32) (v_row : List Int32) (v_column : List Int32) (H : Heap) (locs : List Loc) (ls : Array Slot), k_6 x1 x2 x3 x4 x5 v_rowsOf v_columnsOf v_row v_column = some r → va_P D mm_cl (wd_X9 cI cL cS cH a v_keptMany v_done v_rowsOf v_columnsOf v_folded v_wronged v_tapeMany v_textMany v_base v_at v_ends v_fault v_opened v_bentMany v_bentWrong v_moreWorn v_planned v_allWrong v_allWorn v_z v_wishedField v_isFound v_bestWrong v_bestWorn v_bestMany v_soughtBy v_sought v_soughtAt v_foundMany v_foundOrder v_isKept v_imageRows v_imageColumns v_imageFolded v_imageWronged v_bodies v_ran v_ownKind v_ownNumber v_limit v_changeWas v_changeIs v_shapeRows v_shapeColumns v_row v_column v_below v_face v_worn v_lastBend v_tape v_text v_names v_bends v_high v_to v_pileSize v_planLine v_planWay v_way1 v_bestWay v_order1 v_placeIn v_bodyKind v_trace v_shelf v_many v_items v_carried) H → va_D A (wd_X9 cI cL cS cH a v_keptMany v_done v_rowsOf v_columnsOf v_folded v_wronged v_tapeMany v_textMany v_base v_at v_ends v_fault v_opened v_bentMany v_bentWrong v_moreWorn v_planned v_allWrong v_allWorn v_z v_wishedField v_isFound v_bestWrong v_bestWorn v_bestMany v_soughtBy v_sought v_soughtAt v_foundMany v_foundOrder v_isKept v_imageRows v_imageColumns v_imageFolded v_imageWronged v_bodies v_ran v_ownKind v_ownNumber v_limit v_changeWas v_changeIs v_shapeRows v_shapeColumns v_row v_column v_below v_face v_worn v_lastBend v_tape v_text v_names v_bends v_high v_to v_pileSize v_planLine v_planWay v_way1 v_bestWay v_order1 v_placeIn v_bodyKind v_trace v_shelf v_many v_items v_carried) → va_S A s.heap H locs → lv_has ls 6 [(0, .ref (a 0)), (1, .int x1), (2, .int x2), (3, .int x3), (4, .int x4), (5, .int x5)] → W p l e (mm_rr d) s m args below meth c H locs 0 0 (mm_Z below D A (wd_X9 cI cL cS cH a v_keptMany v_done v_rowsOf v_columnsOf v_folded v_wronged v_tapeMany v_textMany v_base v_at v_ends v_fault v_opened v_bentMany v_bentWrong v_moreWorn v_planned v_allWrong v_allWorn v_z v_wishedField v_isFound v_bestWrong v_bestWorn v_bestMany v_soughtBy v_sought v_soughtAt v_foundMany v_foundOrder v_isKept v_imageRows v_imageColumns v_imageFolded v_imageWronged v_bodies v_ran v_ownKind v_ownNumber v_limit v_changeWas v_changeIs v_shapeRows v_shapeColumns v_row v_column v_below v_face v_worn v_lastBend v_tape v_text v_names v_bends v_high v_to v_pileSize v_planLine v_planWay v_way1 v_bestWay v_order1 v_placeIn v_bodyKind v_trace v_shelf v_many v_items v_carried) (some (.int r)) args s) (F0 m 6 ls [])) : ∀ (x1 : Int32) (x2 : Int32) (x3 : Int32) (x5 : Int32) (s0 : Int32) (v_rowsOf : Int32) (v_columnsOf : Int32) (v_row : List Int32) (v_column : List Int32) (H : Heap) (locs : List Loc) (ls : Array Slot), fX9_sizeAt_53 N k_6 x1 x2 x3 x5 s0 v_rowsOf v_columnsOf v_row v_column = some r → va_P D mm_cl (wd_X9 cI cL cS cH a v_keptMany v_done v_rowsOf v_columnsOf v_folded v_wronged v_tapeMany v_textMany v_base v_at v_ends v_fault v_opened v_bentMany v_bentWrong v_moreWorn v_planned v_allWrong v_allWorn v_z v_wishedField v_isFound v_bestWrong v_bestWorn v_bestMany v_soughtBy v_sought v_soughtAt v_foundMany v_foundOrder v_isKept v_imageRows v_imageColumns v_imageFolded v_imageWronged v_bodies v_ran v_ownKind v_ownNumber v_limit v_changeWas v_changeIs v_shapeRows v_shapeColumns v_row v_column v_below v_face v_worn v_lastBend v_tape v_text v_names v_bends v_high v_to v_pileSize v_planLine v_planWay v_way1 v_bestWay v_order1 v_placeIn v_bodyKind v_trace v_shelf v_many v_items v_carried) H → va_D A (wd_X9 cI cL cS cH a v_keptMany v_done v_rowsOf v_columnsOf v_folded v_wronged v_tapeMany v_textMany v_base v_at v_ends v_fault v_opened v_bentMany v_bentWrong v_moreWorn v_planned v_allWrong v_allWorn v_z v_wishedField v_isFound v_bestWrong v_bestWorn v_bestMany v_soughtBy v_sought v_soughtAt v_foundMany v_foundOrder v_isKept v_imageRows v_imageColumns v_imageFolded v_imageWronged v_bodies v_ran v_ownKind v_ownNumber v_limit v_changeWas v_changeIs v_shapeRows v_shapeColumns v_row v_column v_below v_face v_worn v_lastBend v_tape v_text v_names v_bends v_high v_to v_pileSize v_planLine v_planWay v_way1 v_bestWay v_order1 v_placeIn v_bodyKind v_trace v_shelf v_many v_items v_carried) → va_S A s.heap H locs → lv_has ls 6 [(0, .ref (a 0)), (1, .int x1), (2, .int x2), (3, .int x3), (5, .int x5)] → W p l e (mm_rr d) s m args below meth c H locs 0 0 (mm_Z below D A (wd_X9 cI cL cS cH a v_keptMany v_done v_rowsOf v_columnsOf v_folded v_wronged v_tapeMany v_textMany v_base v_at v_ends v_fault v_opened v_bentMany v_bentWrong v_moreWorn v_planned v_allWrong v_allWorn v_z v_wishedField v_isFound v_bestWrong v_bestWorn v_bestMany v_soughtBy v_sought v_soughtAt v_foundMany v_foundOrder v_isKept v_imageRows v_imageColumns v_imageFolded v_imageWronged v_bodies v_ran v_ownKind v_ownNumber v_limit v_changeWas v_changeIs v_shapeRows v_shapeColumns v_row v_column v_below v_face v_worn v_lastBend v_tape v_text v_names v_bends v_high v_to v_pileSize v_planLine v_planWay v_way1 v_bestWay v_order1 v_placeIn v_bodyKind v_trace v_shelf v_many v_items v_carried) (some (.int r)) args s) (F0 m 53 ls [.int s0]) := by
  obtain ⟨hx, hb, hml, hown, hts, hr, hlocks, hK, hSt⟩ := id C0
  intro x1 x2 x3 x5 s0 v_rowsOf v_columnsOf v_row v_column H locs ls hf hP hD hS hl
  unfold fX9_sizeAt_53 at hf
  refine lv_iconst (v := 0) hx hb dX9_sizeAt_53 (by decide) ?_
  exact tX9_sizeAt_54 hd C0 hA N hk_6 _ _ _ _ _ _ _ _ _ _ H locs ls hf hP hD hS (lv_sub hl [0, 1, 2, 3, 4] rfl)

def fX9_sizeAt_6 (N : Nat)  : Nat → Int32 → Int32 → Int32 → Int32 → Int32 → Int32 → Int32 → List Int32 → List Int32 → Option (Int32)
  | 0 => fun _ _ _ _ _ _ _ _ _ => none
  | n + 1 => fun x1 x2 x3 x4 x5 v_rowsOf v_columnsOf v_row v_column =>
    mm_bd1 (fX9_fields N v_rowsOf v_columnsOf) (fun (r_1 : Int32) =>
    if r_1 ≤ x5 then
    (some (x4))
    else (mm_ck (mm_inb (((32 : Int32) * x1) + x5) v_row.length) (if (mm_ig v_row (((32 : Int32) * x1) + x5)) = x2 then
    (mm_ck (mm_inb (((32 : Int32) * x1) + x5) v_column.length) (if (mm_ig v_column (((32 : Int32) * x1) + x5)) = x3 then
    (fX9_sizeAt_54 N (fX9_sizeAt_6 N n) x1 x2 x3 x5 (1 : Int32) x4 v_rowsOf v_columnsOf v_row v_column)
    else (fX9_sizeAt_53 N (fX9_sizeAt_6 N n) x1 x2 x3 x5 x4 v_rowsOf v_columnsOf v_row v_column)))
    else (fX9_sizeAt_53 N (fX9_sizeAt_6 N n) x1 x2 x3 x5 x4 v_rowsOf v_columnsOf v_row v_column))))

set_option maxHeartbeats 4000000 in
set_option maxRecDepth 100000 in
theorem tX9_sizeAt_6 {p : Program} {l : Launch} {e : Env} {s : State} {m : MethodId} {args : Array Value} {below : List Frame} {meth : Method} {c : Code} {D : va_G} {cI cL cS cH : ClassId} {A : Nat → Prop} {d : Nat} {a : Nat → Nat} (hd : 2 ≤ d) (C0 : mm_Cx p s m args meth c RX9 cX9_sizeAt 6 (some .int) D (mm_T cI cL cS cH) A) (hA : ∀ q, s.heap.size ≤ q → A q) {v_keptMany : Int32} {v_done : Int32} {v_folded : Int32} {v_wronged : Int32} {v_tapeMany : Int32} {v_textMany : Int32} {v_base : Int32} {v_at : Int32} {v_ends : Int32} {v_fault : Int32} {v_opened : Int32} {v_bentMany : Int32} {v_bentWrong : Int32} {v_moreWorn : Int32} {v_planned : Int32} {v_allWrong : Int32} {v_allWorn : Int32} {v_z : Int32} {v_wishedField : Int32} {v_isFound : Bool} {v_bestWrong : Int32} {v_bestWorn : Int32} {v_bestMany : Int32} {v_soughtBy : Int32} {v_sought : Int32} {v_soughtAt : Int32} {v_foundMany : Int32} {v_foundOrder : Int32} {v_isKept : Bool} {v_imageRows : Int32} {v_imageColumns : Int32} {v_imageFolded : Int32} {v_imageWronged : Int32} {v_bodies : Int32} {v_ran : Int32} {v_ownKind : Int32} {v_ownNumber : Int32} {v_limit : List Int32} {v_changeWas : List Int32} {v_changeIs : List Int32} {v_shapeRows : List Int32} {v_shapeColumns : List Int32} {v_below : List Int32} {v_face : List Int32} {v_worn : List Int32} {v_lastBend : List Int32} {v_tape : List Int32} {v_text : List Int32} {v_names : List Int32} {v_bends : List Int32} {v_high : List Int32} {v_to : List Int32} {v_pileSize : List Int32} {v_planLine : List Int32} {v_planWay : List Int32} {v_way1 : List Int32} {v_bestWay : List Int32} {v_order1 : List Int32} {v_placeIn : List Int32} {v_bodyKind : List Int32} {v_trace : List Int32} {v_shelf : List Int32} {v_many : List Int32} {v_items : List Int64} {v_carried : List Int64} {r : Int32} (N : Nat)  : ∀ (n : Nat), ∀ (x1 : Int32) (x2 : Int32) (x3 : Int32) (x4 : Int32) (x5 : Int32) (v_rowsOf : Int32) (v_columnsOf : Int32) (v_row : List Int32) (v_column : List Int32) (H : Heap) (locs : List Loc) (ls : Array Slot), fX9_sizeAt_6 N n x1 x2 x3 x4 x5 v_rowsOf v_columnsOf v_row v_column = some r → va_P D mm_cl (wd_X9 cI cL cS cH a v_keptMany v_done v_rowsOf v_columnsOf v_folded v_wronged v_tapeMany v_textMany v_base v_at v_ends v_fault v_opened v_bentMany v_bentWrong v_moreWorn v_planned v_allWrong v_allWorn v_z v_wishedField v_isFound v_bestWrong v_bestWorn v_bestMany v_soughtBy v_sought v_soughtAt v_foundMany v_foundOrder v_isKept v_imageRows v_imageColumns v_imageFolded v_imageWronged v_bodies v_ran v_ownKind v_ownNumber v_limit v_changeWas v_changeIs v_shapeRows v_shapeColumns v_row v_column v_below v_face v_worn v_lastBend v_tape v_text v_names v_bends v_high v_to v_pileSize v_planLine v_planWay v_way1 v_bestWay v_order1 v_placeIn v_bodyKind v_trace v_shelf v_many v_items v_carried) H → va_D A (wd_X9 cI cL cS cH a v_keptMany v_done v_rowsOf v_columnsOf v_folded v_wronged v_tapeMany v_textMany v_base v_at v_ends v_fault v_opened v_bentMany v_bentWrong v_moreWorn v_planned v_allWrong v_allWorn v_z v_wishedField v_isFound v_bestWrong v_bestWorn v_bestMany v_soughtBy v_sought v_soughtAt v_foundMany v_foundOrder v_isKept v_imageRows v_imageColumns v_imageFolded v_imageWronged v_bodies v_ran v_ownKind v_ownNumber v_limit v_changeWas v_changeIs v_shapeRows v_shapeColumns v_row v_column v_below v_face v_worn v_lastBend v_tape v_text v_names v_bends v_high v_to v_pileSize v_planLine v_planWay v_way1 v_bestWay v_order1 v_placeIn v_bodyKind v_trace v_shelf v_many v_items v_carried) → va_S A s.heap H locs → lv_has ls 6 [(0, .ref (a 0)), (1, .int x1), (2, .int x2), (3, .int x3), (4, .int x4), (5, .int x5)] → W p l e (mm_rr d) s m args below meth c H locs 0 0 (mm_Z below D A (wd_X9 cI cL cS cH a v_keptMany v_done v_rowsOf v_columnsOf v_folded v_wronged v_tapeMany v_textMany v_base v_at v_ends v_fault v_opened v_bentMany v_bentWrong v_moreWorn v_planned v_allWrong v_allWorn v_z v_wishedField v_isFound v_bestWrong v_bestWorn v_bestMany v_soughtBy v_sought v_soughtAt v_foundMany v_foundOrder v_isKept v_imageRows v_imageColumns v_imageFolded v_imageWronged v_bodies v_ran v_ownKind v_ownNumber v_limit v_changeWas v_changeIs v_shapeRows v_shapeColumns v_row v_column v_below v_face v_worn v_lastBend v_tape v_text v_names v_bends v_high v_to v_pileSize v_planLine v_planWay v_way1 v_bestWay v_order1 v_placeIn v_bodyKind v_trace v_shelf v_many v_items v_carried) (some (.int r)) args s) (F0 m 6 ls []) := by
  obtain ⟨hx, hb, hml, hown, hts, hr, hlocks, hK, hSt⟩ := id C0
  intro n
  induction n with
  | zero =>
    intro x1 x2 x3 x4 x5 v_rowsOf v_columnsOf v_row v_column H locs ls hf
    cases (show none = some _ from hf)
  | succ n ih =>
    intro x1 x2 x3 x4 x5 v_rowsOf v_columnsOf v_row v_column H locs ls hf hP hD hS hl
    unfold fX9_sizeAt_6 at hf
    refine lv_iload hx hb dX9_sizeAt_6 (lv_at hl 5 rfl) ?_
    refine lv_aload_n hx hb dX9_sizeAt_8 rfl (lv_at hl 0 rfl) ?_
    obtain ⟨r_1, hc_2, hf⟩ := mm_bd1s hf
    refine mm_callVF (q0 := 0) (ci := 9) (rest := [.int x5]) C0 lk_X9_127 (ctX9_fields (a := a) (d := d - 1) (by omega) hc_2) (by omega) rfl hl.1 rfl (mm_cat rfl) dX9_sizeAt_9 hP hD hA hS rfl rfl (fun H locs hP hD hS => ?_)
    refine W.eq (g2 := F0 m 12 ls [.int r_1, .int x5]) rfl ?_
    refine lv_icmp_ge (tgt := 63) hx hb dX9_sizeAt_12 (by decide) (fun c_3 => ?_) (fun c_3 => ?_)
    · have hf := mm_ip hf c_3
      refine lv_iload hx hb dX9_sizeAt_63 (lv_at hl 4 rfl) ?_
      obtain rfl := mm_inj1 hf
      exact mm_iret C0 hP hD hS dX9_sizeAt_65
    · have hf := mm_in hf c_3
      refine lv_iload hx hb dX9_sizeAt_15 (lv_at hl 4 rfl) ?_
      refine lv_aload_n hx hb dX9_sizeAt_17 rfl (lv_at hl 0 rfl) ?_
      refine mm_get C0 hP iw_X9 0 rfl rfl 9 (by decide) fl_X9_25 rfl dX9_sizeAt_18 ?_
      refine lv_bipush (v := 32) hx hb dX9_sizeAt_21 (by decide) ?_
      refine lv_iload_n hx hb dX9_sizeAt_23 rfl (lv_at hl 1 rfl) ?_
      refine lv_imul hx hb dX9_sizeAt_24 ?_
      refine lv_iload hx hb dX9_sizeAt_25 (lv_at hl 5 rfl) ?_
      refine lv_iadd hx hb dX9_sizeAt_27 ?_
      obtain ⟨h_4, hf⟩ := mm_cks hf
      refine mm_iald C0 hP 6 rfl h_4 dX9_sizeAt_28 ?_
      refine lv_iload_n hx hb dX9_sizeAt_29 rfl (lv_at hl 2 rfl) ?_
      refine lv_icmp_ne (tgt := 53) hx hb dX9_sizeAt_30 (by decide) (fun c_5 => ?_) (fun c_5 => ?_)
      · have hf := mm_in hf c_5
        exact tX9_sizeAt_53 hd C0 hA N ih _ _ _ _ _ _ _ _ _ H locs ls hf hP hD hS (lv_sub hl [0, 1, 2, 3, 5] rfl)
      · have hf := mm_ip hf c_5
        refine lv_aload_n hx hb dX9_sizeAt_33 rfl (lv_at hl 0 rfl) ?_
        refine mm_get C0 hP iw_X9 0 rfl rfl 10 (by decide) fl_X9_28 rfl dX9_sizeAt_34 ?_
        refine lv_bipush (v := 32) hx hb dX9_sizeAt_37 (by decide) ?_
        refine lv_iload_n hx hb dX9_sizeAt_39 rfl (lv_at hl 1 rfl) ?_
        refine lv_imul hx hb dX9_sizeAt_40 ?_
        refine lv_iload hx hb dX9_sizeAt_41 (lv_at hl 5 rfl) ?_
        refine lv_iadd hx hb dX9_sizeAt_43 ?_
        obtain ⟨h_6, hf⟩ := mm_cks hf
        refine mm_iald C0 hP 7 rfl h_6 dX9_sizeAt_44 ?_
        refine lv_iload_n hx hb dX9_sizeAt_45 rfl (lv_at hl 3 rfl) ?_
        refine lv_icmp_ne (tgt := 53) hx hb dX9_sizeAt_46 (by decide) (fun c_7 => ?_) (fun c_7 => ?_)
        · have hf := mm_in hf c_7
          exact tX9_sizeAt_53 hd C0 hA N ih _ _ _ _ _ _ _ _ _ H locs ls hf hP hD hS (lv_sub hl [0, 1, 2, 3, 5] rfl)
        · have hf := mm_ip hf c_7
          refine lv_iconst (v := 1) hx hb dX9_sizeAt_49 (by decide) ?_
          refine lv_goto (tgt := 54) hx hb dX9_sizeAt_50 (by decide) ?_
          exact tX9_sizeAt_54 hd C0 hA N ih _ _ _ _ _ _ _ _ _ _ H locs ls hf hP hD hS (lv_sub hl [0, 1, 2, 3, 5] rfl)

def fX9_sizeAt (N : Nat) (x1 : Int32) (x2 : Int32) (x3 : Int32) (v_rowsOf : Int32) (v_columnsOf : Int32) (v_row : List Int32) (v_column : List Int32) : Option (Int32) :=
    fX9_sizeAt_6 N N x1 x2 x3 (0 : Int32) (0 : Int32) v_rowsOf v_columnsOf v_row v_column

set_option maxHeartbeats 4000000 in
set_option maxRecDepth 100000 in
theorem ctX9_sizeAt {l : Launch} {D : va_G} {cI cL cS cH : ClassId} {a : Nat → Nat} {x1 : Int32} {x2 : Int32} {x3 : Int32} {v_keptMany : Int32} {v_done : Int32} {v_rowsOf : Int32} {v_columnsOf : Int32} {v_folded : Int32} {v_wronged : Int32} {v_tapeMany : Int32} {v_textMany : Int32} {v_base : Int32} {v_at : Int32} {v_ends : Int32} {v_fault : Int32} {v_opened : Int32} {v_bentMany : Int32} {v_bentWrong : Int32} {v_moreWorn : Int32} {v_planned : Int32} {v_allWrong : Int32} {v_allWorn : Int32} {v_z : Int32} {v_wishedField : Int32} {v_isFound : Bool} {v_bestWrong : Int32} {v_bestWorn : Int32} {v_bestMany : Int32} {v_soughtBy : Int32} {v_sought : Int32} {v_soughtAt : Int32} {v_foundMany : Int32} {v_foundOrder : Int32} {v_isKept : Bool} {v_imageRows : Int32} {v_imageColumns : Int32} {v_imageFolded : Int32} {v_imageWronged : Int32} {v_bodies : Int32} {v_ran : Int32} {v_ownKind : Int32} {v_ownNumber : Int32} {v_limit : List Int32} {v_changeWas : List Int32} {v_changeIs : List Int32} {v_shapeRows : List Int32} {v_shapeColumns : List Int32} {v_row : List Int32} {v_column : List Int32} {v_below : List Int32} {v_face : List Int32} {v_worn : List Int32} {v_lastBend : List Int32} {v_tape : List Int32} {v_text : List Int32} {v_names : List Int32} {v_bends : List Int32} {v_high : List Int32} {v_to : List Int32} {v_pileSize : List Int32} {v_planLine : List Int32} {v_planWay : List Int32} {v_way1 : List Int32} {v_bestWay : List Int32} {v_order1 : List Int32} {v_placeIn : List Int32} {v_bodyKind : List Int32} {v_trace : List Int32} {v_shelf : List Int32} {v_many : List Int32} {v_items : List Int64} {v_carried : List Int64} {r : Int32} {N d : Nat} (hd : 2 ≤ d) (hf : fX9_sizeAt N x1 x2 x3 v_rowsOf v_columnsOf v_row v_column = some r) : mm_Ct l yX9_sizeAt cX9_sizeAt 6 (some .int) d D (mm_T cI cL cS cH) [.ref (a 0), .int x1, .int x2, .int x3] (wd_X9 cI cL cS cH a v_keptMany v_done v_rowsOf v_columnsOf v_folded v_wronged v_tapeMany v_textMany v_base v_at v_ends v_fault v_opened v_bentMany v_bentWrong v_moreWorn v_planned v_allWrong v_allWorn v_z v_wishedField v_isFound v_bestWrong v_bestWorn v_bestMany v_soughtBy v_sought v_soughtAt v_foundMany v_foundOrder v_isKept v_imageRows v_imageColumns v_imageFolded v_imageWronged v_bodies v_ran v_ownKind v_ownNumber v_limit v_changeWas v_changeIs v_shapeRows v_shapeColumns v_row v_column v_below v_face v_worn v_lastBend v_tape v_text v_names v_bends v_high v_to v_pileSize v_planLine v_planWay v_way1 v_bestWay v_order1 v_placeIn v_bodyKind v_trace v_shelf v_many v_items v_carried) (wd_X9 cI cL cS cH a v_keptMany v_done v_rowsOf v_columnsOf v_folded v_wronged v_tapeMany v_textMany v_base v_at v_ends v_fault v_opened v_bentMany v_bentWrong v_moreWorn v_planned v_allWrong v_allWorn v_z v_wishedField v_isFound v_bestWrong v_bestWorn v_bestMany v_soughtBy v_sought v_soughtAt v_foundMany v_foundOrder v_isKept v_imageRows v_imageColumns v_imageFolded v_imageWronged v_bodies v_ran v_ownKind v_ownNumber v_limit v_changeWas v_changeIs v_shapeRows v_shapeColumns v_row v_column v_below v_face v_worn v_lastBend v_tape v_text v_names v_bends v_high v_to v_pileSize v_planLine v_planWay v_way1 v_bestWay v_order1 v_placeIn v_bodyKind v_trace v_shelf v_many v_items v_carried) (some (.int r)) := by
  refine mm_of (by decide) (Nat.le_of_ble_eq_true rfl) ?_
  intro p e s m args below meth c A H locs ls C0 hP hD hA hS hl
  have C0 : mm_Cx p s m args meth c RX9 cX9_sizeAt 6 (some .int) D (mm_T cI cL cS cH) A := C0
  obtain ⟨hx, hb, hml, hown, hts, hr, hlocks, hK, hSt⟩ := id C0
  have hl : lv_has ls 6 [(0, .ref (a 0)), (1, .int x1), (2, .int x2), (3, .int x3)] := hl
  unfold fX9_sizeAt at hf
  refine lv_iconst (v := 0) hx hb dX9_sizeAt_0 (by decide) ?_
  refine lv_istore (lv' := [(4, .int (0 : Int32)), (0, .ref (a 0)), (1, .int x1), (2, .int x2), (3, .int x3)]) hx hb dX9_sizeAt_1 hl (by decide) rfl (fun ls hl => ?_)
  refine lv_iconst (v := 0) hx hb dX9_sizeAt_3 (by decide) ?_
  refine lv_istore (lv' := [(5, .int (0 : Int32)), (4, .int (0 : Int32)), (0, .ref (a 0)), (1, .int x1), (2, .int x2), (3, .int x3)]) hx hb dX9_sizeAt_4 hl (by decide) rfl (fun ls hl => ?_)
  exact tX9_sizeAt_6 hd C0 hA N  N _ _ _ _ _ _ _ _ _ H locs ls hf hP hD hS (lv_sub hl [2, 3, 4, 5, 1, 0] rfl)

theorem dX9_fieldAt_0 : decode cX9_fieldAt 0 = .ok (.iconst 0, 1) := by decide +kernel
theorem dX9_fieldAt_1 : decode cX9_fieldAt 1 = .ok (.istore 5, 2) := by decide +kernel
theorem dX9_fieldAt_3 : decode cX9_fieldAt 3 = .ok (.iload 5, 2) := by decide +kernel
theorem dX9_fieldAt_5 : decode cX9_fieldAt 5 = .ok (.aload_n 0, 1) := by decide +kernel
theorem dX9_fieldAt_6 : decode cX9_fieldAt 6 = .ok (.invokevirtual 127, 3) := by decide +kernel
theorem dX9_fieldAt_9 : decode cX9_fieldAt 9 = .ok (.if_icmp .ge 55, 3) := by decide +kernel
theorem dX9_fieldAt_12 : decode cX9_fieldAt 12 = .ok (.bipush 32, 2) := by decide +kernel
theorem dX9_fieldAt_14 : decode cX9_fieldAt 14 = .ok (.iload_n 1, 1) := by decide +kernel
theorem dX9_fieldAt_15 : decode cX9_fieldAt 15 = .ok (.imul, 1) := by decide +kernel
theorem dX9_fieldAt_16 : decode cX9_fieldAt 16 = .ok (.iload 5, 2) := by decide +kernel
theorem dX9_fieldAt_18 : decode cX9_fieldAt 18 = .ok (.iadd, 1) := by decide +kernel
theorem dX9_fieldAt_19 : decode cX9_fieldAt 19 = .ok (.istore 6, 2) := by decide +kernel
theorem dX9_fieldAt_21 : decode cX9_fieldAt 21 = .ok (.aload_n 0, 1) := by decide +kernel
theorem dX9_fieldAt_22 : decode cX9_fieldAt 22 = .ok (.getfield 25, 3) := by decide +kernel
theorem dX9_fieldAt_25 : decode cX9_fieldAt 25 = .ok (.iload 6, 2) := by decide +kernel
theorem dX9_fieldAt_27 : decode cX9_fieldAt 27 = .ok (.iaload, 1) := by decide +kernel
theorem dX9_fieldAt_28 : decode cX9_fieldAt 28 = .ok (.iload_n 2, 1) := by decide +kernel
theorem dX9_fieldAt_29 : decode cX9_fieldAt 29 = .ok (.if_icmp .ne 29, 3) := by decide +kernel
theorem dX9_fieldAt_32 : decode cX9_fieldAt 32 = .ok (.aload_n 0, 1) := by decide +kernel
theorem dX9_fieldAt_33 : decode cX9_fieldAt 33 = .ok (.getfield 28, 3) := by decide +kernel
theorem dX9_fieldAt_36 : decode cX9_fieldAt 36 = .ok (.iload 6, 2) := by decide +kernel
theorem dX9_fieldAt_38 : decode cX9_fieldAt 38 = .ok (.iaload, 1) := by decide +kernel
theorem dX9_fieldAt_39 : decode cX9_fieldAt 39 = .ok (.iload_n 3, 1) := by decide +kernel
theorem dX9_fieldAt_40 : decode cX9_fieldAt 40 = .ok (.if_icmp .ne 18, 3) := by decide +kernel
theorem dX9_fieldAt_43 : decode cX9_fieldAt 43 = .ok (.aload_n 0, 1) := by decide +kernel
theorem dX9_fieldAt_44 : decode cX9_fieldAt 44 = .ok (.getfield 31, 3) := by decide +kernel
theorem dX9_fieldAt_47 : decode cX9_fieldAt 47 = .ok (.iload 6, 2) := by decide +kernel
theorem dX9_fieldAt_49 : decode cX9_fieldAt 49 = .ok (.iaload, 1) := by decide +kernel
theorem dX9_fieldAt_50 : decode cX9_fieldAt 50 = .ok (.iload 4, 2) := by decide +kernel
theorem dX9_fieldAt_52 : decode cX9_fieldAt 52 = .ok (.if_icmp .ne 6, 3) := by decide +kernel
theorem dX9_fieldAt_55 : decode cX9_fieldAt 55 = .ok (.iload 5, 2) := by decide +kernel
theorem dX9_fieldAt_57 : decode cX9_fieldAt 57 = .ok (.ireturn, 1) := by decide +kernel
theorem dX9_fieldAt_58 : decode cX9_fieldAt 58 = .ok (.iinc 5 1, 3) := by decide +kernel
theorem dX9_fieldAt_61 : decode cX9_fieldAt 61 = .ok (.goto (-58), 3) := by decide +kernel
theorem dX9_fieldAt_64 : decode cX9_fieldAt 64 = .ok (.iconst (-1), 1) := by decide +kernel
theorem dX9_fieldAt_65 : decode cX9_fieldAt 65 = .ok (.ireturn, 1) := by decide +kernel
def fX9_fieldAt_58 (N : Nat) (k_3 : Int32 → Int32 → Int32 → Int32 → Int32 → Int32 → Int32 → List Int32 → List Int32 → List Int32 → Option (Int32)) (x1 : Int32) (x2 : Int32) (x3 : Int32) (x4 : Int32) (x5 : Int32) (v_rowsOf : Int32) (v_columnsOf : Int32) (v_row : List Int32) (v_column : List Int32) (v_below : List Int32) : Option (Int32) :=
    mm_nm (x5 + (1 : Int32)) (fun (y_11 : Int32) =>
    k_3 x1 x2 x3 x4 y_11 v_rowsOf v_columnsOf v_row v_column v_below)

set_option maxHeartbeats 4000000 in
set_option maxRecDepth 100000 in
theorem tX9_fieldAt_58 {p : Program} {l : Launch} {e : Env} {s : State} {m : MethodId} {args : Array Value} {below : List Frame} {meth : Method} {c : Code} {D : va_G} {cI cL cS cH : ClassId} {A : Nat → Prop} {d : Nat} {a : Nat → Nat} (hd : 2 ≤ d) (C0 : mm_Cx p s m args meth c RX9 cX9_fieldAt 7 (some .int) D (mm_T cI cL cS cH) A) (hA : ∀ q, s.heap.size ≤ q → A q) {v_keptMany : Int32} {v_done : Int32} {v_folded : Int32} {v_wronged : Int32} {v_tapeMany : Int32} {v_textMany : Int32} {v_base : Int32} {v_at : Int32} {v_ends : Int32} {v_fault : Int32} {v_opened : Int32} {v_bentMany : Int32} {v_bentWrong : Int32} {v_moreWorn : Int32} {v_planned : Int32} {v_allWrong : Int32} {v_allWorn : Int32} {v_z : Int32} {v_wishedField : Int32} {v_isFound : Bool} {v_bestWrong : Int32} {v_bestWorn : Int32} {v_bestMany : Int32} {v_soughtBy : Int32} {v_sought : Int32} {v_soughtAt : Int32} {v_foundMany : Int32} {v_foundOrder : Int32} {v_isKept : Bool} {v_imageRows : Int32} {v_imageColumns : Int32} {v_imageFolded : Int32} {v_imageWronged : Int32} {v_bodies : Int32} {v_ran : Int32} {v_ownKind : Int32} {v_ownNumber : Int32} {v_limit : List Int32} {v_changeWas : List Int32} {v_changeIs : List Int32} {v_shapeRows : List Int32} {v_shapeColumns : List Int32} {v_face : List Int32} {v_worn : List Int32} {v_lastBend : List Int32} {v_tape : List Int32} {v_text : List Int32} {v_names : List Int32} {v_bends : List Int32} {v_high : List Int32} {v_to : List Int32} {v_pileSize : List Int32} {v_planLine : List Int32} {v_planWay : List Int32} {v_way1 : List Int32} {v_bestWay : List Int32} {v_order1 : List Int32} {v_placeIn : List Int32} {v_bodyKind : List Int32} {v_trace : List Int32} {v_shelf : List Int32} {v_many : List Int32} {v_items : List Int64} {v_carried : List Int64} {r : Int32} (N : Nat) {k_3 : Int32 → Int32 → Int32 → Int32 → Int32 → Int32 → Int32 → List Int32 → List Int32 → List Int32 → Option (Int32)} (hk_3 : ∀ (x1 : Int32) (x2 : Int32) (x3 : Int32) (x4 : Int32) (x5 : Int32) (v_rowsOf : Int32) (v_columnsOf : Int32) (v_row : List Int32) (v_column : List Int32) (v_below : List Int32) (H : Heap) (locs : List Loc) (ls : Array Slot), k_3 x1 x2 x3 x4 x5 v_rowsOf v_columnsOf v_row v_column v_below = some r → va_P D mm_cl (wd_X9 cI cL cS cH a v_keptMany v_done v_rowsOf v_columnsOf v_folded v_wronged v_tapeMany v_textMany v_base v_at v_ends v_fault v_opened v_bentMany v_bentWrong v_moreWorn v_planned v_allWrong v_allWorn v_z v_wishedField v_isFound v_bestWrong v_bestWorn v_bestMany v_soughtBy v_sought v_soughtAt v_foundMany v_foundOrder v_isKept v_imageRows v_imageColumns v_imageFolded v_imageWronged v_bodies v_ran v_ownKind v_ownNumber v_limit v_changeWas v_changeIs v_shapeRows v_shapeColumns v_row v_column v_below v_face v_worn v_lastBend v_tape v_text v_names v_bends v_high v_to v_pileSize v_planLine v_planWay v_way1 v_bestWay v_order1 v_placeIn v_bodyKind v_trace v_shelf v_many v_items v_carried) H → va_D A (wd_X9 cI cL cS cH a v_keptMany v_done v_rowsOf v_columnsOf v_folded v_wronged v_tapeMany v_textMany v_base v_at v_ends v_fault v_opened v_bentMany v_bentWrong v_moreWorn v_planned v_allWrong v_allWorn v_z v_wishedField v_isFound v_bestWrong v_bestWorn v_bestMany v_soughtBy v_sought v_soughtAt v_foundMany v_foundOrder v_isKept v_imageRows v_imageColumns v_imageFolded v_imageWronged v_bodies v_ran v_ownKind v_ownNumber v_limit v_changeWas v_changeIs v_shapeRows v_shapeColumns v_row v_column v_below v_face v_worn v_lastBend v_tape v_text v_names v_bends v_high v_to v_pileSize v_planLine v_planWay v_way1 v_bestWay v_order1 v_placeIn v_bodyKind v_trace v_shelf v_many v_items v_carried) → va_S A s.heap H locs → lv_has ls 7 [(0, .ref (a 0)), (1, .int x1), (2, .int x2), (3, .int x3), (4, .int x4), (5, .int x5)] → W p l e (mm_rr d) s m args below meth c H locs 0 0 (mm_Z below D A (wd_X9 cI cL cS cH a v_keptMany v_done v_rowsOf v_columnsOf v_folded v_wronged v_tapeMany v_textMany v_base v_at v_ends v_fault v_opened v_bentMany v_bentWrong v_moreWorn v_planned v_allWrong v_allWorn v_z v_wishedField v_isFound v_bestWrong v_bestWorn v_bestMany v_soughtBy v_sought v_soughtAt v_foundMany v_foundOrder v_isKept v_imageRows v_imageColumns v_imageFolded v_imageWronged v_bodies v_ran v_ownKind v_ownNumber v_limit v_changeWas v_changeIs v_shapeRows v_shapeColumns v_row v_column v_below v_face v_worn v_lastBend v_tape v_text v_names v_bends v_high v_to v_pileSize v_planLine v_planWay v_way1 v_bestWay v_order1 v_placeIn v_bodyKind v_trace v_shelf v_many v_items v_carried) (some (.int r)) args s) (F0 m 3 ls [])) : ∀ (x1 : Int32) (x2 : Int32) (x3 : Int32) (x4 : Int32) (x5 : Int32) (v_rowsOf : Int32) (v_columnsOf : Int32) (v_row : List Int32) (v_column : List Int32) (v_below : List Int32) (H : Heap) (locs : List Loc) (ls : Array Slot), fX9_fieldAt_58 N k_3 x1 x2 x3 x4 x5 v_rowsOf v_columnsOf v_row v_column v_below = some r → va_P D mm_cl (wd_X9 cI cL cS cH a v_keptMany v_done v_rowsOf v_columnsOf v_folded v_wronged v_tapeMany v_textMany v_base v_at v_ends v_fault v_opened v_bentMany v_bentWrong v_moreWorn v_planned v_allWrong v_allWorn v_z v_wishedField v_isFound v_bestWrong v_bestWorn v_bestMany v_soughtBy v_sought v_soughtAt v_foundMany v_foundOrder v_isKept v_imageRows v_imageColumns v_imageFolded v_imageWronged v_bodies v_ran v_ownKind v_ownNumber v_limit v_changeWas v_changeIs v_shapeRows v_shapeColumns v_row v_column v_below v_face v_worn v_lastBend v_tape v_text v_names v_bends v_high v_to v_pileSize v_planLine v_planWay v_way1 v_bestWay v_order1 v_placeIn v_bodyKind v_trace v_shelf v_many v_items v_carried) H → va_D A (wd_X9 cI cL cS cH a v_keptMany v_done v_rowsOf v_columnsOf v_folded v_wronged v_tapeMany v_textMany v_base v_at v_ends v_fault v_opened v_bentMany v_bentWrong v_moreWorn v_planned v_allWrong v_allWorn v_z v_wishedField v_isFound v_bestWrong v_bestWorn v_bestMany v_soughtBy v_sought v_soughtAt v_foundMany v_foundOrder v_isKept v_imageRows v_imageColumns v_imageFolded v_imageWronged v_bodies v_ran v_ownKind v_ownNumber v_limit v_changeWas v_changeIs v_shapeRows v_shapeColumns v_row v_column v_below v_face v_worn v_lastBend v_tape v_text v_names v_bends v_high v_to v_pileSize v_planLine v_planWay v_way1 v_bestWay v_order1 v_placeIn v_bodyKind v_trace v_shelf v_many v_items v_carried) → va_S A s.heap H locs → lv_has ls 7 [(0, .ref (a 0)), (1, .int x1), (2, .int x2), (3, .int x3), (4, .int x4), (5, .int x5)] → W p l e (mm_rr d) s m args below meth c H locs 0 0 (mm_Z below D A (wd_X9 cI cL cS cH a v_keptMany v_done v_rowsOf v_columnsOf v_folded v_wronged v_tapeMany v_textMany v_base v_at v_ends v_fault v_opened v_bentMany v_bentWrong v_moreWorn v_planned v_allWrong v_allWorn v_z v_wishedField v_isFound v_bestWrong v_bestWorn v_bestMany v_soughtBy v_sought v_soughtAt v_foundMany v_foundOrder v_isKept v_imageRows v_imageColumns v_imageFolded v_imageWronged v_bodies v_ran v_ownKind v_ownNumber v_limit v_changeWas v_changeIs v_shapeRows v_shapeColumns v_row v_column v_below v_face v_worn v_lastBend v_tape v_text v_names v_bends v_high v_to v_pileSize v_planLine v_planWay v_way1 v_bestWay v_order1 v_placeIn v_bodyKind v_trace v_shelf v_many v_items v_carried) (some (.int r)) args s) (F0 m 58 ls []) := by
  obtain ⟨hx, hb, hml, hown, hts, hr, hlocks, hK, hSt⟩ := id C0
  intro x1 x2 x3 x4 x5 v_rowsOf v_columnsOf v_row v_column v_below H locs ls hf hP hD hS hl
  unfold fX9_fieldAt_58 at hf
  obtain ⟨y_11, ey_11⟩ : ∃ z : Int32, z = x5 + (1 : Int32) := ⟨_, rfl⟩
  have hf := mm_nms hf ey_11
  refine lv_iinc (v := y_11) (lv' := [(5, .int y_11), (0, .ref (a 0)), (1, .int x1), (2, .int x2), (3, .int x3), (4, .int x4)]) hx hb dX9_fieldAt_58 hl (k := 5) rfl (by rw [ey_11]; rfl) (by decide) rfl (fun ls hl => ?_)
  refine lv_goto (tgt := 3) hx hb dX9_fieldAt_61 (by decide) ?_
  exact hk_3 _ _ _ _ _ _ _ _ _ _ H locs ls hf hP hD hS (lv_sub hl [1, 2, 3, 4, 5, 0] rfl)

def fX9_fieldAt_3 (N : Nat)  : Nat → Int32 → Int32 → Int32 → Int32 → Int32 → Int32 → Int32 → List Int32 → List Int32 → List Int32 → Option (Int32)
  | 0 => fun _ _ _ _ _ _ _ _ _ _ => none
  | n + 1 => fun x1 x2 x3 x4 x5 v_rowsOf v_columnsOf v_row v_column v_below =>
    mm_bd1 (fX9_fields N v_rowsOf v_columnsOf) (fun (r_1 : Int32) =>
    if r_1 ≤ x5 then
    (some ((-1 : Int32)))
    else (mm_nm ((((32 : Int32) * x1) + x5)) (fun (y_4 : Int32) =>
    mm_ck (mm_inb y_4 v_row.length) (if (mm_ig v_row y_4) = x2 then
    (mm_ck (mm_inb y_4 v_column.length) (if (mm_ig v_column y_4) = x3 then
    (mm_ck (mm_inb y_4 v_below.length) (if (mm_ig v_below y_4) = x4 then
    (some (x5))
    else (fX9_fieldAt_58 N (fX9_fieldAt_3 N n) x1 x2 x3 x4 x5 v_rowsOf v_columnsOf v_row v_column v_below)))
    else (fX9_fieldAt_58 N (fX9_fieldAt_3 N n) x1 x2 x3 x4 x5 v_rowsOf v_columnsOf v_row v_column v_below)))
    else (fX9_fieldAt_58 N (fX9_fieldAt_3 N n) x1 x2 x3 x4 x5 v_rowsOf v_columnsOf v_row v_column v_below)))))

set_option maxHeartbeats 4000000 in
set_option maxRecDepth 100000 in
theorem tX9_fieldAt_3 {p : Program} {l : Launch} {e : Env} {s : State} {m : MethodId} {args : Array Value} {below : List Frame} {meth : Method} {c : Code} {D : va_G} {cI cL cS cH : ClassId} {A : Nat → Prop} {d : Nat} {a : Nat → Nat} (hd : 2 ≤ d) (C0 : mm_Cx p s m args meth c RX9 cX9_fieldAt 7 (some .int) D (mm_T cI cL cS cH) A) (hA : ∀ q, s.heap.size ≤ q → A q) {v_keptMany : Int32} {v_done : Int32} {v_folded : Int32} {v_wronged : Int32} {v_tapeMany : Int32} {v_textMany : Int32} {v_base : Int32} {v_at : Int32} {v_ends : Int32} {v_fault : Int32} {v_opened : Int32} {v_bentMany : Int32} {v_bentWrong : Int32} {v_moreWorn : Int32} {v_planned : Int32} {v_allWrong : Int32} {v_allWorn : Int32} {v_z : Int32} {v_wishedField : Int32} {v_isFound : Bool} {v_bestWrong : Int32} {v_bestWorn : Int32} {v_bestMany : Int32} {v_soughtBy : Int32} {v_sought : Int32} {v_soughtAt : Int32} {v_foundMany : Int32} {v_foundOrder : Int32} {v_isKept : Bool} {v_imageRows : Int32} {v_imageColumns : Int32} {v_imageFolded : Int32} {v_imageWronged : Int32} {v_bodies : Int32} {v_ran : Int32} {v_ownKind : Int32} {v_ownNumber : Int32} {v_limit : List Int32} {v_changeWas : List Int32} {v_changeIs : List Int32} {v_shapeRows : List Int32} {v_shapeColumns : List Int32} {v_face : List Int32} {v_worn : List Int32} {v_lastBend : List Int32} {v_tape : List Int32} {v_text : List Int32} {v_names : List Int32} {v_bends : List Int32} {v_high : List Int32} {v_to : List Int32} {v_pileSize : List Int32} {v_planLine : List Int32} {v_planWay : List Int32} {v_way1 : List Int32} {v_bestWay : List Int32} {v_order1 : List Int32} {v_placeIn : List Int32} {v_bodyKind : List Int32} {v_trace : List Int32} {v_shelf : List Int32} {v_many : List Int32} {v_items : List Int64} {v_carried : List Int64} {r : Int32} (N : Nat)  : ∀ (n : Nat), ∀ (x1 : Int32) (x2 : Int32) (x3 : Int32) (x4 : Int32) (x5 : Int32) (v_rowsOf : Int32) (v_columnsOf : Int32) (v_row : List Int32) (v_column : List Int32) (v_below : List Int32) (H : Heap) (locs : List Loc) (ls : Array Slot), fX9_fieldAt_3 N n x1 x2 x3 x4 x5 v_rowsOf v_columnsOf v_row v_column v_below = some r → va_P D mm_cl (wd_X9 cI cL cS cH a v_keptMany v_done v_rowsOf v_columnsOf v_folded v_wronged v_tapeMany v_textMany v_base v_at v_ends v_fault v_opened v_bentMany v_bentWrong v_moreWorn v_planned v_allWrong v_allWorn v_z v_wishedField v_isFound v_bestWrong v_bestWorn v_bestMany v_soughtBy v_sought v_soughtAt v_foundMany v_foundOrder v_isKept v_imageRows v_imageColumns v_imageFolded v_imageWronged v_bodies v_ran v_ownKind v_ownNumber v_limit v_changeWas v_changeIs v_shapeRows v_shapeColumns v_row v_column v_below v_face v_worn v_lastBend v_tape v_text v_names v_bends v_high v_to v_pileSize v_planLine v_planWay v_way1 v_bestWay v_order1 v_placeIn v_bodyKind v_trace v_shelf v_many v_items v_carried) H → va_D A (wd_X9 cI cL cS cH a v_keptMany v_done v_rowsOf v_columnsOf v_folded v_wronged v_tapeMany v_textMany v_base v_at v_ends v_fault v_opened v_bentMany v_bentWrong v_moreWorn v_planned v_allWrong v_allWorn v_z v_wishedField v_isFound v_bestWrong v_bestWorn v_bestMany v_soughtBy v_sought v_soughtAt v_foundMany v_foundOrder v_isKept v_imageRows v_imageColumns v_imageFolded v_imageWronged v_bodies v_ran v_ownKind v_ownNumber v_limit v_changeWas v_changeIs v_shapeRows v_shapeColumns v_row v_column v_below v_face v_worn v_lastBend v_tape v_text v_names v_bends v_high v_to v_pileSize v_planLine v_planWay v_way1 v_bestWay v_order1 v_placeIn v_bodyKind v_trace v_shelf v_many v_items v_carried) → va_S A s.heap H locs → lv_has ls 7 [(0, .ref (a 0)), (1, .int x1), (2, .int x2), (3, .int x3), (4, .int x4), (5, .int x5)] → W p l e (mm_rr d) s m args below meth c H locs 0 0 (mm_Z below D A (wd_X9 cI cL cS cH a v_keptMany v_done v_rowsOf v_columnsOf v_folded v_wronged v_tapeMany v_textMany v_base v_at v_ends v_fault v_opened v_bentMany v_bentWrong v_moreWorn v_planned v_allWrong v_allWorn v_z v_wishedField v_isFound v_bestWrong v_bestWorn v_bestMany v_soughtBy v_sought v_soughtAt v_foundMany v_foundOrder v_isKept v_imageRows v_imageColumns v_imageFolded v_imageWronged v_bodies v_ran v_ownKind v_ownNumber v_limit v_changeWas v_changeIs v_shapeRows v_shapeColumns v_row v_column v_below v_face v_worn v_lastBend v_tape v_text v_names v_bends v_high v_to v_pileSize v_planLine v_planWay v_way1 v_bestWay v_order1 v_placeIn v_bodyKind v_trace v_shelf v_many v_items v_carried) (some (.int r)) args s) (F0 m 3 ls []) := by
  obtain ⟨hx, hb, hml, hown, hts, hr, hlocks, hK, hSt⟩ := id C0
  intro n
  induction n with
  | zero =>
    intro x1 x2 x3 x4 x5 v_rowsOf v_columnsOf v_row v_column v_below H locs ls hf
    cases (show none = some _ from hf)
  | succ n ih =>
    intro x1 x2 x3 x4 x5 v_rowsOf v_columnsOf v_row v_column v_below H locs ls hf hP hD hS hl
    unfold fX9_fieldAt_3 at hf
    refine lv_iload hx hb dX9_fieldAt_3 (lv_at hl 5 rfl) ?_
    refine lv_aload_n hx hb dX9_fieldAt_5 rfl (lv_at hl 0 rfl) ?_
    obtain ⟨r_1, hc_2, hf⟩ := mm_bd1s hf
    refine mm_callVF (q0 := 0) (ci := 9) (rest := [.int x5]) C0 lk_X9_127 (ctX9_fields (a := a) (d := d - 1) (by omega) hc_2) (by omega) rfl hl.1 rfl (mm_cat rfl) dX9_fieldAt_6 hP hD hA hS rfl rfl (fun H locs hP hD hS => ?_)
    refine W.eq (g2 := F0 m 9 ls [.int r_1, .int x5]) rfl ?_
    refine lv_icmp_ge (tgt := 64) hx hb dX9_fieldAt_9 (by decide) (fun c_3 => ?_) (fun c_3 => ?_)
    · have hf := mm_ip hf c_3
      refine lv_iconst (v := -1) hx hb dX9_fieldAt_64 (by decide) ?_
      obtain rfl := mm_inj1 hf
      exact mm_iret C0 hP hD hS dX9_fieldAt_65
    · have hf := mm_in hf c_3
      refine lv_bipush (v := 32) hx hb dX9_fieldAt_12 (by decide) ?_
      refine lv_iload_n hx hb dX9_fieldAt_14 rfl (lv_at hl 1 rfl) ?_
      refine lv_imul hx hb dX9_fieldAt_15 ?_
      refine lv_iload hx hb dX9_fieldAt_16 (lv_at hl 5 rfl) ?_
      refine lv_iadd hx hb dX9_fieldAt_18 ?_
      refine lv_topi (fun y_4 ey_4 => ?_)
      have hf := mm_nms hf ey_4
      refine lv_istore (lv' := [(6, .int y_4), (0, .ref (a 0)), (1, .int x1), (2, .int x2), (3, .int x3), (4, .int x4), (5, .int x5)]) hx hb dX9_fieldAt_19 hl (by decide) rfl (fun ls hl => ?_)
      refine lv_aload_n hx hb dX9_fieldAt_21 rfl (lv_at hl 1 rfl) ?_
      refine mm_get C0 hP iw_X9 0 rfl rfl 9 (by decide) fl_X9_25 rfl dX9_fieldAt_22 ?_
      refine lv_iload hx hb dX9_fieldAt_25 (lv_at hl 0 rfl) ?_
      obtain ⟨h_5, hf⟩ := mm_cks hf
      refine mm_iald C0 hP 6 rfl h_5 dX9_fieldAt_27 ?_
      refine lv_iload_n hx hb dX9_fieldAt_28 rfl (lv_at hl 3 rfl) ?_
      refine lv_icmp_ne (tgt := 58) hx hb dX9_fieldAt_29 (by decide) (fun c_6 => ?_) (fun c_6 => ?_)
      · have hf := mm_in hf c_6
        exact tX9_fieldAt_58 hd C0 hA N ih _ _ _ _ _ _ _ _ _ _ H locs ls hf hP hD hS (lv_sub hl [1, 2, 3, 4, 5, 6] rfl)
      · have hf := mm_ip hf c_6
        refine lv_aload_n hx hb dX9_fieldAt_32 rfl (lv_at hl 1 rfl) ?_
        refine mm_get C0 hP iw_X9 0 rfl rfl 10 (by decide) fl_X9_28 rfl dX9_fieldAt_33 ?_
        refine lv_iload hx hb dX9_fieldAt_36 (lv_at hl 0 rfl) ?_
        obtain ⟨h_7, hf⟩ := mm_cks hf
        refine mm_iald C0 hP 7 rfl h_7 dX9_fieldAt_38 ?_
        refine lv_iload_n hx hb dX9_fieldAt_39 rfl (lv_at hl 4 rfl) ?_
        refine lv_icmp_ne (tgt := 58) hx hb dX9_fieldAt_40 (by decide) (fun c_8 => ?_) (fun c_8 => ?_)
        · have hf := mm_in hf c_8
          exact tX9_fieldAt_58 hd C0 hA N ih _ _ _ _ _ _ _ _ _ _ H locs ls hf hP hD hS (lv_sub hl [1, 2, 3, 4, 5, 6] rfl)
        · have hf := mm_ip hf c_8
          refine lv_aload_n hx hb dX9_fieldAt_43 rfl (lv_at hl 1 rfl) ?_
          refine mm_get C0 hP iw_X9 0 rfl rfl 11 (by decide) fl_X9_31 rfl dX9_fieldAt_44 ?_
          refine lv_iload hx hb dX9_fieldAt_47 (lv_at hl 0 rfl) ?_
          obtain ⟨h_9, hf⟩ := mm_cks hf
          refine mm_iald C0 hP 8 rfl h_9 dX9_fieldAt_49 ?_
          refine lv_iload hx hb dX9_fieldAt_50 (lv_at hl 5 rfl) ?_
          refine lv_icmp_ne (tgt := 58) hx hb dX9_fieldAt_52 (by decide) (fun c_10 => ?_) (fun c_10 => ?_)
          · have hf := mm_in hf c_10
            exact tX9_fieldAt_58 hd C0 hA N ih _ _ _ _ _ _ _ _ _ _ H locs ls hf hP hD hS (lv_sub hl [1, 2, 3, 4, 5, 6] rfl)
          · have hf := mm_ip hf c_10
            refine lv_iload hx hb dX9_fieldAt_55 (lv_at hl 6 rfl) ?_
            obtain rfl := mm_inj1 hf
            exact mm_iret C0 hP hD hS dX9_fieldAt_57

def fX9_fieldAt (N : Nat) (x1 : Int32) (x2 : Int32) (x3 : Int32) (x4 : Int32) (v_rowsOf : Int32) (v_columnsOf : Int32) (v_row : List Int32) (v_column : List Int32) (v_below : List Int32) : Option (Int32) :=
    fX9_fieldAt_3 N N x1 x2 x3 x4 (0 : Int32) v_rowsOf v_columnsOf v_row v_column v_below

set_option maxHeartbeats 4000000 in
set_option maxRecDepth 100000 in
theorem ctX9_fieldAt {l : Launch} {D : va_G} {cI cL cS cH : ClassId} {a : Nat → Nat} {x1 : Int32} {x2 : Int32} {x3 : Int32} {x4 : Int32} {v_keptMany : Int32} {v_done : Int32} {v_rowsOf : Int32} {v_columnsOf : Int32} {v_folded : Int32} {v_wronged : Int32} {v_tapeMany : Int32} {v_textMany : Int32} {v_base : Int32} {v_at : Int32} {v_ends : Int32} {v_fault : Int32} {v_opened : Int32} {v_bentMany : Int32} {v_bentWrong : Int32} {v_moreWorn : Int32} {v_planned : Int32} {v_allWrong : Int32} {v_allWorn : Int32} {v_z : Int32} {v_wishedField : Int32} {v_isFound : Bool} {v_bestWrong : Int32} {v_bestWorn : Int32} {v_bestMany : Int32} {v_soughtBy : Int32} {v_sought : Int32} {v_soughtAt : Int32} {v_foundMany : Int32} {v_foundOrder : Int32} {v_isKept : Bool} {v_imageRows : Int32} {v_imageColumns : Int32} {v_imageFolded : Int32} {v_imageWronged : Int32} {v_bodies : Int32} {v_ran : Int32} {v_ownKind : Int32} {v_ownNumber : Int32} {v_limit : List Int32} {v_changeWas : List Int32} {v_changeIs : List Int32} {v_shapeRows : List Int32} {v_shapeColumns : List Int32} {v_row : List Int32} {v_column : List Int32} {v_below : List Int32} {v_face : List Int32} {v_worn : List Int32} {v_lastBend : List Int32} {v_tape : List Int32} {v_text : List Int32} {v_names : List Int32} {v_bends : List Int32} {v_high : List Int32} {v_to : List Int32} {v_pileSize : List Int32} {v_planLine : List Int32} {v_planWay : List Int32} {v_way1 : List Int32} {v_bestWay : List Int32} {v_order1 : List Int32} {v_placeIn : List Int32} {v_bodyKind : List Int32} {v_trace : List Int32} {v_shelf : List Int32} {v_many : List Int32} {v_items : List Int64} {v_carried : List Int64} {r : Int32} {N d : Nat} (hd : 2 ≤ d) (hf : fX9_fieldAt N x1 x2 x3 x4 v_rowsOf v_columnsOf v_row v_column v_below = some r) : mm_Ct l yX9_fieldAt cX9_fieldAt 7 (some .int) d D (mm_T cI cL cS cH) [.ref (a 0), .int x1, .int x2, .int x3, .int x4] (wd_X9 cI cL cS cH a v_keptMany v_done v_rowsOf v_columnsOf v_folded v_wronged v_tapeMany v_textMany v_base v_at v_ends v_fault v_opened v_bentMany v_bentWrong v_moreWorn v_planned v_allWrong v_allWorn v_z v_wishedField v_isFound v_bestWrong v_bestWorn v_bestMany v_soughtBy v_sought v_soughtAt v_foundMany v_foundOrder v_isKept v_imageRows v_imageColumns v_imageFolded v_imageWronged v_bodies v_ran v_ownKind v_ownNumber v_limit v_changeWas v_changeIs v_shapeRows v_shapeColumns v_row v_column v_below v_face v_worn v_lastBend v_tape v_text v_names v_bends v_high v_to v_pileSize v_planLine v_planWay v_way1 v_bestWay v_order1 v_placeIn v_bodyKind v_trace v_shelf v_many v_items v_carried) (wd_X9 cI cL cS cH a v_keptMany v_done v_rowsOf v_columnsOf v_folded v_wronged v_tapeMany v_textMany v_base v_at v_ends v_fault v_opened v_bentMany v_bentWrong v_moreWorn v_planned v_allWrong v_allWorn v_z v_wishedField v_isFound v_bestWrong v_bestWorn v_bestMany v_soughtBy v_sought v_soughtAt v_foundMany v_foundOrder v_isKept v_imageRows v_imageColumns v_imageFolded v_imageWronged v_bodies v_ran v_ownKind v_ownNumber v_limit v_changeWas v_changeIs v_shapeRows v_shapeColumns v_row v_column v_below v_face v_worn v_lastBend v_tape v_text v_names v_bends v_high v_to v_pileSize v_planLine v_planWay v_way1 v_bestWay v_order1 v_placeIn v_bodyKind v_trace v_shelf v_many v_items v_carried) (some (.int r)) := by
  refine mm_of (by decide) (Nat.le_of_ble_eq_true rfl) ?_
  intro p e s m args below meth c A H locs ls C0 hP hD hA hS hl
  have C0 : mm_Cx p s m args meth c RX9 cX9_fieldAt 7 (some .int) D (mm_T cI cL cS cH) A := C0
  obtain ⟨hx, hb, hml, hown, hts, hr, hlocks, hK, hSt⟩ := id C0
  have hl : lv_has ls 7 [(0, .ref (a 0)), (1, .int x1), (2, .int x2), (3, .int x3), (4, .int x4)] := hl
  unfold fX9_fieldAt at hf
  refine lv_iconst (v := 0) hx hb dX9_fieldAt_0 (by decide) ?_
  refine lv_istore (lv' := [(5, .int (0 : Int32)), (0, .ref (a 0)), (1, .int x1), (2, .int x2), (3, .int x3), (4, .int x4)]) hx hb dX9_fieldAt_1 hl (by decide) rfl (fun ls hl => ?_)
  exact tX9_fieldAt_3 hd C0 hA N  N _ _ _ _ _ _ _ _ _ _ H locs ls hf hP hD hS (lv_sub hl [1, 2, 3, 4, 5, 0] rfl)

theorem dX9_shape_0 : decode cX9_shape 0 = .ok (.iconst 0, 1) := by decide +kernel
theorem dX9_shape_1 : decode cX9_shape 1 = .ok (.istore_n 2, 1) := by decide +kernel
theorem dX9_shape_2 : decode cX9_shape 2 = .ok (.iconst 0, 1) := by decide +kernel
theorem dX9_shape_3 : decode cX9_shape 3 = .ok (.istore_n 3, 1) := by decide +kernel
theorem dX9_shape_4 : decode cX9_shape 4 = .ok (.iload_n 3, 1) := by decide +kernel
theorem dX9_shape_5 : decode cX9_shape 5 = .ok (.aload_n 0, 1) := by decide +kernel
theorem dX9_shape_6 : decode cX9_shape 6 = .ok (.invokevirtual 127, 3) := by decide +kernel
theorem dX9_shape_9 : decode cX9_shape 9 = .ok (.if_icmp .ge 34, 3) := by decide +kernel
theorem dX9_shape_12 : decode cX9_shape 12 = .ok (.aload_n 0, 1) := by decide +kernel
theorem dX9_shape_13 : decode cX9_shape 13 = .ok (.getfield 31, 3) := by decide +kernel
theorem dX9_shape_16 : decode cX9_shape 16 = .ok (.iload_n 3, 1) := by decide +kernel
theorem dX9_shape_17 : decode cX9_shape 17 = .ok (.iaload, 1) := by decide +kernel
theorem dX9_shape_18 : decode cX9_shape 18 = .ok (.iconst 1, 1) := by decide +kernel
theorem dX9_shape_19 : decode cX9_shape 19 = .ok (.iadd, 1) := by decide +kernel
theorem dX9_shape_20 : decode cX9_shape 20 = .ok (.iload_n 2, 1) := by decide +kernel
theorem dX9_shape_21 : decode cX9_shape 21 = .ok (.if_icmp .le 14, 3) := by decide +kernel
theorem dX9_shape_24 : decode cX9_shape 24 = .ok (.aload_n 0, 1) := by decide +kernel
theorem dX9_shape_25 : decode cX9_shape 25 = .ok (.getfield 31, 3) := by decide +kernel
theorem dX9_shape_28 : decode cX9_shape 28 = .ok (.iload_n 3, 1) := by decide +kernel
theorem dX9_shape_29 : decode cX9_shape 29 = .ok (.iaload, 1) := by decide +kernel
theorem dX9_shape_30 : decode cX9_shape 30 = .ok (.iconst 1, 1) := by decide +kernel
theorem dX9_shape_31 : decode cX9_shape 31 = .ok (.iadd, 1) := by decide +kernel
theorem dX9_shape_32 : decode cX9_shape 32 = .ok (.goto 4, 3) := by decide +kernel
theorem dX9_shape_35 : decode cX9_shape 35 = .ok (.iload_n 2, 1) := by decide +kernel
theorem dX9_shape_36 : decode cX9_shape 36 = .ok (.istore_n 2, 1) := by decide +kernel
theorem dX9_shape_37 : decode cX9_shape 37 = .ok (.iinc 3 1, 3) := by decide +kernel
theorem dX9_shape_40 : decode cX9_shape 40 = .ok (.goto (-36), 3) := by decide +kernel
theorem dX9_shape_43 : decode cX9_shape 43 = .ok (.iload_n 1, 1) := by decide +kernel
theorem dX9_shape_44 : decode cX9_shape 44 = .ok (.ifCond .ne 12, 3) := by decide +kernel
theorem dX9_shape_47 : decode cX9_shape 47 = .ok (.aload_n 0, 1) := by decide +kernel
theorem dX9_shape_48 : decode cX9_shape 48 = .ok (.getfield 19, 3) := by decide +kernel
theorem dX9_shape_51 : decode cX9_shape 51 = .ok (.iconst 0, 1) := by decide +kernel
theorem dX9_shape_52 : decode cX9_shape 52 = .ok (.iaload, 1) := by decide +kernel
theorem dX9_shape_53 : decode cX9_shape 53 = .ok (.goto 27, 3) := by decide +kernel
theorem dX9_shape_56 : decode cX9_shape 56 = .ok (.iload_n 1, 1) := by decide +kernel
theorem dX9_shape_57 : decode cX9_shape 57 = .ok (.iconst 1, 1) := by decide +kernel
theorem dX9_shape_58 : decode cX9_shape 58 = .ok (.if_icmp .ne 12, 3) := by decide +kernel
theorem dX9_shape_61 : decode cX9_shape 61 = .ok (.aload_n 0, 1) := by decide +kernel
theorem dX9_shape_62 : decode cX9_shape 62 = .ok (.getfield 22, 3) := by decide +kernel
theorem dX9_shape_65 : decode cX9_shape 65 = .ok (.iconst 0, 1) := by decide +kernel
theorem dX9_shape_66 : decode cX9_shape 66 = .ok (.iaload, 1) := by decide +kernel
theorem dX9_shape_67 : decode cX9_shape 67 = .ok (.goto 13, 3) := by decide +kernel
theorem dX9_shape_70 : decode cX9_shape 70 = .ok (.iload_n 1, 1) := by decide +kernel
theorem dX9_shape_71 : decode cX9_shape 71 = .ok (.iconst 2, 1) := by decide +kernel
theorem dX9_shape_72 : decode cX9_shape 72 = .ok (.if_icmp .ne 7, 3) := by decide +kernel
theorem dX9_shape_75 : decode cX9_shape 75 = .ok (.iload_n 2, 1) := by decide +kernel
theorem dX9_shape_76 : decode cX9_shape 76 = .ok (.goto 4, 3) := by decide +kernel
theorem dX9_shape_79 : decode cX9_shape 79 = .ok (.iconst (-1), 1) := by decide +kernel
theorem dX9_shape_80 : decode cX9_shape 80 = .ok (.ireturn, 1) := by decide +kernel
def fX9_shape_36 (N : Nat) (k_4 : Int32 → Int32 → Int32 → Int32 → Int32 → List Int32 → List Int32 → List Int32 → Option (Int32)) (x1 : Int32) (x3 : Int32) (s0 : Int32) (v_rowsOf : Int32) (v_columnsOf : Int32) (v_shapeRows : List Int32) (v_shapeColumns : List Int32) (v_below : List Int32) : Option (Int32) :=
    mm_nm (x3 + (1 : Int32)) (fun (y_12 : Int32) =>
    k_4 x1 s0 y_12 v_rowsOf v_columnsOf v_shapeRows v_shapeColumns v_below)

set_option maxHeartbeats 4000000 in
set_option maxRecDepth 100000 in
theorem tX9_shape_36 {p : Program} {l : Launch} {e : Env} {s : State} {m : MethodId} {args : Array Value} {below : List Frame} {meth : Method} {c : Code} {D : va_G} {cI cL cS cH : ClassId} {A : Nat → Prop} {d : Nat} {a : Nat → Nat} (hd : 2 ≤ d) (C0 : mm_Cx p s m args meth c RX9 cX9_shape 4 (some .int) D (mm_T cI cL cS cH) A) (hA : ∀ q, s.heap.size ≤ q → A q) {v_keptMany : Int32} {v_done : Int32} {v_folded : Int32} {v_wronged : Int32} {v_tapeMany : Int32} {v_textMany : Int32} {v_base : Int32} {v_at : Int32} {v_ends : Int32} {v_fault : Int32} {v_opened : Int32} {v_bentMany : Int32} {v_bentWrong : Int32} {v_moreWorn : Int32} {v_planned : Int32} {v_allWrong : Int32} {v_allWorn : Int32} {v_z : Int32} {v_wishedField : Int32} {v_isFound : Bool} {v_bestWrong : Int32} {v_bestWorn : Int32} {v_bestMany : Int32} {v_soughtBy : Int32} {v_sought : Int32} {v_soughtAt : Int32} {v_foundMany : Int32} {v_foundOrder : Int32} {v_isKept : Bool} {v_imageRows : Int32} {v_imageColumns : Int32} {v_imageFolded : Int32} {v_imageWronged : Int32} {v_bodies : Int32} {v_ran : Int32} {v_ownKind : Int32} {v_ownNumber : Int32} {v_limit : List Int32} {v_changeWas : List Int32} {v_changeIs : List Int32} {v_row : List Int32} {v_column : List Int32} {v_face : List Int32} {v_worn : List Int32} {v_lastBend : List Int32} {v_tape : List Int32} {v_text : List Int32} {v_names : List Int32} {v_bends : List Int32} {v_high : List Int32} {v_to : List Int32} {v_pileSize : List Int32} {v_planLine : List Int32} {v_planWay : List Int32} {v_way1 : List Int32} {v_bestWay : List Int32} {v_order1 : List Int32} {v_placeIn : List Int32} {v_bodyKind : List Int32} {v_trace : List Int32} {v_shelf : List Int32} {v_many : List Int32} {v_items : List Int64} {v_carried : List Int64} {r : Int32} (N : Nat) {k_4 : Int32 → Int32 → Int32 → Int32 → Int32 → List Int32 → List Int32 → List Int32 → Option (Int32)} (hk_4 : ∀ (x1 : Int32) (x2 : Int32) (x3 : Int32) (v_rowsOf : Int32) (v_columnsOf : Int32) (v_shapeRows : List Int32) (v_shapeColumns : List Int32) (v_below : List Int32) (H : Heap) (locs : List Loc) (ls : Array Slot), k_4 x1 x2 x3 v_rowsOf v_columnsOf v_shapeRows v_shapeColumns v_below = some r → va_P D mm_cl (wd_X9 cI cL cS cH a v_keptMany v_done v_rowsOf v_columnsOf v_folded v_wronged v_tapeMany v_textMany v_base v_at v_ends v_fault v_opened v_bentMany v_bentWrong v_moreWorn v_planned v_allWrong v_allWorn v_z v_wishedField v_isFound v_bestWrong v_bestWorn v_bestMany v_soughtBy v_sought v_soughtAt v_foundMany v_foundOrder v_isKept v_imageRows v_imageColumns v_imageFolded v_imageWronged v_bodies v_ran v_ownKind v_ownNumber v_limit v_changeWas v_changeIs v_shapeRows v_shapeColumns v_row v_column v_below v_face v_worn v_lastBend v_tape v_text v_names v_bends v_high v_to v_pileSize v_planLine v_planWay v_way1 v_bestWay v_order1 v_placeIn v_bodyKind v_trace v_shelf v_many v_items v_carried) H → va_D A (wd_X9 cI cL cS cH a v_keptMany v_done v_rowsOf v_columnsOf v_folded v_wronged v_tapeMany v_textMany v_base v_at v_ends v_fault v_opened v_bentMany v_bentWrong v_moreWorn v_planned v_allWrong v_allWorn v_z v_wishedField v_isFound v_bestWrong v_bestWorn v_bestMany v_soughtBy v_sought v_soughtAt v_foundMany v_foundOrder v_isKept v_imageRows v_imageColumns v_imageFolded v_imageWronged v_bodies v_ran v_ownKind v_ownNumber v_limit v_changeWas v_changeIs v_shapeRows v_shapeColumns v_row v_column v_below v_face v_worn v_lastBend v_tape v_text v_names v_bends v_high v_to v_pileSize v_planLine v_planWay v_way1 v_bestWay v_order1 v_placeIn v_bodyKind v_trace v_shelf v_many v_items v_carried) → va_S A s.heap H locs → lv_has ls 4 [(0, .ref (a 0)), (1, .int x1), (2, .int x2), (3, .int x3)] → W p l e (mm_rr d) s m args below meth c H locs 0 0 (mm_Z below D A (wd_X9 cI cL cS cH a v_keptMany v_done v_rowsOf v_columnsOf v_folded v_wronged v_tapeMany v_textMany v_base v_at v_ends v_fault v_opened v_bentMany v_bentWrong v_moreWorn v_planned v_allWrong v_allWorn v_z v_wishedField v_isFound v_bestWrong v_bestWorn v_bestMany v_soughtBy v_sought v_soughtAt v_foundMany v_foundOrder v_isKept v_imageRows v_imageColumns v_imageFolded v_imageWronged v_bodies v_ran v_ownKind v_ownNumber v_limit v_changeWas v_changeIs v_shapeRows v_shapeColumns v_row v_column v_below v_face v_worn v_lastBend v_tape v_text v_names v_bends v_high v_to v_pileSize v_planLine v_planWay v_way1 v_bestWay v_order1 v_placeIn v_bodyKind v_trace v_shelf v_many v_items v_carried) (some (.int r)) args s) (F0 m 4 ls [])) : ∀ (x1 : Int32) (x3 : Int32) (s0 : Int32) (v_rowsOf : Int32) (v_columnsOf : Int32) (v_shapeRows : List Int32) (v_shapeColumns : List Int32) (v_below : List Int32) (H : Heap) (locs : List Loc) (ls : Array Slot), fX9_shape_36 N k_4 x1 x3 s0 v_rowsOf v_columnsOf v_shapeRows v_shapeColumns v_below = some r → va_P D mm_cl (wd_X9 cI cL cS cH a v_keptMany v_done v_rowsOf v_columnsOf v_folded v_wronged v_tapeMany v_textMany v_base v_at v_ends v_fault v_opened v_bentMany v_bentWrong v_moreWorn v_planned v_allWrong v_allWorn v_z v_wishedField v_isFound v_bestWrong v_bestWorn v_bestMany v_soughtBy v_sought v_soughtAt v_foundMany v_foundOrder v_isKept v_imageRows v_imageColumns v_imageFolded v_imageWronged v_bodies v_ran v_ownKind v_ownNumber v_limit v_changeWas v_changeIs v_shapeRows v_shapeColumns v_row v_column v_below v_face v_worn v_lastBend v_tape v_text v_names v_bends v_high v_to v_pileSize v_planLine v_planWay v_way1 v_bestWay v_order1 v_placeIn v_bodyKind v_trace v_shelf v_many v_items v_carried) H → va_D A (wd_X9 cI cL cS cH a v_keptMany v_done v_rowsOf v_columnsOf v_folded v_wronged v_tapeMany v_textMany v_base v_at v_ends v_fault v_opened v_bentMany v_bentWrong v_moreWorn v_planned v_allWrong v_allWorn v_z v_wishedField v_isFound v_bestWrong v_bestWorn v_bestMany v_soughtBy v_sought v_soughtAt v_foundMany v_foundOrder v_isKept v_imageRows v_imageColumns v_imageFolded v_imageWronged v_bodies v_ran v_ownKind v_ownNumber v_limit v_changeWas v_changeIs v_shapeRows v_shapeColumns v_row v_column v_below v_face v_worn v_lastBend v_tape v_text v_names v_bends v_high v_to v_pileSize v_planLine v_planWay v_way1 v_bestWay v_order1 v_placeIn v_bodyKind v_trace v_shelf v_many v_items v_carried) → va_S A s.heap H locs → lv_has ls 4 [(0, .ref (a 0)), (1, .int x1), (3, .int x3)] → W p l e (mm_rr d) s m args below meth c H locs 0 0 (mm_Z below D A (wd_X9 cI cL cS cH a v_keptMany v_done v_rowsOf v_columnsOf v_folded v_wronged v_tapeMany v_textMany v_base v_at v_ends v_fault v_opened v_bentMany v_bentWrong v_moreWorn v_planned v_allWrong v_allWorn v_z v_wishedField v_isFound v_bestWrong v_bestWorn v_bestMany v_soughtBy v_sought v_soughtAt v_foundMany v_foundOrder v_isKept v_imageRows v_imageColumns v_imageFolded v_imageWronged v_bodies v_ran v_ownKind v_ownNumber v_limit v_changeWas v_changeIs v_shapeRows v_shapeColumns v_row v_column v_below v_face v_worn v_lastBend v_tape v_text v_names v_bends v_high v_to v_pileSize v_planLine v_planWay v_way1 v_bestWay v_order1 v_placeIn v_bodyKind v_trace v_shelf v_many v_items v_carried) (some (.int r)) args s) (F0 m 36 ls [.int s0]) := by
  obtain ⟨hx, hb, hml, hown, hts, hr, hlocks, hK, hSt⟩ := id C0
  intro x1 x3 s0 v_rowsOf v_columnsOf v_shapeRows v_shapeColumns v_below H locs ls hf hP hD hS hl
  unfold fX9_shape_36 at hf
  refine lv_istore_n (lv' := [(2, .int s0), (0, .ref (a 0)), (1, .int x1), (3, .int x3)]) hx hb dX9_shape_36 rfl hl (by decide) rfl (fun ls hl => ?_)
  obtain ⟨y_12, ey_12⟩ : ∃ z : Int32, z = x3 + (1 : Int32) := ⟨_, rfl⟩
  have hf := mm_nms hf ey_12
  refine lv_iinc (v := y_12) (lv' := [(3, .int y_12), (2, .int s0), (0, .ref (a 0)), (1, .int x1)]) hx hb dX9_shape_37 hl (k := 3) rfl (by rw [ey_12]; rfl) (by decide) rfl (fun ls hl => ?_)
  refine lv_goto (tgt := 4) hx hb dX9_shape_40 (by decide) ?_
  exact hk_4 _ _ _ _ _ _ _ _ H locs ls hf hP hD hS (lv_sub hl [2, 3, 1, 0] rfl)

def fX9_shape_4 (N : Nat)  : Nat → Int32 → Int32 → Int32 → Int32 → Int32 → List Int32 → List Int32 → List Int32 → Option (Int32)
  | 0 => fun _ _ _ _ _ _ _ _ => none
  | n + 1 => fun x1 x2 x3 v_rowsOf v_columnsOf v_shapeRows v_shapeColumns v_below =>
    mm_bd1 (fX9_fields N v_rowsOf v_columnsOf) (fun (r_1 : Int32) =>
    if r_1 ≤ x3 then
    (if x1 = 0 then
    (mm_ck (mm_inb (0 : Int32) v_shapeRows.length) (some ((mm_ig v_shapeRows (0 : Int32)))))
    else (if x1 = (1 : Int32) then
    (mm_ck (mm_inb (0 : Int32) v_shapeColumns.length) (some ((mm_ig v_shapeColumns (0 : Int32)))))
    else (if x1 = (2 : Int32) then
    (some (x2))
    else (some ((-1 : Int32))))))
    else (mm_ck (mm_inb x3 v_below.length) (if ((mm_ig v_below x3) + (1 : Int32)) ≤ x2 then
    (fX9_shape_36 N (fX9_shape_4 N n) x1 x3 x2 v_rowsOf v_columnsOf v_shapeRows v_shapeColumns v_below)
    else (mm_ck (mm_inb x3 v_below.length) (fX9_shape_36 N (fX9_shape_4 N n) x1 x3 ((mm_ig v_below x3) + (1 : Int32)) v_rowsOf v_columnsOf v_shapeRows v_shapeColumns v_below)))))

set_option maxHeartbeats 4000000 in
set_option maxRecDepth 100000 in
theorem tX9_shape_4 {p : Program} {l : Launch} {e : Env} {s : State} {m : MethodId} {args : Array Value} {below : List Frame} {meth : Method} {c : Code} {D : va_G} {cI cL cS cH : ClassId} {A : Nat → Prop} {d : Nat} {a : Nat → Nat} (hd : 2 ≤ d) (C0 : mm_Cx p s m args meth c RX9 cX9_shape 4 (some .int) D (mm_T cI cL cS cH) A) (hA : ∀ q, s.heap.size ≤ q → A q) {v_keptMany : Int32} {v_done : Int32} {v_folded : Int32} {v_wronged : Int32} {v_tapeMany : Int32} {v_textMany : Int32} {v_base : Int32} {v_at : Int32} {v_ends : Int32} {v_fault : Int32} {v_opened : Int32} {v_bentMany : Int32} {v_bentWrong : Int32} {v_moreWorn : Int32} {v_planned : Int32} {v_allWrong : Int32} {v_allWorn : Int32} {v_z : Int32} {v_wishedField : Int32} {v_isFound : Bool} {v_bestWrong : Int32} {v_bestWorn : Int32} {v_bestMany : Int32} {v_soughtBy : Int32} {v_sought : Int32} {v_soughtAt : Int32} {v_foundMany : Int32} {v_foundOrder : Int32} {v_isKept : Bool} {v_imageRows : Int32} {v_imageColumns : Int32} {v_imageFolded : Int32} {v_imageWronged : Int32} {v_bodies : Int32} {v_ran : Int32} {v_ownKind : Int32} {v_ownNumber : Int32} {v_limit : List Int32} {v_changeWas : List Int32} {v_changeIs : List Int32} {v_row : List Int32} {v_column : List Int32} {v_face : List Int32} {v_worn : List Int32} {v_lastBend : List Int32} {v_tape : List Int32} {v_text : List Int32} {v_names : List Int32} {v_bends : List Int32} {v_high : List Int32} {v_to : List Int32} {v_pileSize : List Int32} {v_planLine : List Int32} {v_planWay : List Int32} {v_way1 : List Int32} {v_bestWay : List Int32} {v_order1 : List Int32} {v_placeIn : List Int32} {v_bodyKind : List Int32} {v_trace : List Int32} {v_shelf : List Int32} {v_many : List Int32} {v_items : List Int64} {v_carried : List Int64} {r : Int32} (N : Nat)  : ∀ (n : Nat), ∀ (x1 : Int32) (x2 : Int32) (x3 : Int32) (v_rowsOf : Int32) (v_columnsOf : Int32) (v_shapeRows : List Int32) (v_shapeColumns : List Int32) (v_below : List Int32) (H : Heap) (locs : List Loc) (ls : Array Slot), fX9_shape_4 N n x1 x2 x3 v_rowsOf v_columnsOf v_shapeRows v_shapeColumns v_below = some r → va_P D mm_cl (wd_X9 cI cL cS cH a v_keptMany v_done v_rowsOf v_columnsOf v_folded v_wronged v_tapeMany v_textMany v_base v_at v_ends v_fault v_opened v_bentMany v_bentWrong v_moreWorn v_planned v_allWrong v_allWorn v_z v_wishedField v_isFound v_bestWrong v_bestWorn v_bestMany v_soughtBy v_sought v_soughtAt v_foundMany v_foundOrder v_isKept v_imageRows v_imageColumns v_imageFolded v_imageWronged v_bodies v_ran v_ownKind v_ownNumber v_limit v_changeWas v_changeIs v_shapeRows v_shapeColumns v_row v_column v_below v_face v_worn v_lastBend v_tape v_text v_names v_bends v_high v_to v_pileSize v_planLine v_planWay v_way1 v_bestWay v_order1 v_placeIn v_bodyKind v_trace v_shelf v_many v_items v_carried) H → va_D A (wd_X9 cI cL cS cH a v_keptMany v_done v_rowsOf v_columnsOf v_folded v_wronged v_tapeMany v_textMany v_base v_at v_ends v_fault v_opened v_bentMany v_bentWrong v_moreWorn v_planned v_allWrong v_allWorn v_z v_wishedField v_isFound v_bestWrong v_bestWorn v_bestMany v_soughtBy v_sought v_soughtAt v_foundMany v_foundOrder v_isKept v_imageRows v_imageColumns v_imageFolded v_imageWronged v_bodies v_ran v_ownKind v_ownNumber v_limit v_changeWas v_changeIs v_shapeRows v_shapeColumns v_row v_column v_below v_face v_worn v_lastBend v_tape v_text v_names v_bends v_high v_to v_pileSize v_planLine v_planWay v_way1 v_bestWay v_order1 v_placeIn v_bodyKind v_trace v_shelf v_many v_items v_carried) → va_S A s.heap H locs → lv_has ls 4 [(0, .ref (a 0)), (1, .int x1), (2, .int x2), (3, .int x3)] → W p l e (mm_rr d) s m args below meth c H locs 0 0 (mm_Z below D A (wd_X9 cI cL cS cH a v_keptMany v_done v_rowsOf v_columnsOf v_folded v_wronged v_tapeMany v_textMany v_base v_at v_ends v_fault v_opened v_bentMany v_bentWrong v_moreWorn v_planned v_allWrong v_allWorn v_z v_wishedField v_isFound v_bestWrong v_bestWorn v_bestMany v_soughtBy v_sought v_soughtAt v_foundMany v_foundOrder v_isKept v_imageRows v_imageColumns v_imageFolded v_imageWronged v_bodies v_ran v_ownKind v_ownNumber v_limit v_changeWas v_changeIs v_shapeRows v_shapeColumns v_row v_column v_below v_face v_worn v_lastBend v_tape v_text v_names v_bends v_high v_to v_pileSize v_planLine v_planWay v_way1 v_bestWay v_order1 v_placeIn v_bodyKind v_trace v_shelf v_many v_items v_carried) (some (.int r)) args s) (F0 m 4 ls []) := by
  obtain ⟨hx, hb, hml, hown, hts, hr, hlocks, hK, hSt⟩ := id C0
  intro n
  induction n with
  | zero =>
    intro x1 x2 x3 v_rowsOf v_columnsOf v_shapeRows v_shapeColumns v_below H locs ls hf
    cases (show none = some _ from hf)
  | succ n ih =>
    intro x1 x2 x3 v_rowsOf v_columnsOf v_shapeRows v_shapeColumns v_below H locs ls hf hP hD hS hl
    unfold fX9_shape_4 at hf
    refine lv_iload_n hx hb dX9_shape_4 rfl (lv_at hl 3 rfl) ?_
    refine lv_aload_n hx hb dX9_shape_5 rfl (lv_at hl 0 rfl) ?_
    obtain ⟨r_1, hc_2, hf⟩ := mm_bd1s hf
    refine mm_callVF (q0 := 0) (ci := 9) (rest := [.int x3]) C0 lk_X9_127 (ctX9_fields (a := a) (d := d - 1) (by omega) hc_2) (by omega) rfl hl.1 rfl (mm_cat rfl) dX9_shape_6 hP hD hA hS rfl rfl (fun H locs hP hD hS => ?_)
    refine W.eq (g2 := F0 m 9 ls [.int r_1, .int x3]) rfl ?_
    refine lv_icmp_ge (tgt := 43) hx hb dX9_shape_9 (by decide) (fun c_3 => ?_) (fun c_3 => ?_)
    · have hf := mm_ip hf c_3
      refine lv_iload_n hx hb dX9_shape_43 rfl (lv_at hl 1 rfl) ?_
      refine lv_if_ne (tgt := 56) hx hb dX9_shape_44 (by decide) (fun c_4 => ?_) (fun c_4 => ?_)
      · have hf := mm_in hf c_4
        refine lv_iload_n hx hb dX9_shape_56 rfl (lv_at hl 1 rfl) ?_
        refine lv_iconst (v := 1) hx hb dX9_shape_57 (by decide) ?_
        refine lv_icmp_ne (tgt := 70) hx hb dX9_shape_58 (by decide) (fun c_5 => ?_) (fun c_5 => ?_)
        · have hf := mm_in hf c_5
          refine lv_iload_n hx hb dX9_shape_70 rfl (lv_at hl 1 rfl) ?_
          refine lv_iconst (v := 2) hx hb dX9_shape_71 (by decide) ?_
          refine lv_icmp_ne (tgt := 79) hx hb dX9_shape_72 (by decide) (fun c_6 => ?_) (fun c_6 => ?_)
          · have hf := mm_in hf c_6
            refine lv_iconst (v := -1) hx hb dX9_shape_79 (by decide) ?_
            obtain rfl := mm_inj1 hf
            exact mm_iret C0 hP hD hS dX9_shape_80
          · have hf := mm_ip hf c_6
            refine lv_iload_n hx hb dX9_shape_75 rfl (lv_at hl 2 rfl) ?_
            refine lv_goto (tgt := 80) hx hb dX9_shape_76 (by decide) ?_
            obtain rfl := mm_inj1 hf
            exact mm_iret C0 hP hD hS dX9_shape_80
        · have hf := mm_ip hf c_5
          refine lv_aload_n hx hb dX9_shape_61 rfl (lv_at hl 0 rfl) ?_
          refine mm_get C0 hP iw_X9 0 rfl rfl 8 (by decide) fl_X9_22 rfl dX9_shape_62 ?_
          refine lv_iconst (v := 0) hx hb dX9_shape_65 (by decide) ?_
          obtain ⟨h_7, hf⟩ := mm_cks hf
          refine mm_iald C0 hP 5 rfl h_7 dX9_shape_66 ?_
          refine lv_goto (tgt := 80) hx hb dX9_shape_67 (by decide) ?_
          obtain rfl := mm_inj1 hf
          exact mm_iret C0 hP hD hS dX9_shape_80
      · have hf := mm_ip hf c_4
        refine lv_aload_n hx hb dX9_shape_47 rfl (lv_at hl 0 rfl) ?_
        refine mm_get C0 hP iw_X9 0 rfl rfl 7 (by decide) fl_X9_19 rfl dX9_shape_48 ?_
        refine lv_iconst (v := 0) hx hb dX9_shape_51 (by decide) ?_
        obtain ⟨h_8, hf⟩ := mm_cks hf
        refine mm_iald C0 hP 4 rfl h_8 dX9_shape_52 ?_
        refine lv_goto (tgt := 80) hx hb dX9_shape_53 (by decide) ?_
        obtain rfl := mm_inj1 hf
        exact mm_iret C0 hP hD hS dX9_shape_80
    · have hf := mm_in hf c_3
      refine lv_aload_n hx hb dX9_shape_12 rfl (lv_at hl 0 rfl) ?_
      refine mm_get C0 hP iw_X9 0 rfl rfl 11 (by decide) fl_X9_31 rfl dX9_shape_13 ?_
      refine lv_iload_n hx hb dX9_shape_16 rfl (lv_at hl 3 rfl) ?_
      obtain ⟨h_9, hf⟩ := mm_cks hf
      refine mm_iald C0 hP 8 rfl h_9 dX9_shape_17 ?_
      refine lv_iconst (v := 1) hx hb dX9_shape_18 (by decide) ?_
      refine lv_iadd hx hb dX9_shape_19 ?_
      refine lv_iload_n hx hb dX9_shape_20 rfl (lv_at hl 2 rfl) ?_
      refine lv_icmp_le (tgt := 35) hx hb dX9_shape_21 (by decide) (fun c_10 => ?_) (fun c_10 => ?_)
      · have hf := mm_ip hf c_10
        refine lv_iload_n hx hb dX9_shape_35 rfl (lv_at hl 2 rfl) ?_
        exact tX9_shape_36 hd C0 hA N ih _ _ _ _ _ _ _ _ H locs ls hf hP hD hS (lv_sub hl [0, 1, 3] rfl)
      · have hf := mm_in hf c_10
        refine lv_aload_n hx hb dX9_shape_24 rfl (lv_at hl 0 rfl) ?_
        refine mm_get C0 hP iw_X9 0 rfl rfl 11 (by decide) fl_X9_31 rfl dX9_shape_25 ?_
        refine lv_iload_n hx hb dX9_shape_28 rfl (lv_at hl 3 rfl) ?_
        obtain ⟨h_11, hf⟩ := mm_cks hf
        refine mm_iald C0 hP 8 rfl h_11 dX9_shape_29 ?_
        refine lv_iconst (v := 1) hx hb dX9_shape_30 (by decide) ?_
        refine lv_iadd hx hb dX9_shape_31 ?_
        refine lv_goto (tgt := 36) hx hb dX9_shape_32 (by decide) ?_
        exact tX9_shape_36 hd C0 hA N ih _ _ _ _ _ _ _ _ H locs ls hf hP hD hS (lv_sub hl [0, 1, 3] rfl)

def fX9_shape (N : Nat) (x1 : Int32) (v_rowsOf : Int32) (v_columnsOf : Int32) (v_shapeRows : List Int32) (v_shapeColumns : List Int32) (v_below : List Int32) : Option (Int32) :=
    fX9_shape_4 N N x1 (0 : Int32) (0 : Int32) v_rowsOf v_columnsOf v_shapeRows v_shapeColumns v_below

set_option maxHeartbeats 4000000 in
set_option maxRecDepth 100000 in
theorem ctX9_shape {l : Launch} {D : va_G} {cI cL cS cH : ClassId} {a : Nat → Nat} {x1 : Int32} {v_keptMany : Int32} {v_done : Int32} {v_rowsOf : Int32} {v_columnsOf : Int32} {v_folded : Int32} {v_wronged : Int32} {v_tapeMany : Int32} {v_textMany : Int32} {v_base : Int32} {v_at : Int32} {v_ends : Int32} {v_fault : Int32} {v_opened : Int32} {v_bentMany : Int32} {v_bentWrong : Int32} {v_moreWorn : Int32} {v_planned : Int32} {v_allWrong : Int32} {v_allWorn : Int32} {v_z : Int32} {v_wishedField : Int32} {v_isFound : Bool} {v_bestWrong : Int32} {v_bestWorn : Int32} {v_bestMany : Int32} {v_soughtBy : Int32} {v_sought : Int32} {v_soughtAt : Int32} {v_foundMany : Int32} {v_foundOrder : Int32} {v_isKept : Bool} {v_imageRows : Int32} {v_imageColumns : Int32} {v_imageFolded : Int32} {v_imageWronged : Int32} {v_bodies : Int32} {v_ran : Int32} {v_ownKind : Int32} {v_ownNumber : Int32} {v_limit : List Int32} {v_changeWas : List Int32} {v_changeIs : List Int32} {v_shapeRows : List Int32} {v_shapeColumns : List Int32} {v_row : List Int32} {v_column : List Int32} {v_below : List Int32} {v_face : List Int32} {v_worn : List Int32} {v_lastBend : List Int32} {v_tape : List Int32} {v_text : List Int32} {v_names : List Int32} {v_bends : List Int32} {v_high : List Int32} {v_to : List Int32} {v_pileSize : List Int32} {v_planLine : List Int32} {v_planWay : List Int32} {v_way1 : List Int32} {v_bestWay : List Int32} {v_order1 : List Int32} {v_placeIn : List Int32} {v_bodyKind : List Int32} {v_trace : List Int32} {v_shelf : List Int32} {v_many : List Int32} {v_items : List Int64} {v_carried : List Int64} {r : Int32} {N d : Nat} (hd : 2 ≤ d) (hf : fX9_shape N x1 v_rowsOf v_columnsOf v_shapeRows v_shapeColumns v_below = some r) : mm_Ct l yX9_shape cX9_shape 4 (some .int) d D (mm_T cI cL cS cH) [.ref (a 0), .int x1] (wd_X9 cI cL cS cH a v_keptMany v_done v_rowsOf v_columnsOf v_folded v_wronged v_tapeMany v_textMany v_base v_at v_ends v_fault v_opened v_bentMany v_bentWrong v_moreWorn v_planned v_allWrong v_allWorn v_z v_wishedField v_isFound v_bestWrong v_bestWorn v_bestMany v_soughtBy v_sought v_soughtAt v_foundMany v_foundOrder v_isKept v_imageRows v_imageColumns v_imageFolded v_imageWronged v_bodies v_ran v_ownKind v_ownNumber v_limit v_changeWas v_changeIs v_shapeRows v_shapeColumns v_row v_column v_below v_face v_worn v_lastBend v_tape v_text v_names v_bends v_high v_to v_pileSize v_planLine v_planWay v_way1 v_bestWay v_order1 v_placeIn v_bodyKind v_trace v_shelf v_many v_items v_carried) (wd_X9 cI cL cS cH a v_keptMany v_done v_rowsOf v_columnsOf v_folded v_wronged v_tapeMany v_textMany v_base v_at v_ends v_fault v_opened v_bentMany v_bentWrong v_moreWorn v_planned v_allWrong v_allWorn v_z v_wishedField v_isFound v_bestWrong v_bestWorn v_bestMany v_soughtBy v_sought v_soughtAt v_foundMany v_foundOrder v_isKept v_imageRows v_imageColumns v_imageFolded v_imageWronged v_bodies v_ran v_ownKind v_ownNumber v_limit v_changeWas v_changeIs v_shapeRows v_shapeColumns v_row v_column v_below v_face v_worn v_lastBend v_tape v_text v_names v_bends v_high v_to v_pileSize v_planLine v_planWay v_way1 v_bestWay v_order1 v_placeIn v_bodyKind v_trace v_shelf v_many v_items v_carried) (some (.int r)) := by
  refine mm_of (by decide) (Nat.le_of_ble_eq_true rfl) ?_
  intro p e s m args below meth c A H locs ls C0 hP hD hA hS hl
  have C0 : mm_Cx p s m args meth c RX9 cX9_shape 4 (some .int) D (mm_T cI cL cS cH) A := C0
  obtain ⟨hx, hb, hml, hown, hts, hr, hlocks, hK, hSt⟩ := id C0
  have hl : lv_has ls 4 [(0, .ref (a 0)), (1, .int x1)] := hl
  unfold fX9_shape at hf
  refine lv_iconst (v := 0) hx hb dX9_shape_0 (by decide) ?_
  refine lv_istore_n (lv' := [(2, .int (0 : Int32)), (0, .ref (a 0)), (1, .int x1)]) hx hb dX9_shape_1 rfl hl (by decide) rfl (fun ls hl => ?_)
  refine lv_iconst (v := 0) hx hb dX9_shape_2 (by decide) ?_
  refine lv_istore_n (lv' := [(3, .int (0 : Int32)), (2, .int (0 : Int32)), (0, .ref (a 0)), (1, .int x1)]) hx hb dX9_shape_3 rfl hl (by decide) rfl (fun ls hl => ?_)
  exact tX9_shape_4 hd C0 hA N  N _ _ _ _ _ _ _ _ H locs ls hf hP hD hS (lv_sub hl [2, 3, 1, 0] rfl)

theorem dX9_isField_0 : decode cX9_isField 0 = .ok (.iload_n 1, 1) := by decide +kernel
theorem dX9_isField_1 : decode cX9_isField 1 = .ok (.i2l, 1) := by decide +kernel
theorem dX9_isField_2 : decode cX9_isField 2 = .ok (.lconst 0, 1) := by decide +kernel
theorem dX9_isField_3 : decode cX9_isField 3 = .ok (.aload_n 0, 1) := by decide +kernel
theorem dX9_isField_4 : decode cX9_isField 4 = .ok (.invokevirtual 127, 3) := by decide +kernel
theorem dX9_isField_7 : decode cX9_isField 7 = .ok (.iconst 1, 1) := by decide +kernel
theorem dX9_isField_8 : decode cX9_isField 8 = .ok (.isub, 1) := by decide +kernel
theorem dX9_isField_9 : decode cX9_isField 9 = .ok (.i2l, 1) := by decide +kernel
theorem dX9_isField_10 : decode cX9_isField 10 = .ok (.invokestatic 111, 3) := by decide +kernel
theorem dX9_isField_13 : decode cX9_isField 13 = .ok (.ireturn, 1) := by decide +kernel
def fX9_isField (N : Nat) (x1 : Int32) (v_rowsOf : Int32) (v_columnsOf : Int32) : Option (Bool) :=
    mm_bd1 (fX9_fields N v_rowsOf v_columnsOf) (fun (r_1 : Int32) =>
    mm_bd1 (fX9_within N ((x1).toInt64) (0 : Int64) ((r_1 - (1 : Int32)).toInt64)) (fun (r_3 : Bool) =>
    some (r_3)))

set_option maxHeartbeats 4000000 in
set_option maxRecDepth 100000 in
theorem ctX9_isField {l : Launch} {D : va_G} {cI cL cS cH : ClassId} {a : Nat → Nat} {x1 : Int32} {v_keptMany : Int32} {v_done : Int32} {v_rowsOf : Int32} {v_columnsOf : Int32} {v_folded : Int32} {v_wronged : Int32} {v_tapeMany : Int32} {v_textMany : Int32} {v_base : Int32} {v_at : Int32} {v_ends : Int32} {v_fault : Int32} {v_opened : Int32} {v_bentMany : Int32} {v_bentWrong : Int32} {v_moreWorn : Int32} {v_planned : Int32} {v_allWrong : Int32} {v_allWorn : Int32} {v_z : Int32} {v_wishedField : Int32} {v_isFound : Bool} {v_bestWrong : Int32} {v_bestWorn : Int32} {v_bestMany : Int32} {v_soughtBy : Int32} {v_sought : Int32} {v_soughtAt : Int32} {v_foundMany : Int32} {v_foundOrder : Int32} {v_isKept : Bool} {v_imageRows : Int32} {v_imageColumns : Int32} {v_imageFolded : Int32} {v_imageWronged : Int32} {v_bodies : Int32} {v_ran : Int32} {v_ownKind : Int32} {v_ownNumber : Int32} {v_limit : List Int32} {v_changeWas : List Int32} {v_changeIs : List Int32} {v_shapeRows : List Int32} {v_shapeColumns : List Int32} {v_row : List Int32} {v_column : List Int32} {v_below : List Int32} {v_face : List Int32} {v_worn : List Int32} {v_lastBend : List Int32} {v_tape : List Int32} {v_text : List Int32} {v_names : List Int32} {v_bends : List Int32} {v_high : List Int32} {v_to : List Int32} {v_pileSize : List Int32} {v_planLine : List Int32} {v_planWay : List Int32} {v_way1 : List Int32} {v_bestWay : List Int32} {v_order1 : List Int32} {v_placeIn : List Int32} {v_bodyKind : List Int32} {v_trace : List Int32} {v_shelf : List Int32} {v_many : List Int32} {v_items : List Int64} {v_carried : List Int64} {r : Bool} {N d : Nat} (hd : 2 ≤ d) (hf : fX9_isField N x1 v_rowsOf v_columnsOf = some r) : mm_Ct l yX9_isField cX9_isField 2 (some .boolean) d D (mm_T cI cL cS cH) [.ref (a 0), .int x1] (wd_X9 cI cL cS cH a v_keptMany v_done v_rowsOf v_columnsOf v_folded v_wronged v_tapeMany v_textMany v_base v_at v_ends v_fault v_opened v_bentMany v_bentWrong v_moreWorn v_planned v_allWrong v_allWorn v_z v_wishedField v_isFound v_bestWrong v_bestWorn v_bestMany v_soughtBy v_sought v_soughtAt v_foundMany v_foundOrder v_isKept v_imageRows v_imageColumns v_imageFolded v_imageWronged v_bodies v_ran v_ownKind v_ownNumber v_limit v_changeWas v_changeIs v_shapeRows v_shapeColumns v_row v_column v_below v_face v_worn v_lastBend v_tape v_text v_names v_bends v_high v_to v_pileSize v_planLine v_planWay v_way1 v_bestWay v_order1 v_placeIn v_bodyKind v_trace v_shelf v_many v_items v_carried) (wd_X9 cI cL cS cH a v_keptMany v_done v_rowsOf v_columnsOf v_folded v_wronged v_tapeMany v_textMany v_base v_at v_ends v_fault v_opened v_bentMany v_bentWrong v_moreWorn v_planned v_allWrong v_allWorn v_z v_wishedField v_isFound v_bestWrong v_bestWorn v_bestMany v_soughtBy v_sought v_soughtAt v_foundMany v_foundOrder v_isKept v_imageRows v_imageColumns v_imageFolded v_imageWronged v_bodies v_ran v_ownKind v_ownNumber v_limit v_changeWas v_changeIs v_shapeRows v_shapeColumns v_row v_column v_below v_face v_worn v_lastBend v_tape v_text v_names v_bends v_high v_to v_pileSize v_planLine v_planWay v_way1 v_bestWay v_order1 v_placeIn v_bodyKind v_trace v_shelf v_many v_items v_carried) (some (.int (mm_b r))) := by
  refine mm_of (by decide) (Nat.le_of_ble_eq_true rfl) ?_
  intro p e s m args below meth c A H locs ls C0 hP hD hA hS hl
  have C0 : mm_Cx p s m args meth c RX9 cX9_isField 2 (some .boolean) D (mm_T cI cL cS cH) A := C0
  obtain ⟨hx, hb, hml, hown, hts, hr, hlocks, hK, hSt⟩ := id C0
  have hl : lv_has ls 2 [(0, .ref (a 0)), (1, .int x1)] := hl
  unfold fX9_isField at hf
  refine lv_iload_n hx hb dX9_isField_0 rfl (lv_at hl 1 rfl) ?_
  refine lv_i2l hx hb dX9_isField_1 rfl ?_
  refine lv_lconst (v := 0) hx hb dX9_isField_2 (by decide) ?_
  refine lv_aload_n hx hb dX9_isField_3 rfl (lv_at hl 0 rfl) ?_
  obtain ⟨r_1, hc_2, hf⟩ := mm_bd1s hf
  refine mm_callVF (q0 := 0) (ci := 9) (rest := [.long (0 : Int64), .long ((x1).toInt64)]) C0 lk_X9_127 (ctX9_fields (a := a) (d := d - 1) (by omega) hc_2) (by omega) rfl hl.1 rfl (mm_cat rfl) dX9_isField_4 hP hD hA hS rfl rfl (fun H locs hP hD hS => ?_)
  refine W.eq (g2 := F0 m 7 ls [.int r_1, .long (0 : Int64), .long ((x1).toInt64)]) rfl ?_
  refine lv_iconst (v := 1) hx hb dX9_isField_7 (by decide) ?_
  refine lv_isub hx hb dX9_isField_8 ?_
  refine lv_i2l hx hb dX9_isField_9 rfl ?_
  obtain ⟨r_3, hc_4, hf⟩ := mm_bd1s hf
  refine mm_callS0 (rest := []) C0 lk_X9_111 (ctX9_within (d := d - 1) (by omega) hc_4) (by omega) rfl hl.1 rfl (mm_cat rfl) dX9_isField_10 hP hD hA hS (fun H locs hP hS => ?_)
  refine W.eq (g2 := F0 m 13 ls [.int (mm_b r_3)]) rfl ?_
  obtain rfl := mm_inj1 hf
  exact mm_zret C0 hP hD hS dX9_isField_13 rfl

