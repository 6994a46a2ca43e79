section
/-! reference: X9_foldsOn, X9_fold, X9_flat, X9_crease, X9_sizeAt, X9_fieldAt, X9_shape, X9_isField -/
theorem nb_dX9_foldsOn_0 : bls_w cX9_foldsOn [(0, [42]), (1, [27]), (2, [28]), (3, [29]), (4, [182, 0, 231]), (7, [42]), (8, [27]), (9, [28]), (10, [29]), (11, [182, 0, 235]), (14, [177])] := bls_of (by decide +kernel)
theorem dX9_foldsOn_0 : decode cX9_foldsOn 0 = .ok (.aload_n 0, 1) := op_42 nb_dX9_foldsOn_0.1
theorem dX9_foldsOn_1 : decode cX9_foldsOn 1 = .ok (.iload_n 1, 1) := op_27 nb_dX9_foldsOn_0.2.1
theorem dX9_foldsOn_2 : decode cX9_foldsOn 2 = .ok (.iload_n 2, 1) := op_28 nb_dX9_foldsOn_0.2.2.1
theorem dX9_foldsOn_3 : decode cX9_foldsOn 3 = .ok (.iload_n 3, 1) := op_29 nb_dX9_foldsOn_0.2.2.2.1
set_option maxRecDepth 100000 in
theorem dX9_foldsOn_4 : decode cX9_foldsOn 4 = .ok (.invokevirtual 231, 3) := (op_182 nb_dX9_foldsOn_0.2.2.2.2.1).trans rfl
theorem dX9_foldsOn_7 : decode cX9_foldsOn 7 = .ok (.aload_n 0, 1) := op_42 nb_dX9_foldsOn_0.2.2.2.2.2.1
theorem dX9_foldsOn_8 : decode cX9_foldsOn 8 = .ok (.iload_n 1, 1) := op_27 nb_dX9_foldsOn_0.2.2.2.2.2.2.1
theorem dX9_foldsOn_9 : decode cX9_foldsOn 9 = .ok (.iload_n 2, 1) := op_28 nb_dX9_foldsOn_0.2.2.2.2.2.2.2.1
theorem dX9_foldsOn_10 : decode cX9_foldsOn 10 = .ok (.iload_n 3, 1) := op_29 nb_dX9_foldsOn_0.2.2.2.2.2.2.2.2.1
set_option maxRecDepth 100000 in
theorem dX9_foldsOn_11 : decode cX9_foldsOn 11 = .ok (.invokevirtual 235, 3) := (op_182 nb_dX9_foldsOn_0.2.2.2.2.2.2.2.2.2.1).trans rfl
theorem dX9_foldsOn_14 : decode cX9_foldsOn 14 = .ok (.return_, 1) := op_177 nb_dX9_foldsOn_0.2.2.2.2.2.2.2.2.2.2.1
def fX9_foldsOn (N : Nat) (x1 : Int32) (x2 : Int32) (x3 : Int32) (v_rowsOf : Int32) (v_columnsOf : Int32) (v_textMany : Int32) (v_base : Int32) (v_at : Int32) (v_ends : Int32) (v_fault : Int32) (v_opened : Int32) (v_bentMany : Int32) (v_bentWrong : Int32) (v_moreWorn : Int32) (v_limit : List Int32) (v_shapeRows : List Int32) (v_shapeColumns : List Int32) (v_row : List Int32) (v_column : List Int32) (v_below : List Int32) (v_face : List Int32) (v_worn : List Int32) (v_lastBend : List Int32) (v_tape : List Int32) (v_text : List Int32) (v_names : List Int32) (v_bends : List Int32) (v_high : List Int32) (v_to : List Int32) (v_pileSize : List Int32) : Option (Int32 × Int32 × Int32 × Int32 × Int32 × Int32 × Int32 × Int32 × List Int32 × List Int32 × List Int32 × List Int32 × List Int32 × List Int32 × List Int32 × List Int32 × List Int32 × List Int32 × List Int32 × List Int32 × List Int32) :=
    mm_bd12 (fX9_bendsAll N x1 x2 x3 v_rowsOf v_columnsOf v_textMany v_base v_at v_ends v_fault v_opened v_bentMany v_bentWrong v_moreWorn v_limit v_row v_column v_face v_worn v_lastBend v_tape v_text v_names v_bends) (fun (w_1 : Int32) (w_2 : Int32) (w_3 : Int32) (w_4 : Int32) (w_5 : Int32) (w_6 : Int32) (w_7 : Int32) (w_8 : Int32) (w_9 : List Int32) (w_10 : List Int32) (w_11 : List Int32) (w_12 : List Int32) =>
    mm_bd9 (fX9_movesAll N x1 x2 x3 v_rowsOf v_columnsOf v_shapeRows v_shapeColumns v_row v_column v_below v_face v_high v_to v_pileSize) (fun (w_14 : List Int32) (w_15 : List Int32) (w_16 : List Int32) (w_17 : List Int32) (w_18 : List Int32) (w_19 : List Int32) (w_20 : List Int32) (w_21 : List Int32) (w_22 : List Int32) =>
    some (w_1, w_2, w_3, w_4, w_5, w_6, w_7, w_8, w_14, w_15, w_16, w_17, w_18, w_19, w_9, w_10, w_11, w_12, w_20, w_21, w_22)))

set_option maxHeartbeats 4000000 in
set_option maxRecDepth 100000 in
theorem ctX9_foldsOn {l : Launch} {D : va_G} {cI cL cS cH : ClassId} {a : Nat → Nat} {x1 : Int32} {x2 : Int32} {x3 : Int32} {v_keptMany : Int32} {v_done : Int32} {v_rowsOf : Int32} {v_columnsOf : Int32} {v_folded : Int32} {v_wronged : Int32} {v_tapeMany : Int32} {v_textMany : Int32} {v_base : Int32} {v_at : Int32} {v_ends : Int32} {v_fault : Int32} {v_opened : Int32} {v_bentMany : Int32} {v_bentWrong : Int32} {v_moreWorn : Int32} {v_planned : Int32} {v_allWrong : Int32} {v_allWorn : Int32} {v_z : Int32} {v_wishedField : Int32} {v_isFound : Bool} {v_bestWrong : Int32} {v_bestWorn : Int32} {v_bestMany : Int32} {v_soughtBy : Int32} {v_sought : Int32} {v_soughtAt : Int32} {v_foundMany : Int32} {v_foundOrder : Int32} {v_isKept : Bool} {v_imageRows : Int32} {v_imageColumns : Int32} {v_imageFolded : Int32} {v_imageWronged : Int32} {v_bodies : Int32} {v_ran : Int32} {v_ownKind : Int32} {v_ownNumber : Int32} {v_limit : List Int32} {v_changeWas : List Int32} {v_changeIs : List Int32} {v_shapeRows : List Int32} {v_shapeColumns : List Int32} {v_row : List Int32} {v_column : List Int32} {v_below : List Int32} {v_face : List Int32} {v_worn : List Int32} {v_lastBend : List Int32} {v_tape : List Int32} {v_text : List Int32} {v_names : List Int32} {v_bends : List Int32} {v_high : List Int32} {v_to : List Int32} {v_pileSize : List Int32} {v_planLine : List Int32} {v_planWay : List Int32} {v_way1 : List Int32} {v_bestWay : List Int32} {v_order1 : List Int32} {v_placeIn : List Int32} {v_bodyKind : List Int32} {v_trace : List Int32} {v_shelf : List Int32} {v_many : List Int32} {v_items : List Int64} {v_carried : List Int64} {w_base : Int32} {w_at : Int32} {w_ends : Int32} {w_fault : Int32} {w_opened : Int32} {w_bentMany : Int32} {w_bentWrong : Int32} {w_moreWorn : Int32} {w_shapeRows : List Int32} {w_shapeColumns : List Int32} {w_row : List Int32} {w_column : List Int32} {w_below : List Int32} {w_face : List Int32} {w_worn : List Int32} {w_lastBend : List Int32} {w_names : List Int32} {w_bends : List Int32} {w_high : List Int32} {w_to : List Int32} {w_pileSize : List Int32} {N d : Nat} (hd : 59 ≤ d) (hf : fX9_foldsOn N x1 x2 x3 v_rowsOf v_columnsOf v_textMany v_base v_at v_ends v_fault v_opened v_bentMany v_bentWrong v_moreWorn v_limit v_shapeRows v_shapeColumns v_row v_column v_below v_face v_worn v_lastBend v_tape v_text v_names v_bends v_high v_to v_pileSize = some (w_base, w_at, w_ends, w_fault, w_opened, w_bentMany, w_bentWrong, w_moreWorn, w_shapeRows, w_shapeColumns, w_row, w_column, w_below, w_face, w_worn, w_lastBend, w_names, w_bends, w_high, w_to, w_pileSize)) : mm_Ct l yX9_foldsOn cX9_foldsOn 4 none d D (mm_T cI cL cS cH) [.ref (a 0), .int x1, .int x2, .int x3] (wd_X9 cI cL cS cH a v_keptMany v_done v_rowsOf v_columnsOf v_folded v_wronged v_tapeMany v_textMany v_base v_at v_ends v_fault v_opened v_bentMany v_bentWrong v_moreWorn v_planned v_allWrong v_allWorn v_z v_wishedField v_isFound v_bestWrong v_bestWorn v_bestMany v_soughtBy v_sought v_soughtAt v_foundMany v_foundOrder v_isKept v_imageRows v_imageColumns v_imageFolded v_imageWronged v_bodies v_ran v_ownKind v_ownNumber v_limit v_changeWas v_changeIs v_shapeRows v_shapeColumns v_row v_column v_below v_face v_worn v_lastBend v_tape v_text v_names v_bends v_high v_to v_pileSize v_planLine v_planWay v_way1 v_bestWay v_order1 v_placeIn v_bodyKind v_trace v_shelf v_many v_items v_carried) (wd_X9 cI cL cS cH a v_keptMany v_done v_rowsOf v_columnsOf v_folded v_wronged v_tapeMany v_textMany w_base w_at w_ends w_fault w_opened w_bentMany w_bentWrong w_moreWorn v_planned v_allWrong v_allWorn v_z v_wishedField v_isFound v_bestWrong v_bestWorn v_bestMany v_soughtBy v_sought v_soughtAt v_foundMany v_foundOrder v_isKept v_imageRows v_imageColumns v_imageFolded v_imageWronged v_bodies v_ran v_ownKind v_ownNumber v_limit v_changeWas v_changeIs w_shapeRows w_shapeColumns w_row w_column w_below w_face w_worn w_lastBend v_tape v_text w_names w_bends w_high w_to w_pileSize v_planLine v_planWay v_way1 v_bestWay v_order1 v_placeIn v_bodyKind v_trace v_shelf v_many v_items v_carried) none := by
  refine mm_of (by decide) (Nat.le_of_ble_eq_true rfl) ?_
  intro p e s m args below meth c A H locs ls C0 hP hD hA hS hl
  have C0 : mm_Cx p s m args meth c RX9 cX9_foldsOn 4 none D (mm_T cI cL cS cH) A := C0
  obtain ⟨hx, hb, hml, hown, hts, hr, hlocks, hK, hSt⟩ := id C0
  have hl : lv_has ls 4 [(0, .ref (a 0)), (1, .int x1), (2, .int x2), (3, .int x3)] := hl
  unfold fX9_foldsOn at hf
  refine lv_aload_n hx hb dX9_foldsOn_0 rfl (lv_at hl 0 rfl) ?_
  refine lv_iload_n hx hb dX9_foldsOn_1 rfl (lv_at hl 1 rfl) ?_
  refine lv_iload_n hx hb dX9_foldsOn_2 rfl (lv_at hl 2 rfl) ?_
  refine lv_iload_n hx hb dX9_foldsOn_3 rfl (lv_at hl 3 rfl) ?_
  refine mm_ct12 hf (fun w_1 w_2 w_3 w_4 w_5 w_6 w_7 w_8 w_9 w_10 w_11 w_12 hc_13 hf => ?_)
  refine mm_callVF (q0 := 0) (ci := 9) (rest := []) C0 lk_X9_231 (ctX9_bendsAll (a := a) (d := d - 1) (by omega) hc_13) (by omega) rfl hl.1 rfl (mm_cat rfl) dX9_foldsOn_4 hP hD hA hS rfl rfl (fun H locs hP hD hS => ?_)
  refine W.eq (g2 := F0 m 7 ls []) rfl ?_
  refine lv_aload_n hx hb dX9_foldsOn_7 rfl (lv_at hl 0 rfl) ?_
  refine lv_iload_n hx hb dX9_foldsOn_8 rfl (lv_at hl 1 rfl) ?_
  refine lv_iload_n hx hb dX9_foldsOn_9 rfl (lv_at hl 2 rfl) ?_
  refine lv_iload_n hx hb dX9_foldsOn_10 rfl (lv_at hl 3 rfl) ?_
  refine mm_ct9 hf (fun w_14 w_15 w_16 w_17 w_18 w_19 w_20 w_21 w_22 hc_23 hf => ?_)
  refine mm_callVF (q0 := 0) (ci := 9) (rest := []) C0 lk_X9_235 (ctX9_movesAll (a := a) (d := d - 1) (by omega) hc_23) (by omega) rfl hl.1 rfl (mm_cat rfl) dX9_foldsOn_11 hP hD hA hS rfl rfl (fun H locs hP hD hS => ?_)
  refine W.eq (g2 := F0 m 14 ls []) rfl ?_
  apply mm_sub21 hf
  exact mm_vret C0 hP hD hS dX9_foldsOn_14

theorem nb_dX9_fold_0 : bls_w cX9_fold [(0, [28]), (1, [133]), (2, [9]), (3, [20, 0, 238]), (6, [184, 0, 111]), (9, [154, 0, 5]), (12, [2]), (13, [172]), (14, [42]), (15, [3]), (16, [27]), (17, [28])] := bls_of (by decide +kernel)
theorem dX9_fold_0 : decode cX9_fold 0 = .ok (.iload_n 2, 1) := op_28 nb_dX9_fold_0.1
theorem dX9_fold_1 : decode cX9_fold 1 = .ok (.i2l, 1) := op_133 nb_dX9_fold_0.2.1
theorem dX9_fold_2 : decode cX9_fold 2 = .ok (.lconst 0, 1) := op_9 nb_dX9_fold_0.2.2.1
set_option maxRecDepth 100000 in
theorem dX9_fold_3 : decode cX9_fold 3 = .ok (.ldc2_w 238, 3) := (op_20 nb_dX9_fold_0.2.2.2.1).trans rfl
set_option maxRecDepth 100000 in
theorem dX9_fold_6 : decode cX9_fold 6 = .ok (.invokestatic 111, 3) := (op_184 nb_dX9_fold_0.2.2.2.2.1).trans rfl
set_option maxRecDepth 100000 in
theorem dX9_fold_9 : decode cX9_fold 9 = .ok (.ifCond .ne 5, 3) := (op_154 nb_dX9_fold_0.2.2.2.2.2.1).trans rfl
theorem dX9_fold_12 : decode cX9_fold 12 = .ok (.iconst (-1), 1) := op_2 nb_dX9_fold_0.2.2.2.2.2.2.1
theorem dX9_fold_13 : decode cX9_fold 13 = .ok (.ireturn, 1) := op_172 nb_dX9_fold_0.2.2.2.2.2.2.2.1
theorem dX9_fold_14 : decode cX9_fold 14 = .ok (.aload_n 0, 1) := op_42 nb_dX9_fold_0.2.2.2.2.2.2.2.2.1
theorem dX9_fold_15 : decode cX9_fold 15 = .ok (.iconst 0, 1) := op_3 nb_dX9_fold_0.2.2.2.2.2.2.2.2.2.1
theorem dX9_fold_16 : decode cX9_fold 16 = .ok (.iload_n 1, 1) := op_27 nb_dX9_fold_0.2.2.2.2.2.2.2.2.2.2.1
theorem dX9_fold_17 : decode cX9_fold 17 = .ok (.iload_n 2, 1) := op_28 nb_dX9_fold_0.2.2.2.2.2.2.2.2.2.2.2.1
theorem nb_dX9_fold_18 : bls_w cX9_fold [(18, [182, 0, 240]), (21, [154, 0, 6]), (24, [16, 254]), (26, [172]), (27, [42]), (28, [3]), (29, [27]), (30, [28]), (31, [182, 0, 244]), (34, [42]), (35, [89]), (36, [180, 0, 135])] := bls_of (by decide +kernel)
set_option maxRecDepth 100000 in
theorem dX9_fold_18 : decode cX9_fold 18 = .ok (.invokevirtual 240, 3) := (op_182 nb_dX9_fold_18.1).trans rfl
set_option maxRecDepth 100000 in
theorem dX9_fold_21 : decode cX9_fold 21 = .ok (.ifCond .ne 6, 3) := (op_154 nb_dX9_fold_18.2.1).trans rfl
set_option maxRecDepth 100000 in
theorem dX9_fold_24 : decode cX9_fold 24 = .ok (.bipush (-2), 2) := (op_16 nb_dX9_fold_18.2.2.1).trans rfl
theorem dX9_fold_26 : decode cX9_fold 26 = .ok (.ireturn, 1) := op_172 nb_dX9_fold_18.2.2.2.1
theorem dX9_fold_27 : decode cX9_fold 27 = .ok (.aload_n 0, 1) := op_42 nb_dX9_fold_18.2.2.2.2.1
theorem dX9_fold_28 : decode cX9_fold 28 = .ok (.iconst 0, 1) := op_3 nb_dX9_fold_18.2.2.2.2.2.1
theorem dX9_fold_29 : decode cX9_fold 29 = .ok (.iload_n 1, 1) := op_27 nb_dX9_fold_18.2.2.2.2.2.2.1
theorem dX9_fold_30 : decode cX9_fold 30 = .ok (.iload_n 2, 1) := op_28 nb_dX9_fold_18.2.2.2.2.2.2.2.1
set_option maxRecDepth 100000 in
theorem dX9_fold_31 : decode cX9_fold 31 = .ok (.invokevirtual 244, 3) := (op_182 nb_dX9_fold_18.2.2.2.2.2.2.2.2.1).trans rfl
theorem dX9_fold_34 : decode cX9_fold 34 = .ok (.aload_n 0, 1) := op_42 nb_dX9_fold_18.2.2.2.2.2.2.2.2.2.1
theorem dX9_fold_35 : decode cX9_fold 35 = .ok (.dup, 1) := op_89 nb_dX9_fold_18.2.2.2.2.2.2.2.2.2.2.1
set_option maxRecDepth 100000 in
theorem dX9_fold_36 : decode cX9_fold 36 = .ok (.getfield 135, 3) := (op_180 nb_dX9_fold_18.2.2.2.2.2.2.2.2.2.2.2.1).trans rfl
theorem nb_dX9_fold_39 : bls_w cX9_fold [(39, [4]), (40, [96]), (41, [181, 0, 135]), (44, [42]), (45, [89]), (46, [180, 0, 138]), (49, [42]), (50, [180, 0, 211]), (53, [96]), (54, [181, 0, 138]), (57, [42]), (58, [180, 0, 208])] := bls_of (by decide +kernel)
theorem dX9_fold_39 : decode cX9_fold 39 = .ok (.iconst 1, 1) := op_4 nb_dX9_fold_39.1
theorem dX9_fold_40 : decode cX9_fold 40 = .ok (.iadd, 1) := op_96 nb_dX9_fold_39.2.1
set_option maxRecDepth 100000 in
theorem dX9_fold_41 : decode cX9_fold 41 = .ok (.putfield 135, 3) := (op_181 nb_dX9_fold_39.2.2.1).trans rfl
theorem dX9_fold_44 : decode cX9_fold 44 = .ok (.aload_n 0, 1) := op_42 nb_dX9_fold_39.2.2.2.1
theorem dX9_fold_45 : decode cX9_fold 45 = .ok (.dup, 1) := op_89 nb_dX9_fold_39.2.2.2.2.1
set_option maxRecDepth 100000 in
theorem dX9_fold_46 : decode cX9_fold 46 = .ok (.getfield 138, 3) := (op_180 nb_dX9_fold_39.2.2.2.2.2.1).trans rfl
theorem dX9_fold_49 : decode cX9_fold 49 = .ok (.aload_n 0, 1) := op_42 nb_dX9_fold_39.2.2.2.2.2.2.1
set_option maxRecDepth 100000 in
theorem dX9_fold_50 : decode cX9_fold 50 = .ok (.getfield 211, 3) := (op_180 nb_dX9_fold_39.2.2.2.2.2.2.2.1).trans rfl
theorem dX9_fold_53 : decode cX9_fold 53 = .ok (.iadd, 1) := op_96 nb_dX9_fold_39.2.2.2.2.2.2.2.2.1
set_option maxRecDepth 100000 in
theorem dX9_fold_54 : decode cX9_fold 54 = .ok (.putfield 138, 3) := (op_181 nb_dX9_fold_39.2.2.2.2.2.2.2.2.2.1).trans rfl
theorem dX9_fold_57 : decode cX9_fold 57 = .ok (.aload_n 0, 1) := op_42 nb_dX9_fold_39.2.2.2.2.2.2.2.2.2.2.1
set_option maxRecDepth 100000 in
theorem dX9_fold_58 : decode cX9_fold 58 = .ok (.getfield 208, 3) := (op_180 nb_dX9_fold_39.2.2.2.2.2.2.2.2.2.2.2.1).trans rfl
theorem nb_dX9_fold_61 : bls_w cX9_fold [(61, [172])] := bls_of (by decide +kernel)
theorem dX9_fold_61 : decode cX9_fold 61 = .ok (.ireturn, 1) := op_172 nb_dX9_fold_61.1
def fX9_fold (N : Nat) (x1 : Int32) (x2 : Int32) (v_rowsOf : Int32) (v_columnsOf : Int32) (v_folded : Int32) (v_wronged : Int32) (v_textMany : Int32) (v_base : Int32) (v_at : Int32) (v_ends : Int32) (v_fault : Int32) (v_opened : Int32) (v_bentMany : Int32) (v_bentWrong : Int32) (v_moreWorn : Int32) (v_limit : List Int32) (v_shapeRows : List Int32) (v_shapeColumns : List Int32) (v_row : List Int32) (v_column : List Int32) (v_below : List Int32) (v_face : List Int32) (v_worn : List Int32) (v_lastBend : List Int32) (v_tape : List Int32) (v_text : List Int32) (v_names : List Int32) (v_bends : List Int32) (v_high : List Int32) (v_to : List Int32) (v_pileSize : List Int32) : Option (Int32 × Int32 × Int32 × Int32 × Int32 × Int32 × Int32 × Int32 × Int32 × Int32 × Int32 × List Int32 × List Int32 × List Int32 × List Int32 × List Int32 × List Int32 × List Int32 × List Int32 × List Int32 × List Int32 × List Int32 × List Int32 × List Int32) :=
    mm_bd1 (fX9_within N ((x2).toInt64) (0 : Int64) (7 : Int64)) (fun (r_1 : Bool) =>
    if r_1 = false then
    (some ((-1 : Int32), v_folded, v_wronged, v_base, v_at, v_ends, v_fault, v_opened, v_bentMany, v_bentWrong, v_moreWorn, v_shapeRows, v_shapeColumns, v_row, v_column, v_below, v_face, v_worn, v_lastBend, v_names, v_bends, v_high, v_to, v_pileSize))
    else (mm_bd1 (fX9_isLine N (0 : Int32) x1 x2 v_shapeRows v_shapeColumns) (fun (r_4 : Bool) =>
    if r_4 = false then
    (some ((-2 : Int32), v_folded, v_wronged, v_base, v_at, v_ends, v_fault, v_opened, v_bentMany, v_bentWrong, v_moreWorn, v_shapeRows, v_shapeColumns, v_row, v_column, v_below, v_face, v_worn, v_lastBend, v_names, v_bends, v_high, v_to, v_pileSize))
    else (mm_bd21 (fX9_foldsOn N (0 : Int32) x1 x2 v_rowsOf v_columnsOf v_textMany v_base v_at v_ends v_fault v_opened v_bentMany v_bentWrong v_moreWorn v_limit v_shapeRows v_shapeColumns v_row v_column v_below v_face v_worn v_lastBend v_tape v_text v_names v_bends v_high v_to v_pileSize) (fun (w_7 : Int32) (w_8 : Int32) (w_9 : Int32) (w_10 : Int32) (w_11 : Int32) (w_12 : Int32) (w_13 : Int32) (w_14 : Int32) (w_15 : List Int32) (w_16 : List Int32) (w_17 : List Int32) (w_18 : List Int32) (w_19 : List Int32) (w_20 : List Int32) (w_21 : List Int32) (w_22 : List Int32) (w_23 : List Int32) (w_24 : List Int32) (w_25 : List Int32) (w_26 : List Int32) (w_27 : List Int32) =>
    mm_nm ((v_folded + (1 : Int32))) (fun (y_29 : Int32) =>
    mm_nm ((v_wronged + w_13)) (fun (y_30 : Int32) =>
    some (w_12, y_29, y_30, w_7, w_8, w_9, w_10, w_11, w_12, w_13, w_14, w_15, w_16, w_17, w_18, w_19, w_20, w_21, w_22, w_23, w_24, w_25, w_26, w_27))))))))

set_option maxHeartbeats 4000000 in
set_option maxRecDepth 100000 in
theorem ctX9_fold {l : Launch} {D : va_G} {cI cL cS cH : ClassId} {a : Nat → Nat} {x1 : Int32} {x2 : Int32} {v_keptMany : Int32} {v_done : Int32} {v_rowsOf : Int32} {v_columnsOf : Int32} {v_folded : Int32} {v_wronged : Int32} {v_tapeMany : Int32} {v_textMany : Int32} {v_base : Int32} {v_at : Int32} {v_ends : Int32} {v_fault : Int32} {v_opened : Int32} {v_bentMany : Int32} {v_bentWrong : Int32} {v_moreWorn : Int32} {v_planned : Int32} {v_allWrong : Int32} {v_allWorn : Int32} {v_z : Int32} {v_wishedField : Int32} {v_isFound : Bool} {v_bestWrong : Int32} {v_bestWorn : Int32} {v_bestMany : Int32} {v_soughtBy : Int32} {v_sought : Int32} {v_soughtAt : Int32} {v_foundMany : Int32} {v_foundOrder : Int32} {v_isKept : Bool} {v_imageRows : Int32} {v_imageColumns : Int32} {v_imageFolded : Int32} {v_imageWronged : Int32} {v_bodies : Int32} {v_ran : Int32} {v_ownKind : Int32} {v_ownNumber : Int32} {v_limit : List Int32} {v_changeWas : List Int32} {v_changeIs : List Int32} {v_shapeRows : List Int32} {v_shapeColumns : List Int32} {v_row : List Int32} {v_column : List Int32} {v_below : List Int32} {v_face : List Int32} {v_worn : List Int32} {v_lastBend : List Int32} {v_tape : List Int32} {v_text : List Int32} {v_names : List Int32} {v_bends : List Int32} {v_high : List Int32} {v_to : List Int32} {v_pileSize : List Int32} {v_planLine : List Int32} {v_planWay : List Int32} {v_way1 : List Int32} {v_bestWay : List Int32} {v_order1 : List Int32} {v_placeIn : List Int32} {v_bodyKind : List Int32} {v_trace : List Int32} {v_shelf : List Int32} {v_many : List Int32} {v_items : List Int64} {v_carried : List Int64} {r : Int32} {w_folded : Int32} {w_wronged : Int32} {w_base : Int32} {w_at : Int32} {w_ends : Int32} {w_fault : Int32} {w_opened : Int32} {w_bentMany : Int32} {w_bentWrong : Int32} {w_moreWorn : Int32} {w_shapeRows : List Int32} {w_shapeColumns : List Int32} {w_row : List Int32} {w_column : List Int32} {w_below : List Int32} {w_face : List Int32} {w_worn : List Int32} {w_lastBend : List Int32} {w_names : List Int32} {w_bends : List Int32} {w_high : List Int32} {w_to : List Int32} {w_pileSize : List Int32} {N d : Nat} (hd : 60 ≤ d) (hf : fX9_fold N x1 x2 v_rowsOf v_columnsOf v_folded v_wronged v_textMany v_base v_at v_ends v_fault v_opened v_bentMany v_bentWrong v_moreWorn v_limit v_shapeRows v_shapeColumns v_row v_column v_below v_face v_worn v_lastBend v_tape v_text v_names v_bends v_high v_to v_pileSize = some (r, w_folded, w_wronged, w_base, w_at, w_ends, w_fault, w_opened, w_bentMany, w_bentWrong, w_moreWorn, w_shapeRows, w_shapeColumns, w_row, w_column, w_below, w_face, w_worn, w_lastBend, w_names, w_bends, w_high, w_to, w_pileSize)) : mm_Ct l yX9_fold cX9_fold 3 (some .int) d D (mm_T cI cL cS cH) [.ref (a 0), .int x1, .int x2] (wd_X9 cI cL cS cH a v_keptMany v_done v_rowsOf v_columnsOf v_folded v_wronged v_tapeMany v_textMany v_base v_at v_ends v_fault v_opened v_bentMany v_bentWrong v_moreWorn v_planned v_allWrong v_allWorn v_z v_wishedField v_isFound v_bestWrong v_bestWorn v_bestMany v_soughtBy v_sought v_soughtAt v_foundMany v_foundOrder v_isKept v_imageRows v_imageColumns v_imageFolded v_imageWronged v_bodies v_ran v_ownKind v_ownNumber v_limit v_changeWas v_changeIs v_shapeRows v_shapeColumns v_row v_column v_below v_face v_worn v_lastBend v_tape v_text v_names v_bends v_high v_to v_pileSize v_planLine v_planWay v_way1 v_bestWay v_order1 v_placeIn v_bodyKind v_trace v_shelf v_many v_items v_carried) (wd_X9 cI cL cS cH a v_keptMany v_done v_rowsOf v_columnsOf w_folded w_wronged v_tapeMany v_textMany w_base w_at w_ends w_fault w_opened w_bentMany w_bentWrong w_moreWorn v_planned v_allWrong v_allWorn v_z v_wishedField v_isFound v_bestWrong v_bestWorn v_bestMany v_soughtBy v_sought v_soughtAt v_foundMany v_foundOrder v_isKept v_imageRows v_imageColumns v_imageFolded v_imageWronged v_bodies v_ran v_ownKind v_ownNumber v_limit v_changeWas v_changeIs w_shapeRows w_shapeColumns w_row w_column w_below w_face w_worn w_lastBend v_tape v_text w_names w_bends w_high w_to w_pileSize v_planLine v_planWay v_way1 v_bestWay v_order1 v_placeIn v_bodyKind v_trace v_shelf v_many v_items v_carried) (some (.int r)) := by
  refine mm_of (by decide) (Nat.le_of_ble_eq_true rfl) ?_
  intro p e s m args below meth c A H locs ls C0 hP hD hA hS hl
  have C0 : mm_Cx p s m args meth c RX9 cX9_fold 3 (some .int) D (mm_T cI cL cS cH) A := C0
  obtain ⟨hx, hb, hml, hown, hts, hr, hlocks, hK, hSt⟩ := id C0
  have hl : lv_has ls 3 [(0, .ref (a 0)), (1, .int x1), (2, .int x2)] := hl
  unfold fX9_fold at hf
  refine lv_iload_n hx hb dX9_fold_0 rfl (lv_at hl 2 rfl) ?_
  refine lv_i2l hx hb dX9_fold_1 rfl ?_
  refine lv_lconst (v := 0) hx hb dX9_fold_2 (by decide) ?_
  refine lv_ldc2 hx hb hown (hts _ kc_X9_238) dX9_fold_3 ?_
  obtain ⟨r_1, hc_2, hf⟩ := mm_bd1s hf
  refine mm_callS0 (rest := []) C0 lk_X9_111 (ctX9_within (d := d - 1) (by omega) hc_2) (by omega) rfl hl.1 rfl (mm_cat rfl) dX9_fold_6 hP hD hA hS (fun H locs hP hS => ?_)
  refine W.eq (g2 := F0 m 9 ls [.int (mm_b r_1)]) rfl ?_
  refine lv_if_ne (tgt := 14) hx hb dX9_fold_9 (by decide) (fun c_3 => ?_) (fun c_3 => ?_)
  · have hf := mm_in hf (mm_b1 c_3)
    refine lv_aload_n hx hb dX9_fold_14 rfl (lv_at hl 0 rfl) ?_
    refine lv_iconst (v := 0) hx hb dX9_fold_15 (by decide) ?_
    refine lv_iload_n hx hb dX9_fold_16 rfl (lv_at hl 1 rfl) ?_
    refine lv_iload_n hx hb dX9_fold_17 rfl (lv_at hl 2 rfl) ?_
    obtain ⟨r_4, hc_5, hf⟩ := mm_bd1s hf
    refine mm_callVF (q0 := 0) (ci := 9) (rest := []) C0 lk_X9_240 (ctX9_isLine (a := a) (d := d - 1) (by omega) hc_5) (by omega) rfl hl.1 rfl (mm_cat rfl) dX9_fold_18 hP hD hA hS rfl rfl (fun H locs hP hD hS => ?_)
    refine W.eq (g2 := F0 m 21 ls [.int (mm_b r_4)]) rfl ?_
    refine lv_if_ne (tgt := 27) hx hb dX9_fold_21 (by decide) (fun c_6 => ?_) (fun c_6 => ?_)
    · have hf := mm_in hf (mm_b1 c_6)
      refine lv_aload_n hx hb dX9_fold_27 rfl (lv_at hl 0 rfl) ?_
      refine lv_iconst (v := 0) hx hb dX9_fold_28 (by decide) ?_
      refine lv_iload_n hx hb dX9_fold_29 rfl (lv_at hl 1 rfl) ?_
      refine lv_iload_n hx hb dX9_fold_30 rfl (lv_at hl 2 rfl) ?_
      refine mm_ct21 hf (fun w_7 w_8 w_9 w_10 w_11 w_12 w_13 w_14 w_15 w_16 w_17 w_18 w_19 w_20 w_21 w_22 w_23 w_24 w_25 w_26 w_27 hc_28 hf => ?_)
      refine mm_callVF (q0 := 0) (ci := 9) (rest := []) C0 lk_X9_244 (ctX9_foldsOn (a := a) (d := d - 1) (by omega) hc_28) (by omega) rfl hl.1 rfl (mm_cat rfl) dX9_fold_31 hP hD hA hS rfl rfl (fun H locs hP hD hS => ?_)
      refine W.eq (g2 := F0 m 34 ls []) rfl ?_
      refine lv_aload_n hx hb dX9_fold_34 rfl (lv_at hl 0 rfl) ?_
      refine lv_dup hx hb dX9_fold_35 rfl ?_
      refine mm_get C0 hP iw_X9 0 rfl rfl 15 (by decide) fl_X9_135 rfl dX9_fold_36 ?_
      refine lv_iconst (v := 1) hx hb dX9_fold_39 (by decide) ?_
      refine lv_iadd hx hb dX9_fold_40 ?_
      refine lv_topi (fun y_29 ey_29 => ?_)
      have hf := mm_nms hf ey_29
      refine mm_put C0 hP hD hS iw_X9 tyX9 tyX9_ok nmX9 0 rfl rfl 15 (by decide) fl_X9_135 rfl rfl rfl (Nat.le_of_ble_eq_true rfl) dX9_fold_41 (w2 := (wd_X9 cI cL cS cH a v_keptMany v_done v_rowsOf v_columnsOf y_29 v_wronged v_tapeMany v_textMany w_7 w_8 w_9 w_10 w_11 w_12 w_13 w_14 v_planned v_allWrong v_allWorn v_z v_wishedField v_isFound v_bestWrong v_bestWorn v_bestMany v_soughtBy v_sought v_soughtAt v_foundMany v_foundOrder v_isKept v_imageRows v_imageColumns v_imageFolded v_imageWronged v_bodies v_ran v_ownKind v_ownNumber v_limit v_changeWas v_changeIs w_15 w_16 w_17 w_18 w_19 w_20 w_21 w_22 v_tape v_text w_23 w_24 w_25 w_26 w_27 v_planLine v_planWay v_way1 v_bestWay v_order1 v_placeIn v_bodyKind v_trace v_shelf v_many v_items v_carried)) rfl (fun H locs hP hD hS => ?_)
      refine lv_aload_n hx hb dX9_fold_44 rfl (lv_at hl 0 rfl) ?_
      refine lv_dup hx hb dX9_fold_45 rfl ?_
      refine mm_get C0 hP iw_X9 0 rfl rfl 16 (by decide) fl_X9_138 rfl dX9_fold_46 ?_
      refine lv_aload_n hx hb dX9_fold_49 rfl (lv_at hl 0 rfl) ?_
      refine mm_get C0 hP iw_X9 0 rfl rfl 29 (by decide) fl_X9_211 rfl dX9_fold_50 ?_
      refine lv_iadd hx hb dX9_fold_53 ?_
      refine lv_topi (fun y_30 ey_30 => ?_)
      have hf := mm_nms hf ey_30
      refine mm_put C0 hP hD hS iw_X9 tyX9 tyX9_ok nmX9 0 rfl rfl 16 (by decide) fl_X9_138 rfl rfl rfl (Nat.le_of_ble_eq_true rfl) dX9_fold_54 (w2 := (wd_X9 cI cL cS cH a v_keptMany v_done v_rowsOf v_columnsOf y_29 y_30 v_tapeMany v_textMany w_7 w_8 w_9 w_10 w_11 w_12 w_13 w_14 v_planned v_allWrong v_allWorn v_z v_wishedField v_isFound v_bestWrong v_bestWorn v_bestMany v_soughtBy v_sought v_soughtAt v_foundMany v_foundOrder v_isKept v_imageRows v_imageColumns v_imageFolded v_imageWronged v_bodies v_ran v_ownKind v_ownNumber v_limit v_changeWas v_changeIs w_15 w_16 w_17 w_18 w_19 w_20 w_21 w_22 v_tape v_text w_23 w_24 w_25 w_26 w_27 v_planLine v_planWay v_way1 v_bestWay v_order1 v_placeIn v_bodyKind v_trace v_shelf v_many v_items v_carried)) rfl (fun H locs hP hD hS => ?_)
      refine lv_aload_n hx hb dX9_fold_57 rfl (lv_at hl 0 rfl) ?_
      refine mm_get C0 hP iw_X9 0 rfl rfl 28 (by decide) fl_X9_208 rfl dX9_fold_58 ?_
      apply mm_sub24 hf
      exact mm_iret C0 hP hD hS dX9_fold_61
    · have hf := mm_ip hf (mm_b0 c_6)
      refine lv_bipush (v := -2) hx hb dX9_fold_24 (by decide) ?_
      apply mm_sub24 hf
      exact mm_iret C0 hP hD hS dX9_fold_26
  · have hf := mm_ip hf (mm_b0 c_3)
    refine lv_iconst (v := -1) hx hb dX9_fold_12 (by decide) ?_
    apply mm_sub24 hf
    exact mm_iret C0 hP hD hS dX9_fold_13

theorem nb_dX9_flat_0 : bls_w cX9_flat [(0, [42]), (1, [180, 0, 19]), (4, [3]), (5, [46]), (6, [42]), (7, [180, 0, 22]), (10, [3]), (11, [46]), (12, [104]), (13, [60]), (14, [42]), (15, [3])] := bls_of (by decide +kernel)
theorem dX9_flat_0 : decode cX9_flat 0 = .ok (.aload_n 0, 1) := op_42 nb_dX9_flat_0.1
set_option maxRecDepth 100000 in
theorem dX9_flat_1 : decode cX9_flat 1 = .ok (.getfield 19, 3) := (op_180 nb_dX9_flat_0.2.1).trans rfl
theorem dX9_flat_4 : decode cX9_flat 4 = .ok (.iconst 0, 1) := op_3 nb_dX9_flat_0.2.2.1
theorem dX9_flat_5 : decode cX9_flat 5 = .ok (.iaload, 1) := op_46 nb_dX9_flat_0.2.2.2.1
theorem dX9_flat_6 : decode cX9_flat 6 = .ok (.aload_n 0, 1) := op_42 nb_dX9_flat_0.2.2.2.2.1
set_option maxRecDepth 100000 in
theorem dX9_flat_7 : decode cX9_flat 7 = .ok (.getfield 22, 3) := (op_180 nb_dX9_flat_0.2.2.2.2.2.1).trans rfl
theorem dX9_flat_10 : decode cX9_flat 10 = .ok (.iconst 0, 1) := op_3 nb_dX9_flat_0.2.2.2.2.2.2.1
theorem dX9_flat_11 : decode cX9_flat 11 = .ok (.iaload, 1) := op_46 nb_dX9_flat_0.2.2.2.2.2.2.2.1
theorem dX9_flat_12 : decode cX9_flat 12 = .ok (.imul, 1) := op_104 nb_dX9_flat_0.2.2.2.2.2.2.2.2.1
theorem dX9_flat_13 : decode cX9_flat 13 = .ok (.istore_n 1, 1) := op_60 nb_dX9_flat_0.2.2.2.2.2.2.2.2.2.1
theorem dX9_flat_14 : decode cX9_flat 14 = .ok (.aload_n 0, 1) := op_42 nb_dX9_flat_0.2.2.2.2.2.2.2.2.2.2.1
theorem dX9_flat_15 : decode cX9_flat 15 = .ok (.iconst 0, 1) := op_3 nb_dX9_flat_0.2.2.2.2.2.2.2.2.2.2.2.1
theorem nb_dX9_flat_16 : bls_w cX9_flat [(16, [182, 0, 131]), (19, [27]), (20, [172])] := bls_of (by decide +kernel)
set_option maxRecDepth 100000 in
theorem dX9_flat_16 : decode cX9_flat 16 = .ok (.invokevirtual 131, 3) := (op_182 nb_dX9_flat_16.1).trans rfl
theorem dX9_flat_19 : decode cX9_flat 19 = .ok (.iload_n 1, 1) := op_27 nb_dX9_flat_16.2.1
theorem dX9_flat_20 : decode cX9_flat 20 = .ok (.ireturn, 1) := op_172 nb_dX9_flat_16.2.2.1
def fX9_flat (N : Nat) (v_rowsOf : Int32) (v_columnsOf : Int32) (v_shapeRows : List Int32) (v_shapeColumns : List Int32) (v_row : List Int32) (v_column : List Int32) (v_below : List Int32) (v_face : List Int32) : Option (Int32 × List Int32 × List Int32 × List Int32 × List Int32 × List Int32 × List Int32) :=
    mm_ck (mm_inb (0 : Int32) v_shapeRows.length) (mm_ck (mm_inb (0 : Int32) v_shapeColumns.length) (mm_nm (((mm_ig v_shapeRows (0 : Int32)) * (mm_ig v_shapeColumns (0 : Int32)))) (fun (y_3 : Int32) =>
    mm_bd6 (fX9_liesFlat N (0 : Int32) v_rowsOf v_columnsOf v_shapeRows v_shapeColumns v_row v_column v_below v_face) (fun (w_4 : List Int32) (w_5 : List Int32) (w_6 : List Int32) (w_7 : List Int32) (w_8 : List Int32) (w_9 : List Int32) =>
    some (y_3, w_4, w_5, w_6, w_7, w_8, w_9)))))

set_option maxHeartbeats 4000000 in
set_option maxRecDepth 100000 in
theorem ctX9_flat {l : Launch} {D : va_G} {cI cL cS cH : ClassId} {a : Nat → Nat}  {v_keptMany : Int32} {v_done : Int32} {v_rowsOf : Int32} {v_columnsOf : Int32} {v_folded : Int32} {v_wronged : Int32} {v_tapeMany : Int32} {v_textMany : Int32} {v_base : Int32} {v_at : Int32} {v_ends : Int32} {v_fault : Int32} {v_opened : Int32} {v_bentMany : Int32} {v_bentWrong : Int32} {v_moreWorn : Int32} {v_planned : Int32} {v_allWrong : Int32} {v_allWorn : Int32} {v_z : Int32} {v_wishedField : Int32} {v_isFound : Bool} {v_bestWrong : Int32} {v_bestWorn : Int32} {v_bestMany : Int32} {v_soughtBy : Int32} {v_sought : Int32} {v_soughtAt : Int32} {v_foundMany : Int32} {v_foundOrder : Int32} {v_isKept : Bool} {v_imageRows : Int32} {v_imageColumns : Int32} {v_imageFolded : Int32} {v_imageWronged : Int32} {v_bodies : Int32} {v_ran : Int32} {v_ownKind : Int32} {v_ownNumber : Int32} {v_limit : List Int32} {v_changeWas : List Int32} {v_changeIs : List Int32} {v_shapeRows : List Int32} {v_shapeColumns : List Int32} {v_row : List Int32} {v_column : List Int32} {v_below : List Int32} {v_face : List Int32} {v_worn : List Int32} {v_lastBend : List Int32} {v_tape : List Int32} {v_text : List Int32} {v_names : List Int32} {v_bends : List Int32} {v_high : List Int32} {v_to : List Int32} {v_pileSize : List Int32} {v_planLine : List Int32} {v_planWay : List Int32} {v_way1 : List Int32} {v_bestWay : List Int32} {v_order1 : List Int32} {v_placeIn : List Int32} {v_bodyKind : List Int32} {v_trace : List Int32} {v_shelf : List Int32} {v_many : List Int32} {v_items : List Int64} {v_carried : List Int64} {r : Int32} {w_shapeRows : List Int32} {w_shapeColumns : List Int32} {w_row : List Int32} {w_column : List Int32} {w_below : List Int32} {w_face : List Int32} {N d : Nat} (hd : 3 ≤ d) (hf : fX9_flat N v_rowsOf v_columnsOf v_shapeRows v_shapeColumns v_row v_column v_below v_face = some (r, w_shapeRows, w_shapeColumns, w_row, w_column, w_below, w_face)) : mm_Ct l yX9_flat cX9_flat 2 (some .int) d D (mm_T cI cL cS cH) [.ref (a 0)] (wd_X9 cI cL cS cH a v_keptMany v_done v_rowsOf v_columnsOf v_folded v_wronged v_tapeMany v_textMany v_base v_at v_ends v_fault v_opened v_bentMany v_bentWrong v_moreWorn v_planned v_allWrong v_allWorn v_z v_wishedField v_isFound v_bestWrong v_bestWorn v_bestMany v_soughtBy v_sought v_soughtAt v_foundMany v_foundOrder v_isKept v_imageRows v_imageColumns v_imageFolded v_imageWronged v_bodies v_ran v_ownKind v_ownNumber v_limit v_changeWas v_changeIs v_shapeRows v_shapeColumns v_row v_column v_below v_face v_worn v_lastBend v_tape v_text v_names v_bends v_high v_to v_pileSize v_planLine v_planWay v_way1 v_bestWay v_order1 v_placeIn v_bodyKind v_trace v_shelf v_many v_items v_carried) (wd_X9 cI cL cS cH a v_keptMany v_done v_rowsOf v_columnsOf v_folded v_wronged v_tapeMany v_textMany v_base v_at v_ends v_fault v_opened v_bentMany v_bentWrong v_moreWorn v_planned v_allWrong v_allWorn v_z v_wishedField v_isFound v_bestWrong v_bestWorn v_bestMany v_soughtBy v_sought v_soughtAt v_foundMany v_foundOrder v_isKept v_imageRows v_imageColumns v_imageFolded v_imageWronged v_bodies v_ran v_ownKind v_ownNumber v_limit v_changeWas v_changeIs w_shapeRows w_shapeColumns w_row w_column w_below w_face v_worn v_lastBend v_tape v_text v_names v_bends v_high v_to v_pileSize v_planLine v_planWay v_way1 v_bestWay v_order1 v_placeIn v_bodyKind v_trace v_shelf v_many v_items v_carried) (some (.int r)) := by
  refine mm_of (by decide) (Nat.le_of_ble_eq_true rfl) ?_
  intro p e s m args below meth c A H locs ls C0 hP hD hA hS hl
  have C0 : mm_Cx p s m args meth c RX9 cX9_flat 2 (some .int) D (mm_T cI cL cS cH) A := C0
  obtain ⟨hx, hb, hml, hown, hts, hr, hlocks, hK, hSt⟩ := id C0
  have hl : lv_has ls 2 [(0, .ref (a 0))] := hl
  unfold fX9_flat at hf
  refine lv_aload_n hx hb dX9_flat_0 rfl (lv_at hl 0 rfl) ?_
  refine mm_get C0 hP iw_X9 0 rfl rfl 7 (by decide) fl_X9_19 rfl dX9_flat_1 ?_
  refine lv_iconst (v := 0) hx hb dX9_flat_4 (by decide) ?_
  obtain ⟨h_1, hf⟩ := mm_cks hf
  refine mm_iald C0 hP 4 rfl h_1 dX9_flat_5 ?_
  refine lv_aload_n hx hb dX9_flat_6 rfl (lv_at hl 0 rfl) ?_
  refine mm_get C0 hP iw_X9 0 rfl rfl 8 (by decide) fl_X9_22 rfl dX9_flat_7 ?_
  refine lv_iconst (v := 0) hx hb dX9_flat_10 (by decide) ?_
  obtain ⟨h_2, hf⟩ := mm_cks hf
  refine mm_iald C0 hP 5 rfl h_2 dX9_flat_11 ?_
  refine lv_imul hx hb dX9_flat_12 ?_
  refine lv_topi (fun y_3 ey_3 => ?_)
  have hf := mm_nms hf ey_3
  refine lv_istore_n (lv' := [(1, .int y_3), (0, .ref (a 0))]) hx hb dX9_flat_13 rfl hl (by decide) rfl (fun ls hl => ?_)
  refine lv_aload_n hx hb dX9_flat_14 rfl (lv_at hl 1 rfl) ?_
  refine lv_iconst (v := 0) hx hb dX9_flat_15 (by decide) ?_
  refine mm_ct6 hf (fun w_4 w_5 w_6 w_7 w_8 w_9 hc_10 hf => ?_)
  refine mm_callVF (q0 := 0) (ci := 9) (rest := []) C0 lk_X9_131 (ctX9_liesFlat (a := a) (d := d - 1) (by omega) hc_10) (by omega) rfl hl.1 rfl (mm_cat rfl) dX9_flat_16 hP hD hA hS rfl rfl (fun H locs hP hD hS => ?_)
  refine W.eq (g2 := F0 m 19 ls []) rfl ?_
  refine lv_iload_n hx hb dX9_flat_19 rfl (lv_at hl 0 rfl) ?_
  apply mm_sub7 hf
  exact mm_iret C0 hP hD hS dX9_flat_20

theorem nb_dX9_crease_0 : bls_w cX9_crease [(0, [27]), (1, [155, 0, 41]), (4, [27]), (5, [16, 10]), (7, [112]), (8, [4]), (9, [163, 0, 33]), (12, [42]), (13, [5]), (14, [27]), (15, [16, 10]), (17, [108])] := bls_of (by decide +kernel)
theorem dX9_crease_0 : decode cX9_crease 0 = .ok (.iload_n 1, 1) := op_27 nb_dX9_crease_0.1
set_option maxRecDepth 100000 in
theorem dX9_crease_1 : decode cX9_crease 1 = .ok (.ifCond .lt 41, 3) := (op_155 nb_dX9_crease_0.2.1).trans rfl
theorem dX9_crease_4 : decode cX9_crease 4 = .ok (.iload_n 1, 1) := op_27 nb_dX9_crease_0.2.2.1
set_option maxRecDepth 100000 in
theorem dX9_crease_5 : decode cX9_crease 5 = .ok (.bipush 10, 2) := (op_16 nb_dX9_crease_0.2.2.2.1).trans rfl
theorem dX9_crease_7 : decode cX9_crease 7 = .ok (.irem, 1) := op_112 nb_dX9_crease_0.2.2.2.2.1
theorem dX9_crease_8 : decode cX9_crease 8 = .ok (.iconst 1, 1) := op_4 nb_dX9_crease_0.2.2.2.2.2.1
set_option maxRecDepth 100000 in
theorem dX9_crease_9 : decode cX9_crease 9 = .ok (.if_icmp .gt 33, 3) := (op_163 nb_dX9_crease_0.2.2.2.2.2.2.1).trans rfl
theorem dX9_crease_12 : decode cX9_crease 12 = .ok (.aload_n 0, 1) := op_42 nb_dX9_crease_0.2.2.2.2.2.2.2.1
theorem dX9_crease_13 : decode cX9_crease 13 = .ok (.iconst 2, 1) := op_5 nb_dX9_crease_0.2.2.2.2.2.2.2.2.1
theorem dX9_crease_14 : decode cX9_crease 14 = .ok (.iload_n 1, 1) := op_27 nb_dX9_crease_0.2.2.2.2.2.2.2.2.2.1
set_option maxRecDepth 100000 in
theorem dX9_crease_15 : decode cX9_crease 15 = .ok (.bipush 10, 2) := (op_16 nb_dX9_crease_0.2.2.2.2.2.2.2.2.2.2.1).trans rfl
theorem dX9_crease_17 : decode cX9_crease 17 = .ok (.idiv, 1) := op_108 nb_dX9_crease_0.2.2.2.2.2.2.2.2.2.2.2.1
theorem nb_dX9_crease_18 : bls_w cX9_crease [(18, [104]), (19, [27]), (20, [16, 10]), (22, [112]), (23, [96]), (24, [182, 0, 217]), (27, [153, 0, 15]), (30, [28]), (31, [133]), (32, [9]), (33, [20, 0, 247]), (36, [184, 0, 111])] := bls_of (by decide +kernel)
theorem dX9_crease_18 : decode cX9_crease 18 = .ok (.imul, 1) := op_104 nb_dX9_crease_18.1
theorem dX9_crease_19 : decode cX9_crease 19 = .ok (.iload_n 1, 1) := op_27 nb_dX9_crease_18.2.1
set_option maxRecDepth 100000 in
theorem dX9_crease_20 : decode cX9_crease 20 = .ok (.bipush 10, 2) := (op_16 nb_dX9_crease_18.2.2.1).trans rfl
theorem dX9_crease_22 : decode cX9_crease 22 = .ok (.irem, 1) := op_112 nb_dX9_crease_18.2.2.2.1
theorem dX9_crease_23 : decode cX9_crease 23 = .ok (.iadd, 1) := op_96 nb_dX9_crease_18.2.2.2.2.1
set_option maxRecDepth 100000 in
theorem dX9_crease_24 : decode cX9_crease 24 = .ok (.invokevirtual 217, 3) := (op_182 nb_dX9_crease_18.2.2.2.2.2.1).trans rfl
set_option maxRecDepth 100000 in
theorem dX9_crease_27 : decode cX9_crease 27 = .ok (.ifCond .eq 15, 3) := (op_153 nb_dX9_crease_18.2.2.2.2.2.2.1).trans rfl
theorem dX9_crease_30 : decode cX9_crease 30 = .ok (.iload_n 2, 1) := op_28 nb_dX9_crease_18.2.2.2.2.2.2.2.1
theorem dX9_crease_31 : decode cX9_crease 31 = .ok (.i2l, 1) := op_133 nb_dX9_crease_18.2.2.2.2.2.2.2.2.1
theorem dX9_crease_32 : decode cX9_crease 32 = .ok (.lconst 0, 1) := op_9 nb_dX9_crease_18.2.2.2.2.2.2.2.2.2.1
set_option maxRecDepth 100000 in
theorem dX9_crease_33 : decode cX9_crease 33 = .ok (.ldc2_w 247, 3) := (op_20 nb_dX9_crease_18.2.2.2.2.2.2.2.2.2.2.1).trans rfl
set_option maxRecDepth 100000 in
theorem dX9_crease_36 : decode cX9_crease 36 = .ok (.invokestatic 111, 3) := (op_184 nb_dX9_crease_18.2.2.2.2.2.2.2.2.2.2.2.1).trans rfl
theorem nb_dX9_crease_39 : bls_w cX9_crease [(39, [154, 0, 5]), (42, [2]), (43, [172]), (44, [5]), (45, [27]), (46, [16, 10]), (48, [108]), (49, [104]), (50, [27]), (51, [16, 10]), (53, [112]), (54, [96])] := bls_of (by decide +kernel)
set_option maxRecDepth 100000 in
theorem dX9_crease_39 : decode cX9_crease 39 = .ok (.ifCond .ne 5, 3) := (op_154 nb_dX9_crease_39.1).trans rfl
theorem dX9_crease_42 : decode cX9_crease 42 = .ok (.iconst (-1), 1) := op_2 nb_dX9_crease_39.2.1
theorem dX9_crease_43 : decode cX9_crease 43 = .ok (.ireturn, 1) := op_172 nb_dX9_crease_39.2.2.1
theorem dX9_crease_44 : decode cX9_crease 44 = .ok (.iconst 2, 1) := op_5 nb_dX9_crease_39.2.2.2.1
theorem dX9_crease_45 : decode cX9_crease 45 = .ok (.iload_n 1, 1) := op_27 nb_dX9_crease_39.2.2.2.2.1
set_option maxRecDepth 100000 in
theorem dX9_crease_46 : decode cX9_crease 46 = .ok (.bipush 10, 2) := (op_16 nb_dX9_crease_39.2.2.2.2.2.1).trans rfl
theorem dX9_crease_48 : decode cX9_crease 48 = .ok (.idiv, 1) := op_108 nb_dX9_crease_39.2.2.2.2.2.2.1
theorem dX9_crease_49 : decode cX9_crease 49 = .ok (.imul, 1) := op_104 nb_dX9_crease_39.2.2.2.2.2.2.2.1
theorem dX9_crease_50 : decode cX9_crease 50 = .ok (.iload_n 1, 1) := op_27 nb_dX9_crease_39.2.2.2.2.2.2.2.2.1
set_option maxRecDepth 100000 in
theorem dX9_crease_51 : decode cX9_crease 51 = .ok (.bipush 10, 2) := (op_16 nb_dX9_crease_39.2.2.2.2.2.2.2.2.2.1).trans rfl
theorem dX9_crease_53 : decode cX9_crease 53 = .ok (.irem, 1) := op_112 nb_dX9_crease_39.2.2.2.2.2.2.2.2.2.2.1
theorem dX9_crease_54 : decode cX9_crease 54 = .ok (.iadd, 1) := op_96 nb_dX9_crease_39.2.2.2.2.2.2.2.2.2.2.2.1
theorem nb_dX9_crease_55 : bls_w cX9_crease [(55, [62]), (56, [28]), (57, [154, 0, 12]), (60, [42]), (61, [180, 0, 37]), (64, [29]), (65, [46]), (66, [167, 0, 37]), (69, [28]), (70, [4]), (71, [160, 0, 12]), (74, [42])] := bls_of (by decide +kernel)
theorem dX9_crease_55 : decode cX9_crease 55 = .ok (.istore_n 3, 1) := op_62 nb_dX9_crease_55.1
theorem dX9_crease_56 : decode cX9_crease 56 = .ok (.iload_n 2, 1) := op_28 nb_dX9_crease_55.2.1
set_option maxRecDepth 100000 in
theorem dX9_crease_57 : decode cX9_crease 57 = .ok (.ifCond .ne 12, 3) := (op_154 nb_dX9_crease_55.2.2.1).trans rfl
theorem dX9_crease_60 : decode cX9_crease 60 = .ok (.aload_n 0, 1) := op_42 nb_dX9_crease_55.2.2.2.1
set_option maxRecDepth 100000 in
theorem dX9_crease_61 : decode cX9_crease 61 = .ok (.getfield 37, 3) := (op_180 nb_dX9_crease_55.2.2.2.2.1).trans rfl
theorem dX9_crease_64 : decode cX9_crease 64 = .ok (.iload_n 3, 1) := op_29 nb_dX9_crease_55.2.2.2.2.2.1
theorem dX9_crease_65 : decode cX9_crease 65 = .ok (.iaload, 1) := op_46 nb_dX9_crease_55.2.2.2.2.2.2.1
set_option maxRecDepth 100000 in
theorem dX9_crease_66 : decode cX9_crease 66 = .ok (.goto 37, 3) := (op_167 nb_dX9_crease_55.2.2.2.2.2.2.2.1).trans rfl
theorem dX9_crease_69 : decode cX9_crease 69 = .ok (.iload_n 2, 1) := op_28 nb_dX9_crease_55.2.2.2.2.2.2.2.2.1
theorem dX9_crease_70 : decode cX9_crease 70 = .ok (.iconst 1, 1) := op_4 nb_dX9_crease_55.2.2.2.2.2.2.2.2.2.1
set_option maxRecDepth 100000 in
theorem dX9_crease_71 : decode cX9_crease 71 = .ok (.if_icmp .ne 12, 3) := (op_160 nb_dX9_crease_55.2.2.2.2.2.2.2.2.2.2.1).trans rfl
theorem dX9_crease_74 : decode cX9_crease 74 = .ok (.aload_n 0, 1) := op_42 nb_dX9_crease_55.2.2.2.2.2.2.2.2.2.2.2.1
theorem nb_dX9_crease_75 : bls_w cX9_crease [(75, [180, 0, 40]), (78, [29]), (79, [46]), (80, [167, 0, 23]), (83, [42]), (84, [180, 0, 37]), (87, [29]), (88, [46]), (89, [42]), (90, [180, 0, 7]), (93, [3]), (94, [46])] := bls_of (by decide +kernel)
set_option maxRecDepth 100000 in
theorem dX9_crease_75 : decode cX9_crease 75 = .ok (.getfield 40, 3) := (op_180 nb_dX9_crease_75.1).trans rfl
theorem dX9_crease_78 : decode cX9_crease 78 = .ok (.iload_n 3, 1) := op_29 nb_dX9_crease_75.2.1
theorem dX9_crease_79 : decode cX9_crease 79 = .ok (.iaload, 1) := op_46 nb_dX9_crease_75.2.2.1
set_option maxRecDepth 100000 in
theorem dX9_crease_80 : decode cX9_crease 80 = .ok (.goto 23, 3) := (op_167 nb_dX9_crease_75.2.2.2.1).trans rfl
theorem dX9_crease_83 : decode cX9_crease 83 = .ok (.aload_n 0, 1) := op_42 nb_dX9_crease_75.2.2.2.2.1
set_option maxRecDepth 100000 in
theorem dX9_crease_84 : decode cX9_crease 84 = .ok (.getfield 37, 3) := (op_180 nb_dX9_crease_75.2.2.2.2.2.1).trans rfl
theorem dX9_crease_87 : decode cX9_crease 87 = .ok (.iload_n 3, 1) := op_29 nb_dX9_crease_75.2.2.2.2.2.2.1
theorem dX9_crease_88 : decode cX9_crease 88 = .ok (.iaload, 1) := op_46 nb_dX9_crease_75.2.2.2.2.2.2.2.1
theorem dX9_crease_89 : decode cX9_crease 89 = .ok (.aload_n 0, 1) := op_42 nb_dX9_crease_75.2.2.2.2.2.2.2.2.1
set_option maxRecDepth 100000 in
theorem dX9_crease_90 : decode cX9_crease 90 = .ok (.getfield 7, 3) := (op_180 nb_dX9_crease_75.2.2.2.2.2.2.2.2.2.1).trans rfl
theorem dX9_crease_93 : decode cX9_crease 93 = .ok (.iconst 0, 1) := op_3 nb_dX9_crease_75.2.2.2.2.2.2.2.2.2.2.1
theorem dX9_crease_94 : decode cX9_crease 94 = .ok (.iaload, 1) := op_46 nb_dX9_crease_75.2.2.2.2.2.2.2.2.2.2.2.1
theorem nb_dX9_crease_95 : bls_w cX9_crease [(95, [161, 0, 7]), (98, [4]), (99, [167, 0, 4]), (102, [3]), (103, [172])] := bls_of (by decide +kernel)
set_option maxRecDepth 100000 in
theorem dX9_crease_95 : decode cX9_crease 95 = .ok (.if_icmp .lt 7, 3) := (op_161 nb_dX9_crease_95.1).trans rfl
theorem dX9_crease_98 : decode cX9_crease 98 = .ok (.iconst 1, 1) := op_4 nb_dX9_crease_95.2.1
set_option maxRecDepth 100000 in
theorem dX9_crease_99 : decode cX9_crease 99 = .ok (.goto 4, 3) := (op_167 nb_dX9_crease_95.2.2.1).trans rfl
theorem dX9_crease_102 : decode cX9_crease 102 = .ok (.iconst 0, 1) := op_3 nb_dX9_crease_95.2.2.2.1
theorem dX9_crease_103 : decode cX9_crease 103 = .ok (.ireturn, 1) := op_172 nb_dX9_crease_95.2.2.2.2.1
def fX9_crease (N : Nat) (x1 : Int32) (x2 : Int32) (v_rowsOf : Int32) (v_columnsOf : Int32) (v_limit : List Int32) (v_worn : List Int32) (v_lastBend : List Int32) : Option (Int32) :=
    if x1 < 0 then
    (some ((-1 : Int32)))
    else (mm_ck (mm_nz (10 : Int32)) (if (1 : Int32) < (mm_rem x1 (10 : Int32)) then
    (some ((-1 : Int32)))
    else (mm_ck (mm_nz (10 : Int32)) (mm_ck (mm_nz (10 : Int32)) (mm_bd1 (fX9_isCrease N (((2 : Int32) * (x1 / (10 : Int32))) + (mm_rem x1 (10 : Int32))) v_rowsOf v_columnsOf) (fun (r_6 : Bool) =>
    if r_6 = false then
    (some ((-1 : Int32)))
    else (mm_bd1 (fX9_within N ((x2).toInt64) (0 : Int64) (2 : Int64)) (fun (r_9 : Bool) =>
    if r_9 = false then
    (some ((-1 : Int32)))
    else (mm_ck (mm_nz (10 : Int32)) (mm_ck (mm_nz (10 : Int32)) (mm_nm ((((2 : Int32) * (x1 / (10 : Int32))) + (mm_rem x1 (10 : Int32)))) (fun (y_14 : Int32) =>
    if x2 = 0 then
    (mm_ck (mm_inb y_14 v_worn.length) (some ((mm_ig v_worn y_14))))
    else (if x2 = (1 : Int32) then
    (mm_ck (mm_inb y_14 v_lastBend.length) (some ((mm_ig v_lastBend y_14))))
    else (mm_ck (mm_inb y_14 v_worn.length) (mm_ck (mm_inb (0 : Int32) v_limit.length) (if (mm_ig v_worn y_14) < (mm_ig v_limit (0 : Int32)) then
    (some ((0 : Int32)))
    else (some ((1 : Int32)))))))))))))))))))

set_option maxHeartbeats 4000000 in
set_option maxRecDepth 100000 in
theorem ctX9_crease {l : Launch} {D : va_G} {cI cL cS cH : ClassId} {a : Nat → Nat} {x1 : Int32} {x2 : Int32} {v_keptMany : Int32} {v_done : Int32} {v_rowsOf : Int32} {v_columnsOf : Int32} {v_folded : Int32} {v_wronged : Int32} {v_tapeMany : Int32} {v_textMany : Int32} {v_base : Int32} {v_at : Int32} {v_ends : Int32} {v_fault : Int32} {v_opened : Int32} {v_bentMany : Int32} {v_bentWrong : Int32} {v_moreWorn : Int32} {v_planned : Int32} {v_allWrong : Int32} {v_allWorn : Int32} {v_z : Int32} {v_wishedField : Int32} {v_isFound : Bool} {v_bestWrong : Int32} {v_bestWorn : Int32} {v_bestMany : Int32} {v_soughtBy : Int32} {v_sought : Int32} {v_soughtAt : Int32} {v_foundMany : Int32} {v_foundOrder : Int32} {v_isKept : Bool} {v_imageRows : Int32} {v_imageColumns : Int32} {v_imageFolded : Int32} {v_imageWronged : Int32} {v_bodies : Int32} {v_ran : Int32} {v_ownKind : Int32} {v_ownNumber : Int32} {v_limit : List Int32} {v_changeWas : List Int32} {v_changeIs : List Int32} {v_shapeRows : List Int32} {v_shapeColumns : List Int32} {v_row : List Int32} {v_column : List Int32} {v_below : List Int32} {v_face : List Int32} {v_worn : List Int32} {v_lastBend : List Int32} {v_tape : List Int32} {v_text : List Int32} {v_names : List Int32} {v_bends : List Int32} {v_high : List Int32} {v_to : List Int32} {v_pileSize : List Int32} {v_planLine : List Int32} {v_planWay : List Int32} {v_way1 : List Int32} {v_bestWay : List Int32} {v_order1 : List Int32} {v_placeIn : List Int32} {v_bodyKind : List Int32} {v_trace : List Int32} {v_shelf : List Int32} {v_many : List Int32} {v_items : List Int64} {v_carried : List Int64} {r : Int32} {N d : Nat} (hd : 3 ≤ d) (hf : fX9_crease N x1 x2 v_rowsOf v_columnsOf v_limit v_worn v_lastBend = some r) : mm_Ct l yX9_crease cX9_crease 4 (some .int) d D (mm_T cI cL cS cH) [.ref (a 0), .int x1, .int x2] (wd_X9 cI cL cS cH a v_keptMany v_done v_rowsOf v_columnsOf v_folded v_wronged v_tapeMany v_textMany v_base v_at v_ends v_fault v_opened v_bentMany v_bentWrong v_moreWorn v_planned v_allWrong v_allWorn v_z v_wishedField v_isFound v_bestWrong v_bestWorn v_bestMany v_soughtBy v_sought v_soughtAt v_foundMany v_foundOrder v_isKept v_imageRows v_imageColumns v_imageFolded v_imageWronged v_bodies v_ran v_ownKind v_ownNumber v_limit v_changeWas v_changeIs v_shapeRows v_shapeColumns v_row v_column v_below v_face v_worn v_lastBend v_tape v_text v_names v_bends v_high v_to v_pileSize v_planLine v_planWay v_way1 v_bestWay v_order1 v_placeIn v_bodyKind v_trace v_shelf v_many v_items v_carried) (wd_X9 cI cL cS cH a v_keptMany v_done v_rowsOf v_columnsOf v_folded v_wronged v_tapeMany v_textMany v_base v_at v_ends v_fault v_opened v_bentMany v_bentWrong v_moreWorn v_planned v_allWrong v_allWorn v_z v_wishedField v_isFound v_bestWrong v_bestWorn v_bestMany v_soughtBy v_sought v_soughtAt v_foundMany v_foundOrder v_isKept v_imageRows v_imageColumns v_imageFolded v_imageWronged v_bodies v_ran v_ownKind v_ownNumber v_limit v_changeWas v_changeIs v_shapeRows v_shapeColumns v_row v_column v_below v_face v_worn v_lastBend v_tape v_text v_names v_bends v_high v_to v_pileSize v_planLine v_planWay v_way1 v_bestWay v_order1 v_placeIn v_bodyKind v_trace v_shelf v_many v_items v_carried) (some (.int r)) := by
  refine mm_of (by decide) (Nat.le_of_ble_eq_true rfl) ?_
  intro p e s m args below meth c A H locs ls C0 hP hD hA hS hl
  have C0 : mm_Cx p s m args meth c RX9 cX9_crease 4 (some .int) D (mm_T cI cL cS cH) A := C0
  obtain ⟨hx, hb, hml, hown, hts, hr, hlocks, hK, hSt⟩ := id C0
  have hl : lv_has ls 4 [(0, .ref (a 0)), (1, .int x1), (2, .int x2)] := hl
  unfold fX9_crease at hf
  refine lv_iload_n hx hb dX9_crease_0 rfl (lv_at hl 1 rfl) ?_
  refine lv_if_lt (tgt := 42) hx hb dX9_crease_1 (by decide) (fun c_1 => ?_) (fun c_1 => ?_)
  · have hf := mm_ip hf c_1
    refine lv_iconst (v := -1) hx hb dX9_crease_42 (by decide) ?_
    obtain rfl := mm_inj1 hf
    exact mm_iret C0 hP hD hS dX9_crease_43
  · have hf := mm_in hf c_1
    refine lv_iload_n hx hb dX9_crease_4 rfl (lv_at hl 1 rfl) ?_
    refine lv_bipush (v := 10) hx hb dX9_crease_5 (by decide) ?_
    obtain ⟨h_2, hf⟩ := mm_cks hf
    refine lv_irem hx hb dX9_crease_7 (mm_nzs h_2) ?_
    refine lv_iconst (v := 1) hx hb dX9_crease_8 (by decide) ?_
    refine lv_icmp_gt (tgt := 42) hx hb dX9_crease_9 (by decide) (fun c_3 => ?_) (fun c_3 => ?_)
    · have hf := mm_ip hf c_3
      refine lv_iconst (v := -1) hx hb dX9_crease_42 (by decide) ?_
      obtain rfl := mm_inj1 hf
      exact mm_iret C0 hP hD hS dX9_crease_43
    · have hf := mm_in hf c_3
      refine lv_aload_n hx hb dX9_crease_12 rfl (lv_at hl 0 rfl) ?_
      refine lv_iconst (v := 2) hx hb dX9_crease_13 (by decide) ?_
      refine lv_iload_n hx hb dX9_crease_14 rfl (lv_at hl 1 rfl) ?_
      refine lv_bipush (v := 10) hx hb dX9_crease_15 (by decide) ?_
      obtain ⟨h_4, hf⟩ := mm_cks hf
      refine lv_idiv hx hb dX9_crease_17 (mm_nzs h_4) ?_
      refine lv_imul hx hb dX9_crease_18 ?_
      refine lv_iload_n hx hb dX9_crease_19 rfl (lv_at hl 1 rfl) ?_
      refine lv_bipush (v := 10) hx hb dX9_crease_20 (by decide) ?_
      obtain ⟨h_5, hf⟩ := mm_cks hf
      refine lv_irem hx hb dX9_crease_22 (mm_nzs h_5) ?_
      refine lv_iadd hx hb dX9_crease_23 ?_
      obtain ⟨r_6, hc_7, hf⟩ := mm_bd1s hf
      refine mm_callVF (q0 := 0) (ci := 9) (rest := []) C0 lk_X9_217 (ctX9_isCrease (a := a) (d := d - 1) (by omega) hc_7) (by omega) rfl hl.1 rfl (mm_cat rfl) dX9_crease_24 hP hD hA hS rfl rfl (fun H locs hP hD hS => ?_)
      refine W.eq (g2 := F0 m 27 ls [.int (mm_b r_6)]) rfl ?_
      refine lv_if_eq (tgt := 42) hx hb dX9_crease_27 (by decide) (fun c_8 => ?_) (fun c_8 => ?_)
      · have hf := mm_ip hf (mm_b0 c_8)
        refine lv_iconst (v := -1) hx hb dX9_crease_42 (by decide) ?_
        obtain rfl := mm_inj1 hf
        exact mm_iret C0 hP hD hS dX9_crease_43
      · have hf := mm_in hf (mm_b1 c_8)
        refine lv_iload_n hx hb dX9_crease_30 rfl (lv_at hl 2 rfl) ?_
        refine lv_i2l hx hb dX9_crease_31 rfl ?_
        refine lv_lconst (v := 0) hx hb dX9_crease_32 (by decide) ?_
        refine lv_ldc2 hx hb hown (hts _ kc_X9_247) dX9_crease_33 ?_
        obtain ⟨r_9, hc_10, hf⟩ := mm_bd1s hf
        refine mm_callS0 (rest := []) C0 lk_X9_111 (ctX9_within (d := d - 1) (by omega) hc_10) (by omega) rfl hl.1 rfl (mm_cat rfl) dX9_crease_36 hP hD hA hS (fun H locs hP hS => ?_)
        refine W.eq (g2 := F0 m 39 ls [.int (mm_b r_9)]) rfl ?_
        refine lv_if_ne (tgt := 44) hx hb dX9_crease_39 (by decide) (fun c_11 => ?_) (fun c_11 => ?_)
        · have hf := mm_in hf (mm_b1 c_11)
          refine lv_iconst (v := 2) hx hb dX9_crease_44 (by decide) ?_
          refine lv_iload_n hx hb dX9_crease_45 rfl (lv_at hl 1 rfl) ?_
          refine lv_bipush (v := 10) hx hb dX9_crease_46 (by decide) ?_
          obtain ⟨h_12, hf⟩ := mm_cks hf
          refine lv_idiv hx hb dX9_crease_48 (mm_nzs h_12) ?_
          refine lv_imul hx hb dX9_crease_49 ?_
          refine lv_iload_n hx hb dX9_crease_50 rfl (lv_at hl 1 rfl) ?_
          refine lv_bipush (v := 10) hx hb dX9_crease_51 (by decide) ?_
          obtain ⟨h_13, hf⟩ := mm_cks hf
          refine lv_irem hx hb dX9_crease_53 (mm_nzs h_13) ?_
          refine lv_iadd hx hb dX9_crease_54 ?_
          refine lv_topi (fun y_14 ey_14 => ?_)
          have hf := mm_nms hf ey_14
          refine lv_istore_n (lv' := [(3, .int y_14), (0, .ref (a 0)), (1, .int x1), (2, .int x2)]) hx hb dX9_crease_55 rfl hl (by decide) rfl (fun ls hl => ?_)
          refine lv_iload_n hx hb dX9_crease_56 rfl (lv_at hl 3 rfl) ?_
          refine lv_if_ne (tgt := 69) hx hb dX9_crease_57 (by decide) (fun c_15 => ?_) (fun c_15 => ?_)
          · have hf := mm_in hf c_15
            refine lv_iload_n hx hb dX9_crease_69 rfl (lv_at hl 3 rfl) ?_
            refine lv_iconst (v := 1) hx hb dX9_crease_70 (by decide) ?_
            refine lv_icmp_ne (tgt := 83) hx hb dX9_crease_71 (by decide) (fun c_16 => ?_) (fun c_16 => ?_)
            · have hf := mm_in hf c_16
              refine lv_aload_n hx hb dX9_crease_83 rfl (lv_at hl 1 rfl) ?_
              refine mm_get C0 hP iw_X9 0 rfl rfl 13 (by decide) fl_X9_37 rfl dX9_crease_84 ?_
              refine lv_iload_n hx hb dX9_crease_87 rfl (lv_at hl 0 rfl) ?_
              obtain ⟨h_17, hf⟩ := mm_cks hf
              refine mm_iald C0 hP 10 rfl h_17 dX9_crease_88 ?_
              refine lv_aload_n hx hb dX9_crease_89 rfl (lv_at hl 1 rfl) ?_
              refine mm_get C0 hP iw_X9 0 rfl rfl 0 (by decide) fl_X9_7 rfl dX9_crease_90 ?_
              refine lv_iconst (v := 0) hx hb dX9_crease_93 (by decide) ?_
              obtain ⟨h_18, hf⟩ := mm_cks hf
              refine mm_iald C0 hP 1 rfl h_18 dX9_crease_94 ?_
              refine lv_icmp_lt (tgt := 102) hx hb dX9_crease_95 (by decide) (fun c_19 => ?_) (fun c_19 => ?_)
              · have hf := mm_ip hf c_19
                refine lv_iconst (v := 0) hx hb dX9_crease_102 (by decide) ?_
                obtain rfl := mm_inj1 hf
                exact mm_iret C0 hP hD hS dX9_crease_103
              · have hf := mm_in hf c_19
                refine lv_iconst (v := 1) hx hb dX9_crease_98 (by decide) ?_
                refine lv_goto (tgt := 103) hx hb dX9_crease_99 (by decide) ?_
                obtain rfl := mm_inj1 hf
                exact mm_iret C0 hP hD hS dX9_crease_103
            · have hf := mm_ip hf c_16
              refine lv_aload_n hx hb dX9_crease_74 rfl (lv_at hl 1 rfl) ?_
              refine mm_get C0 hP iw_X9 0 rfl rfl 14 (by decide) fl_X9_40 rfl dX9_crease_75 ?_
              refine lv_iload_n hx hb dX9_crease_78 rfl (lv_at hl 0 rfl) ?_
              obtain ⟨h_20, hf⟩ := mm_cks hf
              refine mm_iald C0 hP 11 rfl h_20 dX9_crease_79 ?_
              refine lv_goto (tgt := 103) hx hb dX9_crease_80 (by decide) ?_
              obtain rfl := mm_inj1 hf
              exact mm_iret C0 hP hD hS dX9_crease_103
          · have hf := mm_ip hf c_15
            refine lv_aload_n hx hb dX9_crease_60 rfl (lv_at hl 1 rfl) ?_
            refine mm_get C0 hP iw_X9 0 rfl rfl 13 (by decide) fl_X9_37 rfl dX9_crease_61 ?_
            refine lv_iload_n hx hb dX9_crease_64 rfl (lv_at hl 0 rfl) ?_
            obtain ⟨h_21, hf⟩ := mm_cks hf
            refine mm_iald C0 hP 10 rfl h_21 dX9_crease_65 ?_
            refine lv_goto (tgt := 103) hx hb dX9_crease_66 (by decide) ?_
            obtain rfl := mm_inj1 hf
            exact mm_iret C0 hP hD hS dX9_crease_103
        · have hf := mm_ip hf (mm_b0 c_11)
          refine lv_iconst (v := -1) hx hb dX9_crease_42 (by decide) ?_
          obtain rfl := mm_inj1 hf
          exact mm_iret C0 hP hD hS dX9_crease_43

theorem nb_dX9_sizeAt_0 : bls_w cX9_sizeAt [(0, [3]), (1, [54, 4]), (3, [3]), (4, [54, 5]), (6, [21, 5]), (8, [42]), (9, [182, 0, 127]), (12, [162, 0, 51]), (15, [21, 4]), (17, [42]), (18, [180, 0, 25]), (21, [16, 32])] := bls_of (by decide +kernel)
theorem dX9_sizeAt_0 : decode cX9_sizeAt 0 = .ok (.iconst 0, 1) := op_3 nb_dX9_sizeAt_0.1
set_option maxRecDepth 100000 in
theorem dX9_sizeAt_1 : decode cX9_sizeAt 1 = .ok (.istore 4, 2) := (op_54 nb_dX9_sizeAt_0.2.1).trans rfl
theorem dX9_sizeAt_3 : decode cX9_sizeAt 3 = .ok (.iconst 0, 1) := op_3 nb_dX9_sizeAt_0.2.2.1
set_option maxRecDepth 100000 in
theorem dX9_sizeAt_4 : decode cX9_sizeAt 4 = .ok (.istore 5, 2) := (op_54 nb_dX9_sizeAt_0.2.2.2.1).trans rfl
set_option maxRecDepth 100000 in
theorem dX9_sizeAt_6 : decode cX9_sizeAt 6 = .ok (.iload 5, 2) := (op_21 nb_dX9_sizeAt_0.2.2.2.2.1).trans rfl
theorem dX9_sizeAt_8 : decode cX9_sizeAt 8 = .ok (.aload_n 0, 1) := op_42 nb_dX9_sizeAt_0.2.2.2.2.2.1
set_option maxRecDepth 100000 in
theorem dX9_sizeAt_9 : decode cX9_sizeAt 9 = .ok (.invokevirtual 127, 3) := (op_182 nb_dX9_sizeAt_0.2.2.2.2.2.2.1).trans rfl
set_option maxRecDepth 100000 in
theorem dX9_sizeAt_12 : decode cX9_sizeAt 12 = .ok (.if_icmp .ge 51, 3) := (op_162 nb_dX9_sizeAt_0.2.2.2.2.2.2.2.1).trans rfl
set_option maxRecDepth 100000 in
theorem dX9_sizeAt_15 : decode cX9_sizeAt 15 = .ok (.iload 4, 2) := (op_21 nb_dX9_sizeAt_0.2.2.2.2.2.2.2.2.1).trans rfl
theorem dX9_sizeAt_17 : decode cX9_sizeAt 17 = .ok (.aload_n 0, 1) := op_42 nb_dX9_sizeAt_0.2.2.2.2.2.2.2.2.2.1
set_option maxRecDepth 100000 in
theorem dX9_sizeAt_18 : decode cX9_sizeAt 18 = .ok (.getfield 25, 3) := (op_180 nb_dX9_sizeAt_0.2.2.2.2.2.2.2.2.2.2.1).trans rfl
set_option maxRecDepth 100000 in
theorem dX9_sizeAt_21 : decode cX9_sizeAt 21 = .ok (.bipush 32, 2) := (op_16 nb_dX9_sizeAt_0.2.2.2.2.2.2.2.2.2.2.2.1).trans rfl
theorem nb_dX9_sizeAt_23 : bls_w cX9_sizeAt [(23, [27]), (24, [104]), (25, [21, 5]), (27, [96]), (28, [46]), (29, [28]), (30, [160, 0, 23]), (33, [42]), (34, [180, 0, 28]), (37, [16, 32]), (39, [27]), (40, [104])] := bls_of (by decide +kernel)
theorem dX9_sizeAt_23 : decode cX9_sizeAt 23 = .ok (.iload_n 1, 1) := op_27 nb_dX9_sizeAt_23.1
theorem dX9_sizeAt_24 : decode cX9_sizeAt 24 = .ok (.imul, 1) := op_104 nb_dX9_sizeAt_23.2.1
set_option maxRecDepth 100000 in
theorem dX9_sizeAt_25 : decode cX9_sizeAt 25 = .ok (.iload 5, 2) := (op_21 nb_dX9_sizeAt_23.2.2.1).trans rfl
theorem dX9_sizeAt_27 : decode cX9_sizeAt 27 = .ok (.iadd, 1) := op_96 nb_dX9_sizeAt_23.2.2.2.1
theorem dX9_sizeAt_28 : decode cX9_sizeAt 28 = .ok (.iaload, 1) := op_46 nb_dX9_sizeAt_23.2.2.2.2.1
theorem dX9_sizeAt_29 : decode cX9_sizeAt 29 = .ok (.iload_n 2, 1) := op_28 nb_dX9_sizeAt_23.2.2.2.2.2.1
set_option maxRecDepth 100000 in
theorem dX9_sizeAt_30 : decode cX9_sizeAt 30 = .ok (.if_icmp .ne 23, 3) := (op_160 nb_dX9_sizeAt_23.2.2.2.2.2.2.1).trans rfl
theorem dX9_sizeAt_33 : decode cX9_sizeAt 33 = .ok (.aload_n 0, 1) := op_42 nb_dX9_sizeAt_23.2.2.2.2.2.2.2.1
set_option maxRecDepth 100000 in
theorem dX9_sizeAt_34 : decode cX9_sizeAt 34 = .ok (.getfield 28, 3) := (op_180 nb_dX9_sizeAt_23.2.2.2.2.2.2.2.2.1).trans rfl
set_option maxRecDepth 100000 in
theorem dX9_sizeAt_37 : decode cX9_sizeAt 37 = .ok (.bipush 32, 2) := (op_16 nb_dX9_sizeAt_23.2.2.2.2.2.2.2.2.2.1).trans rfl
theorem dX9_sizeAt_39 : decode cX9_sizeAt 39 = .ok (.iload_n 1, 1) := op_27 nb_dX9_sizeAt_23.2.2.2.2.2.2.2.2.2.2.1
theorem dX9_sizeAt_40 : decode cX9_sizeAt 40 = .ok (.imul, 1) := op_104 nb_dX9_sizeAt_23.2.2.2.2.2.2.2.2.2.2.2.1
theorem nb_dX9_sizeAt_41 : bls_w cX9_sizeAt [(41, [21, 5]), (43, [96]), (44, [46]), (45, [29]), (46, [160, 0, 7]), (49, [4]), (50, [167, 0, 4]), (53, [3]), (54, [96]), (55, [54, 4]), (57, [132, 5, 1]), (60, [167, 255, 202])] := bls_of (by decide +kernel)
set_option maxRecDepth 100000 in
theorem dX9_sizeAt_41 : decode cX9_sizeAt 41 = .ok (.iload 5, 2) := (op_21 nb_dX9_sizeAt_41.1).trans rfl
theorem dX9_sizeAt_43 : decode cX9_sizeAt 43 = .ok (.iadd, 1) := op_96 nb_dX9_sizeAt_41.2.1
theorem dX9_sizeAt_44 : decode cX9_sizeAt 44 = .ok (.iaload, 1) := op_46 nb_dX9_sizeAt_41.2.2.1
theorem dX9_sizeAt_45 : decode cX9_sizeAt 45 = .ok (.iload_n 3, 1) := op_29 nb_dX9_sizeAt_41.2.2.2.1
set_option maxRecDepth 100000 in
theorem dX9_sizeAt_46 : decode cX9_sizeAt 46 = .ok (.if_icmp .ne 7, 3) := (op_160 nb_dX9_sizeAt_41.2.2.2.2.1).trans rfl
theorem dX9_sizeAt_49 : decode cX9_sizeAt 49 = .ok (.iconst 1, 1) := op_4 nb_dX9_sizeAt_41.2.2.2.2.2.1
set_option maxRecDepth 100000 in
theorem dX9_sizeAt_50 : decode cX9_sizeAt 50 = .ok (.goto 4, 3) := (op_167 nb_dX9_sizeAt_41.2.2.2.2.2.2.1).trans rfl
theorem dX9_sizeAt_53 : decode cX9_sizeAt 53 = .ok (.iconst 0, 1) := op_3 nb_dX9_sizeAt_41.2.2.2.2.2.2.2.1
theorem dX9_sizeAt_54 : decode cX9_sizeAt 54 = .ok (.iadd, 1) := op_96 nb_dX9_sizeAt_41.2.2.2.2.2.2.2.2.1
set_option maxRecDepth 100000 in
theorem dX9_sizeAt_55 : decode cX9_sizeAt 55 = .ok (.istore 4, 2) := (op_54 nb_dX9_sizeAt_41.2.2.2.2.2.2.2.2.2.1).trans rfl
set_option maxRecDepth 100000 in
theorem dX9_sizeAt_57 : decode cX9_sizeAt 57 = .ok (.iinc 5 1, 3) := (op_132 nb_dX9_sizeAt_41.2.2.2.2.2.2.2.2.2.2.1).trans rfl
set_option maxRecDepth 100000 in
theorem dX9_sizeAt_60 : decode cX9_sizeAt 60 = .ok (.goto (-54), 3) := (op_167 nb_dX9_sizeAt_41.2.2.2.2.2.2.2.2.2.2.2.1).trans rfl
theorem nb_dX9_sizeAt_63 : bls_w cX9_sizeAt [(63, [21, 4]), (65, [172])] := bls_of (by decide +kernel)
set_option maxRecDepth 100000 in
theorem dX9_sizeAt_63 : decode cX9_sizeAt 63 = .ok (.iload 4, 2) := (op_21 nb_dX9_sizeAt_63.1).trans rfl
theorem dX9_sizeAt_65 : decode cX9_sizeAt 65 = .ok (.ireturn, 1) := op_172 nb_dX9_sizeAt_63.2.1
def fX9_sizeAt_54 (N : Nat) (k_6 : Int32 → Int32 → Int32 → Int32 → Int32 → Int32 → Int32 → List Int32 → List Int32 → Option (Int32)) (x1 : Int32) (x2 : Int32) (x3 : Int32) (x5 : Int32) (s0 : Int32) (s1 : Int32) (v_rowsOf : Int32) (v_columnsOf : Int32) (v_row : List Int32) (v_column : List Int32) : Option (Int32) :=
    mm_nm ((s1 + s0)) (fun (y_8 : Int32) =>
    mm_nm (x5 + (1 : Int32)) (fun (y_9 : Int32) =>
    k_6 x1 x2 x3 y_8 y_9 v_rowsOf v_columnsOf v_row v_column))

set_option maxHeartbeats 4000000 in
set_option maxRecDepth 100000 in
theorem tX9_sizeAt_54 {p : Program} {l : Launch} {e : Env} {s : State} {m : MethodId} {args : Array Value} {below : List Frame} {meth : Method} {c : Code} {D : va_G} {cI cL cS cH : ClassId} {A : Nat → Prop} {d : Nat} {a : Nat → Nat} (hd : 2 ≤ d) (C0 : mm_Cx p s m args meth c RX9 cX9_sizeAt 6 (some .int) D (mm_T cI cL cS cH) A) (hA : ∀ q, s.heap.size ≤ q → A q) {v_keptMany : Int32} {v_done : Int32} {v_folded : Int32} {v_wronged : Int32} {v_tapeMany : Int32} {v_textMany : Int32} {v_base : Int32} {v_at : Int32} {v_ends : Int32} {v_fault : Int32} {v_opened : Int32} {v_bentMany : Int32} {v_bentWrong : Int32} {v_moreWorn : Int32} {v_planned : Int32} {v_allWrong : Int32} {v_allWorn : Int32} {v_z : Int32} {v_wishedField : Int32} {v_isFound : Bool} {v_bestWrong : Int32} {v_bestWorn : Int32} {v_bestMany : Int32} {v_soughtBy : Int32} {v_sought : Int32} {v_soughtAt : Int32} {v_foundMany : Int32} {v_foundOrder : Int32} {v_isKept : Bool} {v_imageRows : Int32} {v_imageColumns : Int32} {v_imageFolded : Int32} {v_imageWronged : Int32} {v_bodies : Int32} {v_ran : Int32} {v_ownKind : Int32} {v_ownNumber : Int32} {v_limit : List Int32} {v_changeWas : List Int32} {v_changeIs : List Int32} {v_shapeRows : List Int32} {v_shapeColumns : List Int32} {v_below : List Int32} {v_face : List Int32} {v_worn : List Int32} {v_lastBend : List Int32} {v_tape : List Int32} {v_text : List Int32} {v_names : List Int32} {v_bends : List Int32} {v_high : List Int32} {v_to : List Int32} {v_pileSize : List Int32} {v_planLine : List Int32} {v_planWay : List Int32} {v_way1 : List Int32} {v_bestWay : List Int32} {v_order1 : List Int32} {v_placeIn : List Int32} {v_bodyKind : List Int32} {v_trace : List Int32} {v_shelf : List Int32} {v_many : List Int32} {v_items : List Int64} {v_carried : List Int64} {r : Int32} (N : Nat) {k_6 : Int32 → Int32 → Int32 → Int32 → Int32 → Int32 → Int32 → List Int32 → List Int32 → Option (Int32)} (hk_6 : ∀ (x1 : Int32) (x2 : Int32) (x3 : Int32) (x4 : Int32) (x5 : Int32) (v_rowsOf : Int32) (v_columnsOf : Int32) (v_row : List Int32) (v_column : List Int32) (H : Heap) (locs : List Loc) (ls : Array Slot), k_6 x1 x2 x3 x4 x5 v_rowsOf v_columnsOf v_row v_column = some r → va_P D mm_cl (wd_X9 cI cL cS cH a v_keptMany v_done v_rowsOf v_columnsOf v_folded v_wronged v_tapeMany v_textMany v_base v_at v_ends v_fault v_opened v_bentMany v_bentWrong v_moreWorn v_planned v_allWrong v_allWorn v_z v_wishedField v_isFound v_bestWrong v_bestWorn v_bestMany v_soughtBy v_sought v_soughtAt v_foundMany v_foundOrder v_isKept v_imageRows v_imageColumns v_imageFolded v_imageWronged v_bodies v_ran v_ownKind v_ownNumber v_limit v_changeWas v_changeIs v_shapeRows v_shapeColumns v_row v_column v_below v_face v_worn v_lastBend v_tape v_text v_names v_bends v_high v_to v_pileSize v_planLine v_planWay v_way1 v_bestWay v_order1 v_placeIn v_bodyKind v_trace v_shelf v_many v_items v_carried) H → va_D A (wd_X9 cI cL cS cH a v_keptMany v_done v_rowsOf v_columnsOf v_folded v_wronged v_tapeMany v_textMany v_base v_at v_ends v_fault v_opened v_bentMany v_bentWrong v_moreWorn v_planned v_allWrong v_allWorn v_z v_wishedField v_isFound v_bestWrong v_bestWorn v_bestMany v_soughtBy v_sought v_soughtAt v_foundMany v_foundOrder v_isKept v_imageRows v_imageColumns v_imageFolded v_imageWronged v_bodies v_ran v_ownKind v_ownNumber v_limit v_changeWas v_changeIs v_shapeRows v_shapeColumns v_row v_column v_below v_face v_worn v_lastBend v_tape v_text v_names v_bends v_high v_to v_pileSize v_planLine v_planWay v_way1 v_bestWay v_order1 v_placeIn v_bodyKind v_trace v_shelf v_many v_items v_carried) → va_S A s.heap H locs → lv_has ls 6 [(0, .ref (a 0)), (1, .int x1), (2, .int x2), (3, .int x3), (4, .int x4), (5, .int x5)] → W p l e (mm_rr d) s m args below meth c H locs 0 0 (mm_Z below D A (wd_X9 cI cL cS cH a v_keptMany v_done v_rowsOf v_columnsOf v_folded v_wronged v_tapeMany v_textMany v_base v_at v_ends v_fault v_opened v_bentMany v_bentWrong v_moreWorn v_planned v_allWrong v_allWorn v_z v_wishedField v_isFound v_bestWrong v_bestWorn v_bestMany v_soughtBy v_sought v_soughtAt v_foundMany v_foundOrder v_isKept v_imageRows v_imageColumns v_imageFolded v_imageWronged v_bodies v_ran v_ownKind v_ownNumber v_limit v_changeWas v_changeIs v_shapeRows v_shapeColumns v_row v_column v_below v_face v_worn v_lastBend v_tape v_text v_names v_bends v_high v_to v_pileSize v_planLine v_planWay v_way1 v_bestWay v_order1 v_placeIn v_bodyKind v_trace v_shelf v_many v_items v_carried) (some (.int r)) args s) (F0 m 6 ls [])) : ∀ (x1 : Int32) (x2 : Int32) (x3 : Int32) (x5 : Int32) (s0 : Int32) (s1 : Int32) (v_rowsOf : Int32) (v_columnsOf : Int32) (v_row : List Int32) (v_column : List Int32) (H : Heap) (locs : List Loc) (ls : Array Slot), fX9_sizeAt_54 N k_6 x1 x2 x3 x5 s0 s1 v_rowsOf v_columnsOf v_row v_column = some r → va_P D mm_cl (wd_X9 cI cL cS cH a v_keptMany v_done v_rowsOf v_columnsOf v_folded v_wronged v_tapeMany v_textMany v_base v_at v_ends v_fault v_opened v_bentMany v_bentWrong v_moreWorn v_planned v_allWrong v_allWorn v_z v_wishedField v_isFound v_bestWrong v_bestWorn v_bestMany v_soughtBy v_sought v_soughtAt v_foundMany v_foundOrder v_isKept v_imageRows v_imageColumns v_imageFolded v_imageWronged v_bodies v_ran v_ownKind v_ownNumber v_limit v_changeWas v_changeIs v_shapeRows v_shapeColumns v_row v_column v_below v_face v_worn v_lastBend v_tape v_text v_names v_bends v_high v_to v_pileSize v_planLine v_planWay v_way1 v_bestWay v_order1 v_placeIn v_bodyKind v_trace v_shelf v_many v_items v_carried) H → va_D A (wd_X9 cI cL cS cH a v_keptMany v_done v_rowsOf v_columnsOf v_folded v_wronged v_tapeMany v_textMany v_base v_at v_ends v_fault v_opened v_bentMany v_bentWrong v_moreWorn v_planned v_allWrong v_allWorn v_z v_wishedField v_isFound v_bestWrong v_bestWorn v_bestMany v_soughtBy v_sought v_soughtAt v_foundMany v_foundOrder v_isKept v_imageRows v_imageColumns v_imageFolded v_imageWronged v_bodies v_ran v_ownKind v_ownNumber v_limit v_changeWas v_changeIs v_shapeRows v_shapeColumns v_row v_column v_below v_face v_worn v_lastBend v_tape v_text v_names v_bends v_high v_to v_pileSize v_planLine v_planWay v_way1 v_bestWay v_order1 v_placeIn v_bodyKind v_trace v_shelf v_many v_items v_carried) → va_S A s.heap H locs → lv_has ls 6 [(0, .ref (a 0)), (1, .int x1), (2, .int x2), (3, .int x3), (5, .int x5)] → W p l e (mm_rr d) s m args below meth c H locs 0 0 (mm_Z below D A (wd_X9 cI cL cS cH a v_keptMany v_done v_rowsOf v_columnsOf v_folded v_wronged v_tapeMany v_textMany v_base v_at v_ends v_fault v_opened v_bentMany v_bentWrong v_moreWorn v_planned v_allWrong v_allWorn v_z v_wishedField v_isFound v_bestWrong v_bestWorn v_bestMany v_soughtBy v_sought v_soughtAt v_foundMany v_foundOrder v_isKept v_imageRows v_imageColumns v_imageFolded v_imageWronged v_bodies v_ran v_ownKind v_ownNumber v_limit v_changeWas v_changeIs v_shapeRows v_shapeColumns v_row v_column v_below v_face v_worn v_lastBend v_tape v_text v_names v_bends v_high v_to v_pileSize v_planLine v_planWay v_way1 v_bestWay v_order1 v_placeIn v_bodyKind v_trace v_shelf v_many v_items v_carried) (some (.int r)) args s) (F0 m 54 ls [.int s0, .int s1]) := by
  obtain ⟨hx, hb, hml, hown, hts, hr, hlocks, hK, hSt⟩ := id C0
  intro x1 x2 x3 x5 s0 s1 v_rowsOf v_columnsOf v_row v_column H locs ls hf hP hD hS hl
  unfold fX9_sizeAt_54 at hf
  refine lv_iadd hx hb dX9_sizeAt_54 ?_
  refine lv_topi (fun y_8 ey_8 => ?_)
  have hf := mm_nms hf ey_8
  refine lv_istore (lv' := [(4, .int y_8), (0, .ref (a 0)), (1, .int x1), (2, .int x2), (3, .int x3), (5, .int x5)]) hx hb dX9_sizeAt_55 hl (by decide) rfl (fun ls hl => ?_)
  obtain ⟨y_9, ey_9⟩ : ∃ z : Int32, z = x5 + (1 : Int32) := ⟨_, rfl⟩
  have hf := mm_nms hf ey_9
  refine lv_iinc (v := y_9) (lv' := [(5, .int y_9), (4, .int y_8), (0, .ref (a 0)), (1, .int x1), (2, .int x2), (3, .int x3)]) hx hb dX9_sizeAt_57 hl (k := 5) rfl (by rw [ey_9]; rfl) (by decide) rfl (fun ls hl => ?_)
  refine lv_goto (tgt := 6) hx hb dX9_sizeAt_60 (by decide) ?_
  exact hk_6 _ _ _ _ _ _ _ _ _ H locs ls hf hP hD hS (lv_sub hl [2, 3, 4, 5, 1, 0] rfl)

def fX9_sizeAt_53 (N : Nat) (k_6 : Int32 → Int32 → Int32 → Int32 → Int32 → Int32 → Int32 → List Int32 → List Int32 → Option (Int32)) (x1 : Int32) (x2 : Int32) (x3 : Int32) (x5 : Int32) (s0 : Int32) (v_rowsOf : Int32) (v_columnsOf : Int32) (v_row : List Int32) (v_column : List Int32) : Option (Int32) :=
    fX9_sizeAt_54 N k_6 x1 x2 x3 x5 (0 : Int32) s0 v_rowsOf v_columnsOf v_row v_column

set_option maxHeartbeats 4000000 in
set_option maxRecDepth 100000 in
theorem tX9_sizeAt_53 {p : Program} {l : Launch} {e : Env} {s : State} {m : MethodId} {args : Array Value} {below : List Frame} {meth : Method} {c : Code} {D : va_G} {cI cL cS cH : ClassId} {A : Nat → Prop} {d : Nat} {a : Nat → Nat} (hd : 2 ≤ d) (C0 : mm_Cx p s m args meth c RX9 cX9_sizeAt 6 (some .int) D (mm_T cI cL cS cH) A) (hA : ∀ q, s.heap.size ≤ q → A q) {v_keptMany : Int32} {v_done : Int32} {v_folded : Int32} {v_wronged : Int32} {v_tapeMany : Int32} {v_textMany : Int32} {v_base : Int32} {v_at : Int32} {v_ends : Int32} {v_fault : Int32} {v_opened : Int32} {v_bentMany : Int32} {v_bentWrong : Int32} {v_moreWorn : Int32} {v_planned : Int32} {v_allWrong : Int32} {v_allWorn : Int32} {v_z : Int32} {v_wishedField : Int32} {v_isFound : Bool} {v_bestWrong : Int32} {v_bestWorn : Int32} {v_bestMany : Int32} {v_soughtBy : Int32} {v_sought : Int32} {v_soughtAt : Int32} {v_foundMany : Int32} {v_foundOrder : Int32} {v_isKept : Bool} {v_imageRows : Int32} {v_imageColumns : Int32} {v_imageFolded : Int32} {v_imageWronged : Int32} {v_bodies : Int32} {v_ran : Int32} {v_ownKind : Int32} {v_ownNumber : Int32} {v_limit : List Int32} {v_changeWas : List Int32} {v_changeIs : List Int32} {v_shapeRows : List Int32} {v_shapeColumns : List Int32} {v_below : List Int32} {v_face : List Int32} {v_worn : List Int32} {v_lastBend : List Int32} {v_tape : List Int32} {v_text : List Int32} {v_names : List Int32} {v_bends : List Int32} {v_high : List Int32} {v_to : List Int32} {v_pileSize : List Int32} {v_planLine : List Int32} {v_planWay : List Int32} {v_way1 : List Int32} {v_bestWay : List Int32} {v_order1 : List Int32} {v_placeIn : List Int32} {v_bodyKind : List Int32} {v_trace : List Int32} {v_shelf : List Int32} {v_many : List Int32} {v_items : List Int64} {v_carried : List Int64} {r : Int32} (N : Nat) {k_6 : Int32 → Int32 → Int32 → Int32 → Int32 → Int32 → Int32 → List Int32 → List Int32 → Option (Int32)} (hk_6 : ∀ (x1 : Int32) (x2 : Int32) (x3 : Int32) (x4 : Int32) (x5 : Int32) (v_rowsOf : Int32) (v_columnsOf : Int32) (v_row : List Int32) (v_column : List Int32) (H : Heap) (locs : List Loc) (ls : Array Slot), k_6 x1 x2 x3 x4 x5 v_rowsOf v_columnsOf v_row v_column = some r → va_P D mm_cl (wd_X9 cI cL cS cH a v_keptMany v_done v_rowsOf v_columnsOf v_folded v_wronged v_tapeMany v_textMany v_base v_at v_ends v_fault v_opened v_bentMany v_bentWrong v_moreWorn v_planned v_allWrong v_allWorn v_z v_wishedField v_isFound v_bestWrong v_bestWorn v_bestMany v_soughtBy v_sought v_soughtAt v_foundMany v_foundOrder v_isKept v_imageRows v_imageColumns v_imageFolded v_imageWronged v_bodies v_ran v_ownKind v_ownNumber v_limit v_changeWas v_changeIs v_shapeRows v_shapeColumns v_row v_column v_below v_face v_worn v_lastBend v_tape v_text v_names v_bends v_high v_to v_pileSize v_planLine v_planWay v_way1 v_bestWay v_order1 v_placeIn v_bodyKind v_trace v_shelf v_many v_items v_carried) H → va_D A (wd_X9 cI cL cS cH a v_keptMany v_done v_rowsOf v_columnsOf v_folded v_wronged v_tapeMany v_textMany v_base v_at v_ends v_fault v_opened v_bentMany v_bentWrong v_moreWorn v_planned v_allWrong v_allWorn v_z v_wishedField v_isFound v_bestWrong v_bestWorn v_bestMany v_soughtBy v_sought v_soughtAt v_foundMany v_foundOrder v_isKept v_imageRows v_imageColumns v_imageFolded v_imageWronged v_bodies v_ran v_ownKind v_ownNumber v_limit v_changeWas v_changeIs v_shapeRows v_shapeColumns v_row v_column v_below v_face v_worn v_lastBend v_tape v_text v_names v_bends v_high v_to v_pileSize v_planLine v_planWay v_way1 v_bestWay v_order1 v_placeIn v_bodyKind v_trace v_shelf v_many v_items v_carried) → va_S A s.heap H locs → lv_has ls 6 [(0, .ref (a 0)), (1, .int x1), (2, .int x2), (3, .int x3), (4, .int x4), (5, .int x5)] → W p l e (mm_rr d) s m args below meth c H locs 0 0 (mm_Z below D A (wd_X9 cI cL cS cH a v_keptMany v_done v_rowsOf v_columnsOf v_folded v_wronged v_tapeMany v_textMany v_base v_at v_ends v_fault v_opened v_bentMany v_bentWrong v_moreWorn v_planned v_allWrong v_allWorn v_z v_wishedField v_isFound v_bestWrong v_bestWorn v_bestMany v_soughtBy v_sought v_soughtAt v_foundMany v_foundOrder v_isKept v_imageRows v_imageColumns v_imageFolded v_imageWronged v_bodies v_ran v_ownKind v_ownNumber v_limit v_changeWas v_changeIs v_shapeRows v_shapeColumns v_row v_column v_below v_face v_worn v_lastBend v_tape v_text v_names v_bends v_high v_to v_pileSize v_planLine v_planWay v_way1 v_bestWay v_order1 v_placeIn v_bodyKind v_trace v_shelf v_many v_items v_carried) (some (.int r)) args s) (F0 m 6 ls [])) : ∀ (x1 : Int32) (x2 : Int32) (x3 : Int32) (x5 : Int32) (s0 : Int32) (v_rowsOf : Int32) (v_columnsOf : Int32) (v_row : List Int32) (v_column : List Int32) (H : Heap) (locs : List Loc) (ls : Array Slot), fX9_sizeAt_53 N k_6 x1 x2 x3 x5 s0 v_rowsOf v_columnsOf v_row v_column = some r → va_P D mm_cl (wd_X9 cI cL cS cH a v_keptMany v_done v_rowsOf v_columnsOf v_folded v_wronged v_tapeMany v_textMany v_base v_at v_ends v_fault v_opened v_bentMany v_bentWrong v_moreWorn v_planned v_allWrong v_allWorn v_z v_wishedField v_isFound v_bestWrong v_bestWorn v_bestMany v_soughtBy v_sought v_soughtAt v_foundMany v_foundOrder v_isKept v_imageRows v_imageColumns v_imageFolded v_imageWronged v_bodies v_ran v_ownKind v_ownNumber v_limit v_changeWas v_changeIs v_shapeRows v_shapeColumns v_row v_column v_below v_face v_worn v_lastBend v_tape v_text v_names v_bends v_high v_to v_pileSize v_planLine v_planWay v_way1 v_bestWay v_order1 v_placeIn v_bodyKind v_trace v_shelf v_many v_items v_carried) H → va_D A (wd_X9 cI cL cS cH a v_keptMany v_done v_rowsOf v_columnsOf v_folded v_wronged v_tapeMany v_textMany v_base v_at v_ends v_fault v_opened v_bentMany v_bentWrong v_moreWorn v_planned v_allWrong v_allWorn v_z v_wishedField v_isFound v_bestWrong v_bestWorn v_bestMany v_soughtBy v_sought v_soughtAt v_foundMany v_foundOrder v_isKept v_imageRows v_imageColumns v_imageFolded v_imageWronged v_bodies v_ran v_ownKind v_ownNumber v_limit v_changeWas v_changeIs v_shapeRows v_shapeColumns v_row v_column v_below v_face v_worn v_lastBend v_tape v_text v_names v_bends v_high v_to v_pileSize v_planLine v_planWay v_way1 v_bestWay v_order1 v_placeIn v_bodyKind v_trace v_shelf v_many v_items v_carried) → va_S A s.heap H locs → lv_has ls 6 [(0, .ref (a 0)), (1, .int x1), (2, .int x2), (3, .int x3), (5, .int x5)] → W p l e (mm_rr d) s m args below meth c H locs 0 0 (mm_Z below D A (wd_X9 cI cL cS cH a v_keptMany v_done v_rowsOf v_columnsOf v_folded v_wronged v_tapeMany v_textMany v_base v_at v_ends v_fault v_opened v_bentMany v_bentWrong v_moreWorn v_planned v_allWrong v_allWorn v_z v_wishedField v_isFound v_bestWrong v_bestWorn v_bestMany v_soughtBy v_sought v_soughtAt v_foundMany v_foundOrder v_isKept v_imageRows v_imageColumns v_imageFolded v_imageWronged v_bodies v_ran v_ownKind v_ownNumber v_limit v_changeWas v_changeIs v_shapeRows v_shapeColumns v_row v_column v_below v_face v_worn v_lastBend v_tape v_text v_names v_bends v_high v_to v_pileSize v_planLine v_planWay v_way1 v_bestWay v_order1 v_placeIn v_bodyKind v_trace v_shelf v_many v_items v_carried) (some (.int r)) args s) (F0 m 53 ls [.int s0]) := by
  obtain ⟨hx, hb, hml, hown, hts, hr, hlocks, hK, hSt⟩ := id C0
  intro x1 x2 x3 x5 s0 v_rowsOf v_columnsOf v_row v_column H locs ls hf hP hD hS hl
  unfold fX9_sizeAt_53 at hf
  refine lv_iconst (v := 0) hx hb dX9_sizeAt_53 (by decide) ?_
  exact tX9_sizeAt_54 hd C0 hA N hk_6 _ _ _ _ _ _ _ _ _ _ H locs ls hf hP hD hS (lv_sub hl [0, 1, 2, 3, 4] rfl)

def fX9_sizeAt_6 (N : Nat)  : Nat → Int32 → Int32 → Int32 → Int32 → Int32 → Int32 → Int32 → List Int32 → List Int32 → Option (Int32)
  | 0 => fun _ _ _ _ _ _ _ _ _ => none
  | n + 1 => fun x1 x2 x3 x4 x5 v_rowsOf v_columnsOf v_row v_column =>
    mm_bd1 (fX9_fields N v_rowsOf v_columnsOf) (fun (r_1 : Int32) =>
    if r_1 ≤ x5 then
    (some (x4))
    else (mm_ck (mm_inb (((32 : Int32) * x1) + x5) v_row.length) (if (mm_ig v_row (((32 : Int32) * x1) + x5)) = x2 then
    (mm_ck (mm_inb (((32 : Int32) * x1) + x5) v_column.length) (if (mm_ig v_column (((32 : Int32) * x1) + x5)) = x3 then
    (fX9_sizeAt_54 N (fX9_sizeAt_6 N n) x1 x2 x3 x5 (1 : Int32) x4 v_rowsOf v_columnsOf v_row v_column)
    else (fX9_sizeAt_53 N (fX9_sizeAt_6 N n) x1 x2 x3 x5 x4 v_rowsOf v_columnsOf v_row v_column)))
    else (fX9_sizeAt_53 N (fX9_sizeAt_6 N n) x1 x2 x3 x5 x4 v_rowsOf v_columnsOf v_row v_column))))

set_option maxHeartbeats 4000000 in
set_option maxRecDepth 100000 in
theorem tX9_sizeAt_6 {p : Program} {l : Launch} {e : Env} {s : State} {m : MethodId} {args : Array Value} {below : List Frame} {meth : Method} {c : Code} {D : va_G} {cI cL cS cH : ClassId} {A : Nat → Prop} {d : Nat} {a : Nat → Nat} (hd : 2 ≤ d) (C0 : mm_Cx p s m args meth c RX9 cX9_sizeAt 6 (some .int) D (mm_T cI cL cS cH) A) (hA : ∀ q, s.heap.size ≤ q → A q) {v_keptMany : Int32} {v_done : Int32} {v_folded : Int32} {v_wronged : Int32} {v_tapeMany : Int32} {v_textMany : Int32} {v_base : Int32} {v_at : Int32} {v_ends : Int32} {v_fault : Int32} {v_opened : Int32} {v_bentMany : Int32} {v_bentWrong : Int32} {v_moreWorn : Int32} {v_planned : Int32} {v_allWrong : Int32} {v_allWorn : Int32} {v_z : Int32} {v_wishedField : Int32} {v_isFound : Bool} {v_bestWrong : Int32} {v_bestWorn : Int32} {v_bestMany : Int32} {v_soughtBy : Int32} {v_sought : Int32} {v_soughtAt : Int32} {v_foundMany : Int32} {v_foundOrder : Int32} {v_isKept : Bool} {v_imageRows : Int32} {v_imageColumns : Int32} {v_imageFolded : Int32} {v_imageWronged : Int32} {v_bodies : Int32} {v_ran : Int32} {v_ownKind : Int32} {v_ownNumber : Int32} {v_limit : List Int32} {v_changeWas : List Int32} {v_changeIs : List Int32} {v_shapeRows : List Int32} {v_shapeColumns : List Int32} {v_below : List Int32} {v_face : List Int32} {v_worn : List Int32} {v_lastBend : List Int32} {v_tape : List Int32} {v_text : List Int32} {v_names : List Int32} {v_bends : List Int32} {v_high : List Int32} {v_to : List Int32} {v_pileSize : List Int32} {v_planLine : List Int32} {v_planWay : List Int32} {v_way1 : List Int32} {v_bestWay : List Int32} {v_order1 : List Int32} {v_placeIn : List Int32} {v_bodyKind : List Int32} {v_trace : List Int32} {v_shelf : List Int32} {v_many : List Int32} {v_items : List Int64} {v_carried : List Int64} {r : Int32} (N : Nat)  : ∀ (n : Nat), ∀ (x1 : Int32) (x2 : Int32) (x3 : Int32) (x4 : Int32) (x5 : Int32) (v_rowsOf : Int32) (v_columnsOf : Int32) (v_row : List Int32) (v_column : List Int32) (H : Heap) (locs : List Loc) (ls : Array Slot), fX9_sizeAt_6 N n x1 x2 x3 x4 x5 v_rowsOf v_columnsOf v_row v_column = some r → va_P D mm_cl (wd_X9 cI cL cS cH a v_keptMany v_done v_rowsOf v_columnsOf v_folded v_wronged v_tapeMany v_textMany v_base v_at v_ends v_fault v_opened v_bentMany v_bentWrong v_moreWorn v_planned v_allWrong v_allWorn v_z v_wishedField v_isFound v_bestWrong v_bestWorn v_bestMany v_soughtBy v_sought v_soughtAt v_foundMany v_foundOrder v_isKept v_imageRows v_imageColumns v_imageFolded v_imageWronged v_bodies v_ran v_ownKind v_ownNumber v_limit v_changeWas v_changeIs v_shapeRows v_shapeColumns v_row v_column v_below v_face v_worn v_lastBend v_tape v_text v_names v_bends v_high v_to v_pileSize v_planLine v_planWay v_way1 v_bestWay v_order1 v_placeIn v_bodyKind v_trace v_shelf v_many v_items v_carried) H → va_D A (wd_X9 cI cL cS cH a v_keptMany v_done v_rowsOf v_columnsOf v_folded v_wronged v_tapeMany v_textMany v_base v_at v_ends v_fault v_opened v_bentMany v_bentWrong v_moreWorn v_planned v_allWrong v_allWorn v_z v_wishedField v_isFound v_bestWrong v_bestWorn v_bestMany v_soughtBy v_sought v_soughtAt v_foundMany v_foundOrder v_isKept v_imageRows v_imageColumns v_imageFolded v_imageWronged v_bodies v_ran v_ownKind v_ownNumber v_limit v_changeWas v_changeIs v_shapeRows v_shapeColumns v_row v_column v_below v_face v_worn v_lastBend v_tape v_text v_names v_bends v_high v_to v_pileSize v_planLine v_planWay v_way1 v_bestWay v_order1 v_placeIn v_bodyKind v_trace v_shelf v_many v_items v_carried) → va_S A s.heap H locs → lv_has ls 6 [(0, .ref (a 0)), (1, .int x1), (2, .int x2), (3, .int x3), (4, .int x4), (5, .int x5)] → W p l e (mm_rr d) s m args below meth c H locs 0 0 (mm_Z below D A (wd_X9 cI cL cS cH a v_keptMany v_done v_rowsOf v_columnsOf v_folded v_wronged v_tapeMany v_textMany v_base v_at v_ends v_fault v_opened v_bentMany v_bentWrong v_moreWorn v_planned v_allWrong v_allWorn v_z v_wishedField v_isFound v_bestWrong v_bestWorn v_bestMany v_soughtBy v_sought v_soughtAt v_foundMany v_foundOrder v_isKept v_imageRows v_imageColumns v_imageFolded v_imageWronged v_bodies v_ran v_ownKind v_ownNumber v_limit v_changeWas v_changeIs v_shapeRows v_shapeColumns v_row v_column v_below v_face v_worn v_lastBend v_tape v_text v_names v_bends v_high v_to v_pileSize v_planLine v_planWay v_way1 v_bestWay v_order1 v_placeIn v_bodyKind v_trace v_shelf v_many v_items v_carried) (some (.int r)) args s) (F0 m 6 ls []) := by
  obtain ⟨hx, hb, hml, hown, hts, hr, hlocks, hK, hSt⟩ := id C0
  intro n
  induction n with
  | zero =>
    intro x1 x2 x3 x4 x5 v_rowsOf v_columnsOf v_row v_column H locs ls hf
    cases (show none = some _ from hf)
  | succ n ih =>
    intro x1 x2 x3 x4 x5 v_rowsOf v_columnsOf v_row v_column H locs ls hf hP hD hS hl
    unfold fX9_sizeAt_6 at hf
    refine lv_iload hx hb dX9_sizeAt_6 (lv_at hl 5 rfl) ?_
    refine lv_aload_n hx hb dX9_sizeAt_8 rfl (lv_at hl 0 rfl) ?_
    obtain ⟨r_1, hc_2, hf⟩ := mm_bd1s hf
    refine mm_callVF (q0 := 0) (ci := 9) (rest := [.int x5]) C0 lk_X9_127 (ctX9_fields (a := a) (d := d - 1) (by omega) hc_2) (by omega) rfl hl.1 rfl (mm_cat rfl) dX9_sizeAt_9 hP hD hA hS rfl rfl (fun H locs hP hD hS => ?_)
    refine W.eq (g2 := F0 m 12 ls [.int r_1, .int x5]) rfl ?_
    refine lv_icmp_ge (tgt := 63) hx hb dX9_sizeAt_12 (by decide) (fun c_3 => ?_) (fun c_3 => ?_)
    · have hf := mm_ip hf c_3
      refine lv_iload hx hb dX9_sizeAt_63 (lv_at hl 4 rfl) ?_
      obtain rfl := mm_inj1 hf
      exact mm_iret C0 hP hD hS dX9_sizeAt_65
    · have hf := mm_in hf c_3
      refine lv_iload hx hb dX9_sizeAt_15 (lv_at hl 4 rfl) ?_
      refine lv_aload_n hx hb dX9_sizeAt_17 rfl (lv_at hl 0 rfl) ?_
      refine mm_get C0 hP iw_X9 0 rfl rfl 9 (by decide) fl_X9_25 rfl dX9_sizeAt_18 ?_
      refine lv_bipush (v := 32) hx hb dX9_sizeAt_21 (by decide) ?_
      refine lv_iload_n hx hb dX9_sizeAt_23 rfl (lv_at hl 1 rfl) ?_
      refine lv_imul hx hb dX9_sizeAt_24 ?_
      refine lv_iload hx hb dX9_sizeAt_25 (lv_at hl 5 rfl) ?_
      refine lv_iadd hx hb dX9_sizeAt_27 ?_
      obtain ⟨h_4, hf⟩ := mm_cks hf
      refine mm_iald C0 hP 6 rfl h_4 dX9_sizeAt_28 ?_
      refine lv_iload_n hx hb dX9_sizeAt_29 rfl (lv_at hl 2 rfl) ?_
      refine lv_icmp_ne (tgt := 53) hx hb dX9_sizeAt_30 (by decide) (fun c_5 => ?_) (fun c_5 => ?_)
      · have hf := mm_in hf c_5
        exact tX9_sizeAt_53 hd C0 hA N ih _ _ _ _ _ _ _ _ _ H locs ls hf hP hD hS (lv_sub hl [0, 1, 2, 3, 5] rfl)
      · have hf := mm_ip hf c_5
        refine lv_aload_n hx hb dX9_sizeAt_33 rfl (lv_at hl 0 rfl) ?_
        refine mm_get C0 hP iw_X9 0 rfl rfl 10 (by decide) fl_X9_28 rfl dX9_sizeAt_34 ?_
        refine lv_bipush (v := 32) hx hb dX9_sizeAt_37 (by decide) ?_
        refine lv_iload_n hx hb dX9_sizeAt_39 rfl (lv_at hl 1 rfl) ?_
        refine lv_imul hx hb dX9_sizeAt_40 ?_
        refine lv_iload hx hb dX9_sizeAt_41 (lv_at hl 5 rfl) ?_
        refine lv_iadd hx hb dX9_sizeAt_43 ?_
        obtain ⟨h_6, hf⟩ := mm_cks hf
        refine mm_iald C0 hP 7 rfl h_6 dX9_sizeAt_44 ?_
        refine lv_iload_n hx hb dX9_sizeAt_45 rfl (lv_at hl 3 rfl) ?_
        refine lv_icmp_ne (tgt := 53) hx hb dX9_sizeAt_46 (by decide) (fun c_7 => ?_) (fun c_7 => ?_)
        · have hf := mm_in hf c_7
          exact tX9_sizeAt_53 hd C0 hA N ih _ _ _ _ _ _ _ _ _ H locs ls hf hP hD hS (lv_sub hl [0, 1, 2, 3, 5] rfl)
        · have hf := mm_ip hf c_7
          refine lv_iconst (v := 1) hx hb dX9_sizeAt_49 (by decide) ?_
          refine lv_goto (tgt := 54) hx hb dX9_sizeAt_50 (by decide) ?_
          exact tX9_sizeAt_54 hd C0 hA N ih _ _ _ _ _ _ _ _ _ _ H locs ls hf hP hD hS (lv_sub hl [0, 1, 2, 3, 5] rfl)

def fX9_sizeAt (N : Nat) (x1 : Int32) (x2 : Int32) (x3 : Int32) (v_rowsOf : Int32) (v_columnsOf : Int32) (v_row : List Int32) (v_column : List Int32) : Option (Int32) :=
    fX9_sizeAt_6 N N x1 x2 x3 (0 : Int32) (0 : Int32) v_rowsOf v_columnsOf v_row v_column

set_option maxHeartbeats 4000000 in
set_option maxRecDepth 100000 in
theorem ctX9_sizeAt {l : Launch} {D : va_G} {cI cL cS cH : ClassId} {a : Nat → Nat} {x1 : Int32} {x2 : Int32} {x3 : Int32} {v_keptMany : Int32} {v_done : Int32} {v_rowsOf : Int32} {v_columnsOf : Int32} {v_folded : Int32} {v_wronged : Int32} {v_tapeMany : Int32} {v_textMany : Int32} {v_base : Int32} {v_at : Int32} {v_ends : Int32} {v_fault : Int32} {v_opened : Int32} {v_bentMany : Int32} {v_bentWrong : Int32} {v_moreWorn : Int32} {v_planned : Int32} {v_allWrong : Int32} {v_allWorn : Int32} {v_z : Int32} {v_wishedField : Int32} {v_isFound : Bool} {v_bestWrong : Int32} {v_bestWorn : Int32} {v_bestMany : Int32} {v_soughtBy : Int32} {v_sought : Int32} {v_soughtAt : Int32} {v_foundMany : Int32} {v_foundOrder : Int32} {v_isKept : Bool} {v_imageRows : Int32} {v_imageColumns : Int32} {v_imageFolded : Int32} {v_imageWronged : Int32} {v_bodies : Int32} {v_ran : Int32} {v_ownKind : Int32} {v_ownNumber : Int32} {v_limit : List Int32} {v_changeWas : List Int32} {v_changeIs : List Int32} {v_shapeRows : List Int32} {v_shapeColumns : List Int32} {v_row : List Int32} {v_column : List Int32} {v_below : List Int32} {v_face : List Int32} {v_worn : List Int32} {v_lastBend : List Int32} {v_tape : List Int32} {v_text : List Int32} {v_names : List Int32} {v_bends : List Int32} {v_high : List Int32} {v_to : List Int32} {v_pileSize : List Int32} {v_planLine : List Int32} {v_planWay : List Int32} {v_way1 : List Int32} {v_bestWay : List Int32} {v_order1 : List Int32} {v_placeIn : List Int32} {v_bodyKind : List Int32} {v_trace : List Int32} {v_shelf : List Int32} {v_many : List Int32} {v_items : List Int64} {v_carried : List Int64} {r : Int32} {N d : Nat} (hd : 2 ≤ d) (hf : fX9_sizeAt N x1 x2 x3 v_rowsOf v_columnsOf v_row v_column = some r) : mm_Ct l yX9_sizeAt cX9_sizeAt 6 (some .int) d D (mm_T cI cL cS cH) [.ref (a 0), .int x1, .int x2, .int x3] (wd_X9 cI cL cS cH a v_keptMany v_done v_rowsOf v_columnsOf v_folded v_wronged v_tapeMany v_textMany v_base v_at v_ends v_fault v_opened v_bentMany v_bentWrong v_moreWorn v_planned v_allWrong v_allWorn v_z v_wishedField v_isFound v_bestWrong v_bestWorn v_bestMany v_soughtBy v_sought v_soughtAt v_foundMany v_foundOrder v_isKept v_imageRows v_imageColumns v_imageFolded v_imageWronged v_bodies v_ran v_ownKind v_ownNumber v_limit v_changeWas v_changeIs v_shapeRows v_shapeColumns v_row v_column v_below v_face v_worn v_lastBend v_tape v_text v_names v_bends v_high v_to v_pileSize v_planLine v_planWay v_way1 v_bestWay v_order1 v_placeIn v_bodyKind v_trace v_shelf v_many v_items v_carried) (wd_X9 cI cL cS cH a v_keptMany v_done v_rowsOf v_columnsOf v_folded v_wronged v_tapeMany v_textMany v_base v_at v_ends v_fault v_opened v_bentMany v_bentWrong v_moreWorn v_planned v_allWrong v_allWorn v_z v_wishedField v_isFound v_bestWrong v_bestWorn v_bestMany v_soughtBy v_sought v_soughtAt v_foundMany v_foundOrder v_isKept v_imageRows v_imageColumns v_imageFolded v_imageWronged v_bodies v_ran v_ownKind v_ownNumber v_limit v_changeWas v_changeIs v_shapeRows v_shapeColumns v_row v_column v_below v_face v_worn v_lastBend v_tape v_text v_names v_bends v_high v_to v_pileSize v_planLine v_planWay v_way1 v_bestWay v_order1 v_placeIn v_bodyKind v_trace v_shelf v_many v_items v_carried) (some (.int r)) := by
  refine mm_of (by decide) (Nat.le_of_ble_eq_true rfl) ?_
  intro p e s m args below meth c A H locs ls C0 hP hD hA hS hl
  have C0 : mm_Cx p s m args meth c RX9 cX9_sizeAt 6 (some .int) D (mm_T cI cL cS cH) A := C0
  obtain ⟨hx, hb, hml, hown, hts, hr, hlocks, hK, hSt⟩ := id C0
  have hl : lv_has ls 6 [(0, .ref (a 0)), (1, .int x1), (2, .int x2), (3, .int x3)] := hl
  unfold fX9_sizeAt at hf
  refine lv_iconst (v := 0) hx hb dX9_sizeAt_0 (by decide) ?_
  refine lv_istore (lv' := [(4, .int (0 : Int32)), (0, .ref (a 0)), (1, .int x1), (2, .int x2), (3, .int x3)]) hx hb dX9_sizeAt_1 hl (by decide) rfl (fun ls hl => ?_)
  refine lv_iconst (v := 0) hx hb dX9_sizeAt_3 (by decide) ?_
  refine lv_istore (lv' := [(5, .int (0 : Int32)), (4, .int (0 : Int32)), (0, .ref (a 0)), (1, .int x1), (2, .int x2), (3, .int x3)]) hx hb dX9_sizeAt_4 hl (by decide) rfl (fun ls hl => ?_)
  exact tX9_sizeAt_6 hd C0 hA N  N _ _ _ _ _ _ _ _ _ H locs ls hf hP hD hS (lv_sub hl [2, 3, 4, 5, 1, 0] rfl)

theorem nb_dX9_fieldAt_0 : bls_w cX9_fieldAt [(0, [3]), (1, [54, 5]), (3, [21, 5]), (5, [42]), (6, [182, 0, 127]), (9, [162, 0, 55]), (12, [16, 32]), (14, [27]), (15, [104]), (16, [21, 5]), (18, [96]), (19, [54, 6])] := bls_of (by decide +kernel)
theorem dX9_fieldAt_0 : decode cX9_fieldAt 0 = .ok (.iconst 0, 1) := op_3 nb_dX9_fieldAt_0.1
set_option maxRecDepth 100000 in
theorem dX9_fieldAt_1 : decode cX9_fieldAt 1 = .ok (.istore 5, 2) := (op_54 nb_dX9_fieldAt_0.2.1).trans rfl
set_option maxRecDepth 100000 in
theorem dX9_fieldAt_3 : decode cX9_fieldAt 3 = .ok (.iload 5, 2) := (op_21 nb_dX9_fieldAt_0.2.2.1).trans rfl
theorem dX9_fieldAt_5 : decode cX9_fieldAt 5 = .ok (.aload_n 0, 1) := op_42 nb_dX9_fieldAt_0.2.2.2.1
set_option maxRecDepth 100000 in
theorem dX9_fieldAt_6 : decode cX9_fieldAt 6 = .ok (.invokevirtual 127, 3) := (op_182 nb_dX9_fieldAt_0.2.2.2.2.1).trans rfl
set_option maxRecDepth 100000 in
theorem dX9_fieldAt_9 : decode cX9_fieldAt 9 = .ok (.if_icmp .ge 55, 3) := (op_162 nb_dX9_fieldAt_0.2.2.2.2.2.1).trans rfl
set_option maxRecDepth 100000 in
theorem dX9_fieldAt_12 : decode cX9_fieldAt 12 = .ok (.bipush 32, 2) := (op_16 nb_dX9_fieldAt_0.2.2.2.2.2.2.1).trans rfl
theorem dX9_fieldAt_14 : decode cX9_fieldAt 14 = .ok (.iload_n 1, 1) := op_27 nb_dX9_fieldAt_0.2.2.2.2.2.2.2.1
theorem dX9_fieldAt_15 : decode cX9_fieldAt 15 = .ok (.imul, 1) := op_104 nb_dX9_fieldAt_0.2.2.2.2.2.2.2.2.1
set_option maxRecDepth 100000 in
theorem dX9_fieldAt_16 : decode cX9_fieldAt 16 = .ok (.iload 5, 2) := (op_21 nb_dX9_fieldAt_0.2.2.2.2.2.2.2.2.2.1).trans rfl
theorem dX9_fieldAt_18 : decode cX9_fieldAt 18 = .ok (.iadd, 1) := op_96 nb_dX9_fieldAt_0.2.2.2.2.2.2.2.2.2.2.1
set_option maxRecDepth 100000 in
theorem dX9_fieldAt_19 : decode cX9_fieldAt 19 = .ok (.istore 6, 2) := (op_54 nb_dX9_fieldAt_0.2.2.2.2.2.2.2.2.2.2.2.1).trans rfl
theorem nb_dX9_fieldAt_21 : bls_w cX9_fieldAt [(21, [42]), (22, [180, 0, 25]), (25, [21, 6]), (27, [46]), (28, [28]), (29, [160, 0, 29]), (32, [42]), (33, [180, 0, 28]), (36, [21, 6]), (38, [46]), (39, [29]), (40, [160, 0, 18])] := bls_of (by decide +kernel)
theorem dX9_fieldAt_21 : decode cX9_fieldAt 21 = .ok (.aload_n 0, 1) := op_42 nb_dX9_fieldAt_21.1
set_option maxRecDepth 100000 in
theorem dX9_fieldAt_22 : decode cX9_fieldAt 22 = .ok (.getfield 25, 3) := (op_180 nb_dX9_fieldAt_21.2.1).trans rfl
set_option maxRecDepth 100000 in
theorem dX9_fieldAt_25 : decode cX9_fieldAt 25 = .ok (.iload 6, 2) := (op_21 nb_dX9_fieldAt_21.2.2.1).trans rfl
theorem dX9_fieldAt_27 : decode cX9_fieldAt 27 = .ok (.iaload, 1) := op_46 nb_dX9_fieldAt_21.2.2.2.1
theorem dX9_fieldAt_28 : decode cX9_fieldAt 28 = .ok (.iload_n 2, 1) := op_28 nb_dX9_fieldAt_21.2.2.2.2.1
set_option maxRecDepth 100000 in
theorem dX9_fieldAt_29 : decode cX9_fieldAt 29 = .ok (.if_icmp .ne 29, 3) := (op_160 nb_dX9_fieldAt_21.2.2.2.2.2.1).trans rfl
theorem dX9_fieldAt_32 : decode cX9_fieldAt 32 = .ok (.aload_n 0, 1) := op_42 nb_dX9_fieldAt_21.2.2.2.2.2.2.1
set_option maxRecDepth 100000 in
theorem dX9_fieldAt_33 : decode cX9_fieldAt 33 = .ok (.getfield 28, 3) := (op_180 nb_dX9_fieldAt_21.2.2.2.2.2.2.2.1).trans rfl
set_option maxRecDepth 100000 in
theorem dX9_fieldAt_36 : decode cX9_fieldAt 36 = .ok (.iload 6, 2) := (op_21 nb_dX9_fieldAt_21.2.2.2.2.2.2.2.2.1).trans rfl
theorem dX9_fieldAt_38 : decode cX9_fieldAt 38 = .ok (.iaload, 1) := op_46 nb_dX9_fieldAt_21.2.2.2.2.2.2.2.2.2.1
theorem dX9_fieldAt_39 : decode cX9_fieldAt 39 = .ok (.iload_n 3, 1) := op_29 nb_dX9_fieldAt_21.2.2.2.2.2.2.2.2.2.2.1
set_option maxRecDepth 100000 in
theorem dX9_fieldAt_40 : decode cX9_fieldAt 40 = .ok (.if_icmp .ne 18, 3) := (op_160 nb_dX9_fieldAt_21.2.2.2.2.2.2.2.2.2.2.2.1).trans rfl
theorem nb_dX9_fieldAt_43 : bls_w cX9_fieldAt [(43, [42]), (44, [180, 0, 31]), (47, [21, 6]), (49, [46]), (50, [21, 4]), (52, [160, 0, 6]), (55, [21, 5]), (57, [172]), (58, [132, 5, 1]), (61, [167, 255, 198]), (64, [2]), (65, [172])] := bls_of (by decide +kernel)
theorem dX9_fieldAt_43 : decode cX9_fieldAt 43 = .ok (.aload_n 0, 1) := op_42 nb_dX9_fieldAt_43.1
set_option maxRecDepth 100000 in
theorem dX9_fieldAt_44 : decode cX9_fieldAt 44 = .ok (.getfield 31, 3) := (op_180 nb_dX9_fieldAt_43.2.1).trans rfl
set_option maxRecDepth 100000 in
theorem dX9_fieldAt_47 : decode cX9_fieldAt 47 = .ok (.iload 6, 2) := (op_21 nb_dX9_fieldAt_43.2.2.1).trans rfl
theorem dX9_fieldAt_49 : decode cX9_fieldAt 49 = .ok (.iaload, 1) := op_46 nb_dX9_fieldAt_43.2.2.2.1
set_option maxRecDepth 100000 in
theorem dX9_fieldAt_50 : decode cX9_fieldAt 50 = .ok (.iload 4, 2) := (op_21 nb_dX9_fieldAt_43.2.2.2.2.1).trans rfl
set_option maxRecDepth 100000 in
theorem dX9_fieldAt_52 : decode cX9_fieldAt 52 = .ok (.if_icmp .ne 6, 3) := (op_160 nb_dX9_fieldAt_43.2.2.2.2.2.1).trans rfl
set_option maxRecDepth 100000 in
theorem dX9_fieldAt_55 : decode cX9_fieldAt 55 = .ok (.iload 5, 2) := (op_21 nb_dX9_fieldAt_43.2.2.2.2.2.2.1).trans rfl
theorem dX9_fieldAt_57 : decode cX9_fieldAt 57 = .ok (.ireturn, 1) := op_172 nb_dX9_fieldAt_43.2.2.2.2.2.2.2.1
set_option maxRecDepth 100000 in
theorem dX9_fieldAt_58 : decode cX9_fieldAt 58 = .ok (.iinc 5 1, 3) := (op_132 nb_dX9_fieldAt_43.2.2.2.2.2.2.2.2.1).trans rfl
set_option maxRecDepth 100000 in
theorem dX9_fieldAt_61 : decode cX9_fieldAt 61 = .ok (.goto (-58), 3) := (op_167 nb_dX9_fieldAt_43.2.2.2.2.2.2.2.2.2.1).trans rfl
theorem dX9_fieldAt_64 : decode cX9_fieldAt 64 = .ok (.iconst (-1), 1) := op_2 nb_dX9_fieldAt_43.2.2.2.2.2.2.2.2.2.2.1
theorem dX9_fieldAt_65 : decode cX9_fieldAt 65 = .ok (.ireturn, 1) := op_172 nb_dX9_fieldAt_43.2.2.2.2.2.2.2.2.2.2.2.1
def fX9_fieldAt_58 (N : Nat) (k_3 : Int32 → Int32 → Int32 → Int32 → Int32 → Int32 → Int32 → List Int32 → List Int32 → List Int32 → Option (Int32)) (x1 : Int32) (x2 : Int32) (x3 : Int32) (x4 : Int32) (x5 : Int32) (v_rowsOf : Int32) (v_columnsOf : Int32) (v_row : List Int32) (v_column : List Int32) (v_below : List Int32) : Option (Int32) :=
    mm_nm (x5 + (1 : Int32)) (fun (y_11 : Int32) =>
    k_3 x1 x2 x3 x4 y_11 v_rowsOf v_columnsOf v_row v_column v_below)

set_option maxHeartbeats 4000000 in
set_option maxRecDepth 100000 in
theorem tX9_fieldAt_58 {p : Program} {l : Launch} {e : Env} {s : State} {m : MethodId} {args : Array Value} {below : List Frame} {meth : Method} {c : Code} {D : va_G} {cI cL cS cH : ClassId} {A : Nat → Prop} {d : Nat} {a : Nat → Nat} (hd : 2 ≤ d) (C0 : mm_Cx p s m args meth c RX9 cX9_fieldAt 7 (some .int) D (mm_T cI cL cS cH) A) (hA : ∀ q, s.heap.size ≤ q → A q) {v_keptMany : Int32} {v_done : Int32} {v_folded : Int32} {v_wronged : Int32} {v_tapeMany : Int32} {v_textMany : Int32} {v_base : Int32} {v_at : Int32} {v_ends : Int32} {v_fault : Int32} {v_opened : Int32} {v_bentMany : Int32} {v_bentWrong : Int32} {v_moreWorn : Int32} {v_planned : Int32} {v_allWrong : Int32} {v_allWorn : Int32} {v_z : Int32} {v_wishedField : Int32} {v_isFound : Bool} {v_bestWrong : Int32} {v_bestWorn : Int32} {v_bestMany : Int32} {v_soughtBy : Int32} {v_sought : Int32} {v_soughtAt : Int32} {v_foundMany : Int32} {v_foundOrder : Int32} {v_isKept : Bool} {v_imageRows : Int32} {v_imageColumns : Int32} {v_imageFolded : Int32} {v_imageWronged : Int32} {v_bodies : Int32} {v_ran : Int32} {v_ownKind : Int32} {v_ownNumber : Int32} {v_limit : List Int32} {v_changeWas : List Int32} {v_changeIs : List Int32} {v_shapeRows : List Int32} {v_shapeColumns : List Int32} {v_face : List Int32} {v_worn : List Int32} {v_lastBend : List Int32} {v_tape : List Int32} {v_text : List Int32} {v_names : List Int32} {v_bends : List Int32} {v_high : List Int32} {v_to : List Int32} {v_pileSize : List Int32} {v_planLine : List Int32} {v_planWay : List Int32} {v_way1 : List Int32} {v_bestWay : List Int32} {v_order1 : List Int32} {v_placeIn : List Int32} {v_bodyKind : List Int32} {v_trace : List Int32} {v_shelf : List Int32} {v_many : List Int32} {v_items : List Int64} {v_carried : List Int64} {r : Int32} (N : Nat) {k_3 : Int32 → Int32 → Int32 → Int32 → Int32 → Int32 → Int32 → List Int32 → List Int32 → List Int32 → Option (Int32)} (hk_3 : ∀ (x1 : Int32) (x2 : Int32) (x3 : Int32) (x4 : Int32) (x5 : Int32) (v_rowsOf : Int32) (v_columnsOf : Int32) (v_row : List Int32) (v_column : List Int32) (v_below : List Int32) (H : Heap) (locs : List Loc) (ls : Array Slot), k_3 x1 x2 x3 x4 x5 v_rowsOf v_columnsOf v_row v_column v_below = some r → va_P D mm_cl (wd_X9 cI cL cS cH a v_keptMany v_done v_rowsOf v_columnsOf v_folded v_wronged v_tapeMany v_textMany v_base v_at v_ends v_fault v_opened v_bentMany v_bentWrong v_moreWorn v_planned v_allWrong v_allWorn v_z v_wishedField v_isFound v_bestWrong v_bestWorn v_bestMany v_soughtBy v_sought v_soughtAt v_foundMany v_foundOrder v_isKept v_imageRows v_imageColumns v_imageFolded v_imageWronged v_bodies v_ran v_ownKind v_ownNumber v_limit v_changeWas v_changeIs v_shapeRows v_shapeColumns v_row v_column v_below v_face v_worn v_lastBend v_tape v_text v_names v_bends v_high v_to v_pileSize v_planLine v_planWay v_way1 v_bestWay v_order1 v_placeIn v_bodyKind v_trace v_shelf v_many v_items v_carried) H → va_D A (wd_X9 cI cL cS cH a v_keptMany v_done v_rowsOf v_columnsOf v_folded v_wronged v_tapeMany v_textMany v_base v_at v_ends v_fault v_opened v_bentMany v_bentWrong v_moreWorn v_planned v_allWrong v_allWorn v_z v_wishedField v_isFound v_bestWrong v_bestWorn v_bestMany v_soughtBy v_sought v_soughtAt v_foundMany v_foundOrder v_isKept v_imageRows v_imageColumns v_imageFolded v_imageWronged v_bodies v_ran v_ownKind v_ownNumber v_limit v_changeWas v_changeIs v_shapeRows v_shapeColumns v_row v_column v_below v_face v_worn v_lastBend v_tape v_text v_names v_bends v_high v_to v_pileSize v_planLine v_planWay v_way1 v_bestWay v_order1 v_placeIn v_bodyKind v_trace v_shelf v_many v_items v_carried) → va_S A s.heap H locs → lv_has ls 7 [(0, .ref (a 0)), (1, .int x1), (2, .int x2), (3, .int x3), (4, .int x4), (5, .int x5)] → W p l e (mm_rr d) s m args below meth c H locs 0 0 (mm_Z below D A (wd_X9 cI cL cS cH a v_keptMany v_done v_rowsOf v_columnsOf v_folded v_wronged v_tapeMany v_textMany v_base v_at v_ends v_fault v_opened v_bentMany v_bentWrong v_moreWorn v_planned v_allWrong v_allWorn v_z v_wishedField v_isFound v_bestWrong v_bestWorn v_bestMany v_soughtBy v_sought v_soughtAt v_foundMany v_foundOrder v_isKept v_imageRows v_imageColumns v_imageFolded v_imageWronged v_bodies v_ran v_ownKind v_ownNumber v_limit v_changeWas v_changeIs v_shapeRows v_shapeColumns v_row v_column v_below v_face v_worn v_lastBend v_tape v_text v_names v_bends v_high v_to v_pileSize v_planLine v_planWay v_way1 v_bestWay v_order1 v_placeIn v_bodyKind v_trace v_shelf v_many v_items v_carried) (some (.int r)) args s) (F0 m 3 ls [])) : ∀ (x1 : Int32) (x2 : Int32) (x3 : Int32) (x4 : Int32) (x5 : Int32) (v_rowsOf : Int32) (v_columnsOf : Int32) (v_row : List Int32) (v_column : List Int32) (v_below : List Int32) (H : Heap) (locs : List Loc) (ls : Array Slot), fX9_fieldAt_58 N k_3 x1 x2 x3 x4 x5 v_rowsOf v_columnsOf v_row v_column v_below = some r → va_P D mm_cl (wd_X9 cI cL cS cH a v_keptMany v_done v_rowsOf v_columnsOf v_folded v_wronged v_tapeMany v_textMany v_base v_at v_ends v_fault v_opened v_bentMany v_bentWrong v_moreWorn v_planned v_allWrong v_allWorn v_z v_wishedField v_isFound v_bestWrong v_bestWorn v_bestMany v_soughtBy v_sought v_soughtAt v_foundMany v_foundOrder v_isKept v_imageRows v_imageColumns v_imageFolded v_imageWronged v_bodies v_ran v_ownKind v_ownNumber v_limit v_changeWas v_changeIs v_shapeRows v_shapeColumns v_row v_column v_below v_face v_worn v_lastBend v_tape v_text v_names v_bends v_high v_to v_pileSize v_planLine v_planWay v_way1 v_bestWay v_order1 v_placeIn v_bodyKind v_trace v_shelf v_many v_items v_carried) H → va_D A (wd_X9 cI cL cS cH a v_keptMany v_done v_rowsOf v_columnsOf v_folded v_wronged v_tapeMany v_textMany v_base v_at v_ends v_fault v_opened v_bentMany v_bentWrong v_moreWorn v_planned v_allWrong v_allWorn v_z v_wishedField v_isFound v_bestWrong v_bestWorn v_bestMany v_soughtBy v_sought v_soughtAt v_foundMany v_foundOrder v_isKept v_imageRows v_imageColumns v_imageFolded v_imageWronged v_bodies v_ran v_ownKind v_ownNumber v_limit v_changeWas v_changeIs v_shapeRows v_shapeColumns v_row v_column v_below v_face v_worn v_lastBend v_tape v_text v_names v_bends v_high v_to v_pileSize v_planLine v_planWay v_way1 v_bestWay v_order1 v_placeIn v_bodyKind v_trace v_shelf v_many v_items v_carried) → va_S A s.heap H locs → lv_has ls 7 [(0, .ref (a 0)), (1, .int x1), (2, .int x2), (3, .int x3), (4, .int x4), (5, .int x5)] → W p l e (mm_rr d) s m args below meth c H locs 0 0 (mm_Z below D A (wd_X9 cI cL cS cH a v_keptMany v_done v_rowsOf v_columnsOf v_folded v_wronged v_tapeMany v_textMany v_base v_at v_ends v_fault v_opened v_bentMany v_bentWrong v_moreWorn v_planned v_allWrong v_allWorn v_z v_wishedField v_isFound v_bestWrong v_bestWorn v_bestMany v_soughtBy v_sought v_soughtAt v_foundMany v_foundOrder v_isKept v_imageRows v_imageColumns v_imageFolded v_imageWronged v_bodies v_ran v_ownKind v_ownNumber v_limit v_changeWas v_changeIs v_shapeRows v_shapeColumns v_row v_column v_below v_face v_worn v_lastBend v_tape v_text v_names v_bends v_high v_to v_pileSize v_planLine v_planWay v_way1 v_bestWay v_order1 v_placeIn v_bodyKind v_trace v_shelf v_many v_items v_carried) (some (.int r)) args s) (F0 m 58 ls []) := by
  obtain ⟨hx, hb, hml, hown, hts, hr, hlocks, hK, hSt⟩ := id C0
  intro x1 x2 x3 x4 x5 v_rowsOf v_columnsOf v_row v_column v_below H locs ls hf hP hD hS hl
  unfold fX9_fieldAt_58 at hf
  obtain ⟨y_11, ey_11⟩ : ∃ z : Int32, z = x5 + (1 : Int32) := ⟨_, rfl⟩
  have hf := mm_nms hf ey_11
  refine lv_iinc (v := y_11) (lv' := [(5, .int y_11), (0, .ref (a 0)), (1, .int x1), (2, .int x2), (3, .int x3), (4, .int x4)]) hx hb dX9_fieldAt_58 hl (k := 5) rfl (by rw [ey_11]; rfl) (by decide) rfl (fun ls hl => ?_)
  refine lv_goto (tgt := 3) hx hb dX9_fieldAt_61 (by decide) ?_
  exact hk_3 _ _ _ _ _ _ _ _ _ _ H locs ls hf hP hD hS (lv_sub hl [1, 2, 3, 4, 5, 0] rfl)

def fX9_fieldAt_3 (N : Nat)  : Nat → Int32 → Int32 → Int32 → Int32 → Int32 → Int32 → Int32 → List Int32 → List Int32 → List Int32 → Option (Int32)
  | 0 => fun _ _ _ _ _ _ _ _ _ _ => none
  | n + 1 => fun x1 x2 x3 x4 x5 v_rowsOf v_columnsOf v_row v_column v_below =>
    mm_bd1 (fX9_fields N v_rowsOf v_columnsOf) (fun (r_1 : Int32) =>
    if r_1 ≤ x5 then
    (some ((-1 : Int32)))
    else (mm_nm ((((32 : Int32) * x1) + x5)) (fun (y_4 : Int32) =>
    mm_ck (mm_inb y_4 v_row.length) (if (mm_ig v_row y_4) = x2 then
    (mm_ck (mm_inb y_4 v_column.length) (if (mm_ig v_column y_4) = x3 then
    (mm_ck (mm_inb y_4 v_below.length) (if (mm_ig v_below y_4) = x4 then
    (some (x5))
    else (fX9_fieldAt_58 N (fX9_fieldAt_3 N n) x1 x2 x3 x4 x5 v_rowsOf v_columnsOf v_row v_column v_below)))
    else (fX9_fieldAt_58 N (fX9_fieldAt_3 N n) x1 x2 x3 x4 x5 v_rowsOf v_columnsOf v_row v_column v_below)))
    else (fX9_fieldAt_58 N (fX9_fieldAt_3 N n) x1 x2 x3 x4 x5 v_rowsOf v_columnsOf v_row v_column v_below)))))

set_option maxHeartbeats 4000000 in
set_option maxRecDepth 100000 in
theorem tX9_fieldAt_3 {p : Program} {l : Launch} {e : Env} {s : State} {m : MethodId} {args : Array Value} {below : List Frame} {meth : Method} {c : Code} {D : va_G} {cI cL cS cH : ClassId} {A : Nat → Prop} {d : Nat} {a : Nat → Nat} (hd : 2 ≤ d) (C0 : mm_Cx p s m args meth c RX9 cX9_fieldAt 7 (some .int) D (mm_T cI cL cS cH) A) (hA : ∀ q, s.heap.size ≤ q → A q) {v_keptMany : Int32} {v_done : Int32} {v_folded : Int32} {v_wronged : Int32} {v_tapeMany : Int32} {v_textMany : Int32} {v_base : Int32} {v_at : Int32} {v_ends : Int32} {v_fault : Int32} {v_opened : Int32} {v_bentMany : Int32} {v_bentWrong : Int32} {v_moreWorn : Int32} {v_planned : Int32} {v_allWrong : Int32} {v_allWorn : Int32} {v_z : Int32} {v_wishedField : Int32} {v_isFound : Bool} {v_bestWrong : Int32} {v_bestWorn : Int32} {v_bestMany : Int32} {v_soughtBy : Int32} {v_sought : Int32} {v_soughtAt : Int32} {v_foundMany : Int32} {v_foundOrder : Int32} {v_isKept : Bool} {v_imageRows : Int32} {v_imageColumns : Int32} {v_imageFolded : Int32} {v_imageWronged : Int32} {v_bodies : Int32} {v_ran : Int32} {v_ownKind : Int32} {v_ownNumber : Int32} {v_limit : List Int32} {v_changeWas : List Int32} {v_changeIs : List Int32} {v_shapeRows : List Int32} {v_shapeColumns : List Int32} {v_face : List Int32} {v_worn : List Int32} {v_lastBend : List Int32} {v_tape : List Int32} {v_text : List Int32} {v_names : List Int32} {v_bends : List Int32} {v_high : List Int32} {v_to : List Int32} {v_pileSize : List Int32} {v_planLine : List Int32} {v_planWay : List Int32} {v_way1 : List Int32} {v_bestWay : List Int32} {v_order1 : List Int32} {v_placeIn : List Int32} {v_bodyKind : List Int32} {v_trace : List Int32} {v_shelf : List Int32} {v_many : List Int32} {v_items : List Int64} {v_carried : List Int64} {r : Int32} (N : Nat)  : ∀ (n : Nat), ∀ (x1 : Int32) (x2 : Int32) (x3 : Int32) (x4 : Int32) (x5 : Int32) (v_rowsOf : Int32) (v_columnsOf : Int32) (v_row : List Int32) (v_column : List Int32) (v_below : List Int32) (H : Heap) (locs : List Loc) (ls : Array Slot), fX9_fieldAt_3 N n x1 x2 x3 x4 x5 v_rowsOf v_columnsOf v_row v_column v_below = some r → va_P D mm_cl (wd_X9 cI cL cS cH a v_keptMany v_done v_rowsOf v_columnsOf v_folded v_wronged v_tapeMany v_textMany v_base v_at v_ends v_fault v_opened v_bentMany v_bentWrong v_moreWorn v_planned v_allWrong v_allWorn v_z v_wishedField v_isFound v_bestWrong v_bestWorn v_bestMany v_soughtBy v_sought v_soughtAt v_foundMany v_foundOrder v_isKept v_imageRows v_imageColumns v_imageFolded v_imageWronged v_bodies v_ran v_ownKind v_ownNumber v_limit v_changeWas v_changeIs v_shapeRows v_shapeColumns v_row v_column v_below v_face v_worn v_lastBend v_tape v_text v_names v_bends v_high v_to v_pileSize v_planLine v_planWay v_way1 v_bestWay v_order1 v_placeIn v_bodyKind v_trace v_shelf v_many v_items v_carried) H → va_D A (wd_X9 cI cL cS cH a v_keptMany v_done v_rowsOf v_columnsOf v_folded v_wronged v_tapeMany v_textMany v_base v_at v_ends v_fault v_opened v_bentMany v_bentWrong v_moreWorn v_planned v_allWrong v_allWorn v_z v_wishedField v_isFound v_bestWrong v_bestWorn v_bestMany v_soughtBy v_sought v_soughtAt v_foundMany v_foundOrder v_isKept v_imageRows v_imageColumns v_imageFolded v_imageWronged v_bodies v_ran v_ownKind v_ownNumber v_limit v_changeWas v_changeIs v_shapeRows v_shapeColumns v_row v_column v_below v_face v_worn v_lastBend v_tape v_text v_names v_bends v_high v_to v_pileSize v_planLine v_planWay v_way1 v_bestWay v_order1 v_placeIn v_bodyKind v_trace v_shelf v_many v_items v_carried) → va_S A s.heap H locs → lv_has ls 7 [(0, .ref (a 0)), (1, .int x1), (2, .int x2), (3, .int x3), (4, .int x4), (5, .int x5)] → W p l e (mm_rr d) s m args below meth c H locs 0 0 (mm_Z below D A (wd_X9 cI cL cS cH a v_keptMany v_done v_rowsOf v_columnsOf v_folded v_wronged v_tapeMany v_textMany v_base v_at v_ends v_fault v_opened v_bentMany v_bentWrong v_moreWorn v_planned v_allWrong v_allWorn v_z v_wishedField v_isFound v_bestWrong v_bestWorn v_bestMany v_soughtBy v_sought v_soughtAt v_foundMany v_foundOrder v_isKept v_imageRows v_imageColumns v_imageFolded v_imageWronged v_bodies v_ran v_ownKind v_ownNumber v_limit v_changeWas v_changeIs v_shapeRows v_shapeColumns v_row v_column v_below v_face v_worn v_lastBend v_tape v_text v_names v_bends v_high v_to v_pileSize v_planLine v_planWay v_way1 v_bestWay v_order1 v_placeIn v_bodyKind v_trace v_shelf v_many v_items v_carried) (some (.int r)) args s) (F0 m 3 ls []) := by
  obtain ⟨hx, hb, hml, hown, hts, hr, hlocks, hK, hSt⟩ := id C0
  intro n
  induction n with
  | zero =>
    intro x1 x2 x3 x4 x5 v_rowsOf v_columnsOf v_row v_column v_below H locs ls hf
    cases (show none = some _ from hf)
  | succ n ih =>
    intro x1 x2 x3 x4 x5 v_rowsOf v_columnsOf v_row v_column v_below H locs ls hf hP hD hS hl
    unfold fX9_fieldAt_3 at hf
    refine lv_iload hx hb dX9_fieldAt_3 (lv_at hl 5 rfl) ?_
    refine lv_aload_n hx hb dX9_fieldAt_5 rfl (lv_at hl 0 rfl) ?_
    obtain ⟨r_1, hc_2, hf⟩ := mm_bd1s hf
    refine mm_callVF (q0 := 0) (ci := 9) (rest := [.int x5]) C0 lk_X9_127 (ctX9_fields (a := a) (d := d - 1) (by omega) hc_2) (by omega) rfl hl.1 rfl (mm_cat rfl) dX9_fieldAt_6 hP hD hA hS rfl rfl (fun H locs hP hD hS => ?_)
    refine W.eq (g2 := F0 m 9 ls [.int r_1, .int x5]) rfl ?_
    refine lv_icmp_ge (tgt := 64) hx hb dX9_fieldAt_9 (by decide) (fun c_3 => ?_) (fun c_3 => ?_)
    · have hf := mm_ip hf c_3
      refine lv_iconst (v := -1) hx hb dX9_fieldAt_64 (by decide) ?_
      obtain rfl := mm_inj1 hf
      exact mm_iret C0 hP hD hS dX9_fieldAt_65
    · have hf := mm_in hf c_3
      refine lv_bipush (v := 32) hx hb dX9_fieldAt_12 (by decide) ?_
      refine lv_iload_n hx hb dX9_fieldAt_14 rfl (lv_at hl 1 rfl) ?_
      refine lv_imul hx hb dX9_fieldAt_15 ?_
      refine lv_iload hx hb dX9_fieldAt_16 (lv_at hl 5 rfl) ?_
      refine lv_iadd hx hb dX9_fieldAt_18 ?_
      refine lv_topi (fun y_4 ey_4 => ?_)
      have hf := mm_nms hf ey_4
      refine lv_istore (lv' := [(6, .int y_4), (0, .ref (a 0)), (1, .int x1), (2, .int x2), (3, .int x3), (4, .int x4), (5, .int x5)]) hx hb dX9_fieldAt_19 hl (by decide) rfl (fun ls hl => ?_)
      refine lv_aload_n hx hb dX9_fieldAt_21 rfl (lv_at hl 1 rfl) ?_
      refine mm_get C0 hP iw_X9 0 rfl rfl 9 (by decide) fl_X9_25 rfl dX9_fieldAt_22 ?_
      refine lv_iload hx hb dX9_fieldAt_25 (lv_at hl 0 rfl) ?_
      obtain ⟨h_5, hf⟩ := mm_cks hf
      refine mm_iald C0 hP 6 rfl h_5 dX9_fieldAt_27 ?_
      refine lv_iload_n hx hb dX9_fieldAt_28 rfl (lv_at hl 3 rfl) ?_
      refine lv_icmp_ne (tgt := 58) hx hb dX9_fieldAt_29 (by decide) (fun c_6 => ?_) (fun c_6 => ?_)
      · have hf := mm_in hf c_6
        exact tX9_fieldAt_58 hd C0 hA N ih _ _ _ _ _ _ _ _ _ _ H locs ls hf hP hD hS (lv_sub hl [1, 2, 3, 4, 5, 6] rfl)
      · have hf := mm_ip hf c_6
        refine lv_aload_n hx hb dX9_fieldAt_32 rfl (lv_at hl 1 rfl) ?_
        refine mm_get C0 hP iw_X9 0 rfl rfl 10 (by decide) fl_X9_28 rfl dX9_fieldAt_33 ?_
        refine lv_iload hx hb dX9_fieldAt_36 (lv_at hl 0 rfl) ?_
        obtain ⟨h_7, hf⟩ := mm_cks hf
        refine mm_iald C0 hP 7 rfl h_7 dX9_fieldAt_38 ?_
        refine lv_iload_n hx hb dX9_fieldAt_39 rfl (lv_at hl 4 rfl) ?_
        refine lv_icmp_ne (tgt := 58) hx hb dX9_fieldAt_40 (by decide) (fun c_8 => ?_) (fun c_8 => ?_)
        · have hf := mm_in hf c_8
          exact tX9_fieldAt_58 hd C0 hA N ih _ _ _ _ _ _ _ _ _ _ H locs ls hf hP hD hS (lv_sub hl [1, 2, 3, 4, 5, 6] rfl)
        · have hf := mm_ip hf c_8
          refine lv_aload_n hx hb dX9_fieldAt_43 rfl (lv_at hl 1 rfl) ?_
          refine mm_get C0 hP iw_X9 0 rfl rfl 11 (by decide) fl_X9_31 rfl dX9_fieldAt_44 ?_
          refine lv_iload hx hb dX9_fieldAt_47 (lv_at hl 0 rfl) ?_
          obtain ⟨h_9, hf⟩ := mm_cks hf
          refine mm_iald C0 hP 8 rfl h_9 dX9_fieldAt_49 ?_
          refine lv_iload hx hb dX9_fieldAt_50 (lv_at hl 5 rfl) ?_
          refine lv_icmp_ne (tgt := 58) hx hb dX9_fieldAt_52 (by decide) (fun c_10 => ?_) (fun c_10 => ?_)
          · have hf := mm_in hf c_10
            exact tX9_fieldAt_58 hd C0 hA N ih _ _ _ _ _ _ _ _ _ _ H locs ls hf hP hD hS (lv_sub hl [1, 2, 3, 4, 5, 6] rfl)
          · have hf := mm_ip hf c_10
            refine lv_iload hx hb dX9_fieldAt_55 (lv_at hl 6 rfl) ?_
            obtain rfl := mm_inj1 hf
            exact mm_iret C0 hP hD hS dX9_fieldAt_57

def fX9_fieldAt (N : Nat) (x1 : Int32) (x2 : Int32) (x3 : Int32) (x4 : Int32) (v_rowsOf : Int32) (v_columnsOf : Int32) (v_row : List Int32) (v_column : List Int32) (v_below : List Int32) : Option (Int32) :=
    fX9_fieldAt_3 N N x1 x2 x3 x4 (0 : Int32) v_rowsOf v_columnsOf v_row v_column v_below

set_option maxHeartbeats 4000000 in
set_option maxRecDepth 100000 in
theorem ctX9_fieldAt {l : Launch} {D : va_G} {cI cL cS cH : ClassId} {a : Nat → Nat} {x1 : Int32} {x2 : Int32} {x3 : Int32} {x4 : Int32} {v_keptMany : Int32} {v_done : Int32} {v_rowsOf : Int32} {v_columnsOf : Int32} {v_folded : Int32} {v_wronged : Int32} {v_tapeMany : Int32} {v_textMany : Int32} {v_base : Int32} {v_at : Int32} {v_ends : Int32} {v_fault : Int32} {v_opened : Int32} {v_bentMany : Int32} {v_bentWrong : Int32} {v_moreWorn : Int32} {v_planned : Int32} {v_allWrong : Int32} {v_allWorn : Int32} {v_z : Int32} {v_wishedField : Int32} {v_isFound : Bool} {v_bestWrong : Int32} {v_bestWorn : Int32} {v_bestMany : Int32} {v_soughtBy : Int32} {v_sought : Int32} {v_soughtAt : Int32} {v_foundMany : Int32} {v_foundOrder : Int32} {v_isKept : Bool} {v_imageRows : Int32} {v_imageColumns : Int32} {v_imageFolded : Int32} {v_imageWronged : Int32} {v_bodies : Int32} {v_ran : Int32} {v_ownKind : Int32} {v_ownNumber : Int32} {v_limit : List Int32} {v_changeWas : List Int32} {v_changeIs : List Int32} {v_shapeRows : List Int32} {v_shapeColumns : List Int32} {v_row : List Int32} {v_column : List Int32} {v_below : List Int32} {v_face : List Int32} {v_worn : List Int32} {v_lastBend : List Int32} {v_tape : List Int32} {v_text : List Int32} {v_names : List Int32} {v_bends : List Int32} {v_high : List Int32} {v_to : List Int32} {v_pileSize : List Int32} {v_planLine : List Int32} {v_planWay : List Int32} {v_way1 : List Int32} {v_bestWay : List Int32} {v_order1 : List Int32} {v_placeIn : List Int32} {v_bodyKind : List Int32} {v_trace : List Int32} {v_shelf : List Int32} {v_many : List Int32} {v_items : List Int64} {v_carried : List Int64} {r : Int32} {N d : Nat} (hd : 2 ≤ d) (hf : fX9_fieldAt N x1 x2 x3 x4 v_rowsOf v_columnsOf v_row v_column v_below = some r) : mm_Ct l yX9_fieldAt cX9_fieldAt 7 (some .int) d D (mm_T cI cL cS cH) [.ref (a 0), .int x1, .int x2, .int x3, .int x4] (wd_X9 cI cL cS cH a v_keptMany v_done v_rowsOf v_columnsOf v_folded v_wronged v_tapeMany v_textMany v_base v_at v_ends v_fault v_opened v_bentMany v_bentWrong v_moreWorn v_planned v_allWrong v_allWorn v_z v_wishedField v_isFound v_bestWrong v_bestWorn v_bestMany v_soughtBy v_sought v_soughtAt v_foundMany v_foundOrder v_isKept v_imageRows v_imageColumns v_imageFolded v_imageWronged v_bodies v_ran v_ownKind v_ownNumber v_limit v_changeWas v_changeIs v_shapeRows v_shapeColumns v_row v_column v_below v_face v_worn v_lastBend v_tape v_text v_names v_bends v_high v_to v_pileSize v_planLine v_planWay v_way1 v_bestWay v_order1 v_placeIn v_bodyKind v_trace v_shelf v_many v_items v_carried) (wd_X9 cI cL cS cH a v_keptMany v_done v_rowsOf v_columnsOf v_folded v_wronged v_tapeMany v_textMany v_base v_at v_ends v_fault v_opened v_bentMany v_bentWrong v_moreWorn v_planned v_allWrong v_allWorn v_z v_wishedField v_isFound v_bestWrong v_bestWorn v_bestMany v_soughtBy v_sought v_soughtAt v_foundMany v_foundOrder v_isKept v_imageRows v_imageColumns v_imageFolded v_imageWronged v_bodies v_ran v_ownKind v_ownNumber v_limit v_changeWas v_changeIs v_shapeRows v_shapeColumns v_row v_column v_below v_face v_worn v_lastBend v_tape v_text v_names v_bends v_high v_to v_pileSize v_planLine v_planWay v_way1 v_bestWay v_order1 v_placeIn v_bodyKind v_trace v_shelf v_many v_items v_carried) (some (.int r)) := by
  refine mm_of (by decide) (Nat.le_of_ble_eq_true rfl) ?_
  intro p e s m args below meth c A H locs ls C0 hP hD hA hS hl
  have C0 : mm_Cx p s m args meth c RX9 cX9_fieldAt 7 (some .int) D (mm_T cI cL cS cH) A := C0
  obtain ⟨hx, hb, hml, hown, hts, hr, hlocks, hK, hSt⟩ := id C0
  have hl : lv_has ls 7 [(0, .ref (a 0)), (1, .int x1), (2, .int x2), (3, .int x3), (4, .int x4)] := hl
  unfold fX9_fieldAt at hf
  refine lv_iconst (v := 0) hx hb dX9_fieldAt_0 (by decide) ?_
  refine lv_istore (lv' := [(5, .int (0 : Int32)), (0, .ref (a 0)), (1, .int x1), (2, .int x2), (3, .int x3), (4, .int x4)]) hx hb dX9_fieldAt_1 hl (by decide) rfl (fun ls hl => ?_)
  exact tX9_fieldAt_3 hd C0 hA N  N _ _ _ _ _ _ _ _ _ _ H locs ls hf hP hD hS (lv_sub hl [1, 2, 3, 4, 5, 0] rfl)

theorem nb_dX9_shape_0 : bls_w cX9_shape [(0, [3]), (1, [61]), (2, [3]), (3, [62]), (4, [29]), (5, [42]), (6, [182, 0, 127]), (9, [162, 0, 34]), (12, [42]), (13, [180, 0, 31]), (16, [29]), (17, [46])] := bls_of (by decide +kernel)
theorem dX9_shape_0 : decode cX9_shape 0 = .ok (.iconst 0, 1) := op_3 nb_dX9_shape_0.1
theorem dX9_shape_1 : decode cX9_shape 1 = .ok (.istore_n 2, 1) := op_61 nb_dX9_shape_0.2.1
theorem dX9_shape_2 : decode cX9_shape 2 = .ok (.iconst 0, 1) := op_3 nb_dX9_shape_0.2.2.1
theorem dX9_shape_3 : decode cX9_shape 3 = .ok (.istore_n 3, 1) := op_62 nb_dX9_shape_0.2.2.2.1
theorem dX9_shape_4 : decode cX9_shape 4 = .ok (.iload_n 3, 1) := op_29 nb_dX9_shape_0.2.2.2.2.1
theorem dX9_shape_5 : decode cX9_shape 5 = .ok (.aload_n 0, 1) := op_42 nb_dX9_shape_0.2.2.2.2.2.1
set_option maxRecDepth 100000 in
theorem dX9_shape_6 : decode cX9_shape 6 = .ok (.invokevirtual 127, 3) := (op_182 nb_dX9_shape_0.2.2.2.2.2.2.1).trans rfl
set_option maxRecDepth 100000 in
theorem dX9_shape_9 : decode cX9_shape 9 = .ok (.if_icmp .ge 34, 3) := (op_162 nb_dX9_shape_0.2.2.2.2.2.2.2.1).trans rfl
theorem dX9_shape_12 : decode cX9_shape 12 = .ok (.aload_n 0, 1) := op_42 nb_dX9_shape_0.2.2.2.2.2.2.2.2.1
set_option maxRecDepth 100000 in
theorem dX9_shape_13 : decode cX9_shape 13 = .ok (.getfield 31, 3) := (op_180 nb_dX9_shape_0.2.2.2.2.2.2.2.2.2.1).trans rfl
theorem dX9_shape_16 : decode cX9_shape 16 = .ok (.iload_n 3, 1) := op_29 nb_dX9_shape_0.2.2.2.2.2.2.2.2.2.2.1
theorem dX9_shape_17 : decode cX9_shape 17 = .ok (.iaload, 1) := op_46 nb_dX9_shape_0.2.2.2.2.2.2.2.2.2.2.2.1
theorem nb_dX9_shape_18 : bls_w cX9_shape [(18, [4]), (19, [96]), (20, [28]), (21, [164, 0, 14]), (24, [42]), (25, [180, 0, 31]), (28, [29]), (29, [46]), (30, [4]), (31, [96]), (32, [167, 0, 4]), (35, [28])] := bls_of (by decide +kernel)
theorem dX9_shape_18 : decode cX9_shape 18 = .ok (.iconst 1, 1) := op_4 nb_dX9_shape_18.1
theorem dX9_shape_19 : decode cX9_shape 19 = .ok (.iadd, 1) := op_96 nb_dX9_shape_18.2.1
theorem dX9_shape_20 : decode cX9_shape 20 = .ok (.iload_n 2, 1) := op_28 nb_dX9_shape_18.2.2.1
set_option maxRecDepth 100000 in
theorem dX9_shape_21 : decode cX9_shape 21 = .ok (.if_icmp .le 14, 3) := (op_164 nb_dX9_shape_18.2.2.2.1).trans rfl
theorem dX9_shape_24 : decode cX9_shape 24 = .ok (.aload_n 0, 1) := op_42 nb_dX9_shape_18.2.2.2.2.1
set_option maxRecDepth 100000 in
theorem dX9_shape_25 : decode cX9_shape 25 = .ok (.getfield 31, 3) := (op_180 nb_dX9_shape_18.2.2.2.2.2.1).trans rfl
theorem dX9_shape_28 : decode cX9_shape 28 = .ok (.iload_n 3, 1) := op_29 nb_dX9_shape_18.2.2.2.2.2.2.1
theorem dX9_shape_29 : decode cX9_shape 29 = .ok (.iaload, 1) := op_46 nb_dX9_shape_18.2.2.2.2.2.2.2.1
theorem dX9_shape_30 : decode cX9_shape 30 = .ok (.iconst 1, 1) := op_4 nb_dX9_shape_18.2.2.2.2.2.2.2.2.1
theorem dX9_shape_31 : decode cX9_shape 31 = .ok (.iadd, 1) := op_96 nb_dX9_shape_18.2.2.2.2.2.2.2.2.2.1
set_option maxRecDepth 100000 in
theorem dX9_shape_32 : decode cX9_shape 32 = .ok (.goto 4, 3) := (op_167 nb_dX9_shape_18.2.2.2.2.2.2.2.2.2.2.1).trans rfl
theorem dX9_shape_35 : decode cX9_shape 35 = .ok (.iload_n 2, 1) := op_28 nb_dX9_shape_18.2.2.2.2.2.2.2.2.2.2.2.1
theorem nb_dX9_shape_36 : bls_w cX9_shape [(36, [61]), (37, [132, 3, 1]), (40, [167, 255, 220]), (43, [27]), (44, [154, 0, 12]), (47, [42]), (48, [180, 0, 19]), (51, [3]), (52, [46]), (53, [167, 0, 27]), (56, [27]), (57, [4])] := bls_of (by decide +kernel)
theorem dX9_shape_36 : decode cX9_shape 36 = .ok (.istore_n 2, 1) := op_61 nb_dX9_shape_36.1
set_option maxRecDepth 100000 in
theorem dX9_shape_37 : decode cX9_shape 37 = .ok (.iinc 3 1, 3) := (op_132 nb_dX9_shape_36.2.1).trans rfl
set_option maxRecDepth 100000 in
theorem dX9_shape_40 : decode cX9_shape 40 = .ok (.goto (-36), 3) := (op_167 nb_dX9_shape_36.2.2.1).trans rfl
theorem dX9_shape_43 : decode cX9_shape 43 = .ok (.iload_n 1, 1) := op_27 nb_dX9_shape_36.2.2.2.1
set_option maxRecDepth 100000 in
theorem dX9_shape_44 : decode cX9_shape 44 = .ok (.ifCond .ne 12, 3) := (op_154 nb_dX9_shape_36.2.2.2.2.1).trans rfl
theorem dX9_shape_47 : decode cX9_shape 47 = .ok (.aload_n 0, 1) := op_42 nb_dX9_shape_36.2.2.2.2.2.1
set_option maxRecDepth 100000 in
theorem dX9_shape_48 : decode cX9_shape 48 = .ok (.getfield 19, 3) := (op_180 nb_dX9_shape_36.2.2.2.2.2.2.1).trans rfl
theorem dX9_shape_51 : decode cX9_shape 51 = .ok (.iconst 0, 1) := op_3 nb_dX9_shape_36.2.2.2.2.2.2.2.1
theorem dX9_shape_52 : decode cX9_shape 52 = .ok (.iaload, 1) := op_46 nb_dX9_shape_36.2.2.2.2.2.2.2.2.1
set_option maxRecDepth 100000 in
theorem dX9_shape_53 : decode cX9_shape 53 = .ok (.goto 27, 3) := (op_167 nb_dX9_shape_36.2.2.2.2.2.2.2.2.2.1).trans rfl
theorem dX9_shape_56 : decode cX9_shape 56 = .ok (.iload_n 1, 1) := op_27 nb_dX9_shape_36.2.2.2.2.2.2.2.2.2.2.1
theorem dX9_shape_57 : decode cX9_shape 57 = .ok (.iconst 1, 1) := op_4 nb_dX9_shape_36.2.2.2.2.2.2.2.2.2.2.2.1
theorem nb_dX9_shape_58 : bls_w cX9_shape [(58, [160, 0, 12]), (61, [42]), (62, [180, 0, 22]), (65, [3]), (66, [46]), (67, [167, 0, 13]), (70, [27]), (71, [5]), (72, [160, 0, 7]), (75, [28]), (76, [167, 0, 4]), (79, [2])] := bls_of (by decide +kernel)
set_option maxRecDepth 100000 in
theorem dX9_shape_58 : decode cX9_shape 58 = .ok (.if_icmp .ne 12, 3) := (op_160 nb_dX9_shape_58.1).trans rfl
theorem dX9_shape_61 : decode cX9_shape 61 = .ok (.aload_n 0, 1) := op_42 nb_dX9_shape_58.2.1
set_option maxRecDepth 100000 in
theorem dX9_shape_62 : decode cX9_shape 62 = .ok (.getfield 22, 3) := (op_180 nb_dX9_shape_58.2.2.1).trans rfl
theorem dX9_shape_65 : decode cX9_shape 65 = .ok (.iconst 0, 1) := op_3 nb_dX9_shape_58.2.2.2.1
theorem dX9_shape_66 : decode cX9_shape 66 = .ok (.iaload, 1) := op_46 nb_dX9_shape_58.2.2.2.2.1
set_option maxRecDepth 100000 in
theorem dX9_shape_67 : decode cX9_shape 67 = .ok (.goto 13, 3) := (op_167 nb_dX9_shape_58.2.2.2.2.2.1).trans rfl
theorem dX9_shape_70 : decode cX9_shape 70 = .ok (.iload_n 1, 1) := op_27 nb_dX9_shape_58.2.2.2.2.2.2.1
theorem dX9_shape_71 : decode cX9_shape 71 = .ok (.iconst 2, 1) := op_5 nb_dX9_shape_58.2.2.2.2.2.2.2.1
set_option maxRecDepth 100000 in
theorem dX9_shape_72 : decode cX9_shape 72 = .ok (.if_icmp .ne 7, 3) := (op_160 nb_dX9_shape_58.2.2.2.2.2.2.2.2.1).trans rfl
theorem dX9_shape_75 : decode cX9_shape 75 = .ok (.iload_n 2, 1) := op_28 nb_dX9_shape_58.2.2.2.2.2.2.2.2.2.1
set_option maxRecDepth 100000 in
theorem dX9_shape_76 : decode cX9_shape 76 = .ok (.goto 4, 3) := (op_167 nb_dX9_shape_58.2.2.2.2.2.2.2.2.2.2.1).trans rfl
theorem dX9_shape_79 : decode cX9_shape 79 = .ok (.iconst (-1), 1) := op_2 nb_dX9_shape_58.2.2.2.2.2.2.2.2.2.2.2.1
theorem nb_dX9_shape_80 : bls_w cX9_shape [(80, [172])] := bls_of (by decide +kernel)
theorem dX9_shape_80 : decode cX9_shape 80 = .ok (.ireturn, 1) := op_172 nb_dX9_shape_80.1
def fX9_shape_36 (N : Nat) (k_4 : Int32 → Int32 → Int32 → Int32 → Int32 → List Int32 → List Int32 → List Int32 → Option (Int32)) (x1 : Int32) (x3 : Int32) (s0 : Int32) (v_rowsOf : Int32) (v_columnsOf : Int32) (v_shapeRows : List Int32) (v_shapeColumns : List Int32) (v_below : List Int32) : Option (Int32) :=
    mm_nm (x3 + (1 : Int32)) (fun (y_12 : Int32) =>
    k_4 x1 s0 y_12 v_rowsOf v_columnsOf v_shapeRows v_shapeColumns v_below)

set_option maxHeartbeats 4000000 in
set_option maxRecDepth 100000 in
theorem tX9_shape_36 {p : Program} {l : Launch} {e : Env} {s : State} {m : MethodId} {args : Array Value} {below : List Frame} {meth : Method} {c : Code} {D : va_G} {cI cL cS cH : ClassId} {A : Nat → Prop} {d : Nat} {a : Nat → Nat} (hd : 2 ≤ d) (C0 : mm_Cx p s m args meth c RX9 cX9_shape 4 (some .int) D (mm_T cI cL cS cH) A) (hA : ∀ q, s.heap.size ≤ q → A q) {v_keptMany : Int32} {v_done : Int32} {v_folded : Int32} {v_wronged : Int32} {v_tapeMany : Int32} {v_textMany : Int32} {v_base : Int32} {v_at : Int32} {v_ends : Int32} {v_fault : Int32} {v_opened : Int32} {v_bentMany : Int32} {v_bentWrong : Int32} {v_moreWorn : Int32} {v_planned : Int32} {v_allWrong : Int32} {v_allWorn : Int32} {v_z : Int32} {v_wishedField : Int32} {v_isFound : Bool} {v_bestWrong : Int32} {v_bestWorn : Int32} {v_bestMany : Int32} {v_soughtBy : Int32} {v_sought : Int32} {v_soughtAt : Int32} {v_foundMany : Int32} {v_foundOrder : Int32} {v_isKept : Bool} {v_imageRows : Int32} {v_imageColumns : Int32} {v_imageFolded : Int32} {v_imageWronged : Int32} {v_bodies : Int32} {v_ran : Int32} {v_ownKind : Int32} {v_ownNumber : Int32} {v_limit : List Int32} {v_changeWas : List Int32} {v_changeIs : List Int32} {v_row : List Int32} {v_column : List Int32} {v_face : List Int32} {v_worn : List Int32} {v_lastBend : List Int32} {v_tape : List Int32} {v_text : List Int32} {v_names : List Int32} {v_bends : List Int32} {v_high : List Int32} {v_to : List Int32} {v_pileSize : List Int32} {v_planLine : List Int32} {v_planWay : List Int32} {v_way1 : List Int32} {v_bestWay : List Int32} {v_order1 : List Int32} {v_placeIn : List Int32} {v_bodyKind : List Int32} {v_trace : List Int32} {v_shelf : List Int32} {v_many : List Int32} {v_items : List Int64} {v_carried : List Int64} {r : Int32} (N : Nat) {k_4 : Int32 → Int32 → Int32 → Int32 → Int32 → List Int32 → List Int32 → List Int32 → Option (Int32)} (hk_4 : ∀ (x1 : Int32) (x2 : Int32) (x3 : Int32) (v_rowsOf : Int32) (v_columnsOf : Int32) (v_shapeRows : List Int32) (v_shapeColumns : List Int32) (v_below : List Int32) (H : Heap) (locs : List Loc) (ls : Array Slot), k_4 x1 x2 x3 v_rowsOf v_columnsOf v_shapeRows v_shapeColumns v_below = some r → va_P D mm_cl (wd_X9 cI cL cS cH a v_keptMany v_done v_rowsOf v_columnsOf v_folded v_wronged v_tapeMany v_textMany v_base v_at v_ends v_fault v_opened v_bentMany v_bentWrong v_moreWorn v_planned v_allWrong v_allWorn v_z v_wishedField v_isFound v_bestWrong v_bestWorn v_bestMany v_soughtBy v_sought v_soughtAt v_foundMany v_foundOrder v_isKept v_imageRows v_imageColumns v_imageFolded v_imageWronged v_bodies v_ran v_ownKind v_ownNumber v_limit v_changeWas v_changeIs v_shapeRows v_shapeColumns v_row v_column v_below v_face v_worn v_lastBend v_tape v_text v_names v_bends v_high v_to v_pileSize v_planLine v_planWay v_way1 v_bestWay v_order1 v_placeIn v_bodyKind v_trace v_shelf v_many v_items v_carried) H → va_D A (wd_X9 cI cL cS cH a v_keptMany v_done v_rowsOf v_columnsOf v_folded v_wronged v_tapeMany v_textMany v_base v_at v_ends v_fault v_opened v_bentMany v_bentWrong v_moreWorn v_planned v_allWrong v_allWorn v_z v_wishedField v_isFound v_bestWrong v_bestWorn v_bestMany v_soughtBy v_sought v_soughtAt v_foundMany v_foundOrder v_isKept v_imageRows v_imageColumns v_imageFolded v_imageWronged v_bodies v_ran v_ownKind v_ownNumber v_limit v_changeWas v_changeIs v_shapeRows v_shapeColumns v_row v_column v_below v_face v_worn v_lastBend v_tape v_text v_names v_bends v_high v_to v_pileSize v_planLine v_planWay v_way1 v_bestWay v_order1 v_placeIn v_bodyKind v_trace v_shelf v_many v_items v_carried) → va_S A s.heap H locs → lv_has ls 4 [(0, .ref (a 0)), (1, .int x1), (2, .int x2), (3, .int x3)] → W p l e (mm_rr d) s m args below meth c H locs 0 0 (mm_Z below D A (wd_X9 cI cL cS cH a v_keptMany v_done v_rowsOf v_columnsOf v_folded v_wronged v_tapeMany v_textMany v_base v_at v_ends v_fault v_opened v_bentMany v_bentWrong v_moreWorn v_planned v_allWrong v_allWorn v_z v_wishedField v_isFound v_bestWrong v_bestWorn v_bestMany v_soughtBy v_sought v_soughtAt v_foundMany v_foundOrder v_isKept v_imageRows v_imageColumns v_imageFolded v_imageWronged v_bodies v_ran v_ownKind v_ownNumber v_limit v_changeWas v_changeIs v_shapeRows v_shapeColumns v_row v_column v_below v_face v_worn v_lastBend v_tape v_text v_names v_bends v_high v_to v_pileSize v_planLine v_planWay v_way1 v_bestWay v_order1 v_placeIn v_bodyKind v_trace v_shelf v_many v_items v_carried) (some (.int r)) args s) (F0 m 4 ls [])) : ∀ (x1 : Int32) (x3 : Int32) (s0 : Int32) (v_rowsOf : Int32) (v_columnsOf : Int32) (v_shapeRows : List Int32) (v_shapeColumns : List Int32) (v_below : List Int32) (H : Heap) (locs : List Loc) (ls : Array Slot), fX9_shape_36 N k_4 x1 x3 s0 v_rowsOf v_columnsOf v_shapeRows v_shapeColumns v_below = some r → va_P D mm_cl (wd_X9 cI cL cS cH a v_keptMany v_done v_rowsOf v_columnsOf v_folded v_wronged v_tapeMany v_textMany v_base v_at v_ends v_fault v_opened v_bentMany v_bentWrong v_moreWorn v_planned v_allWrong v_allWorn v_z v_wishedField v_isFound v_bestWrong v_bestWorn v_bestMany v_soughtBy v_sought v_soughtAt v_foundMany v_foundOrder v_isKept v_imageRows v_imageColumns v_imageFolded v_imageWronged v_bodies v_ran v_ownKind v_ownNumber v_limit v_changeWas v_changeIs v_shapeRows v_shapeColumns v_row v_column v_below v_face v_worn v_lastBend v_tape v_text v_names v_bends v_high v_to v_pileSize v_planLine v_planWay v_way1 v_bestWay v_order1 v_placeIn v_bodyKind v_trace v_shelf v_many v_items v_carried) H → va_D A (wd_X9 cI cL cS cH a v_keptMany v_done v_rowsOf v_columnsOf v_folded v_wronged v_tapeMany v_textMany v_base v_at v_ends v_fault v_opened v_bentMany v_bentWrong v_moreWorn v_planned v_allWrong v_allWorn v_z v_wishedField v_isFound v_bestWrong v_bestWorn v_bestMany v_soughtBy v_sought v_soughtAt v_foundMany v_foundOrder v_isKept v_imageRows v_imageColumns v_imageFolded v_imageWronged v_bodies v_ran v_ownKind v_ownNumber v_limit v_changeWas v_changeIs v_shapeRows v_shapeColumns v_row v_column v_below v_face v_worn v_lastBend v_tape v_text v_names v_bends v_high v_to v_pileSize v_planLine v_planWay v_way1 v_bestWay v_order1 v_placeIn v_bodyKind v_trace v_shelf v_many v_items v_carried) → va_S A s.heap H locs → lv_has ls 4 [(0, .ref (a 0)), (1, .int x1), (3, .int x3)] → W p l e (mm_rr d) s m args below meth c H locs 0 0 (mm_Z below D A (wd_X9 cI cL cS cH a v_keptMany v_done v_rowsOf v_columnsOf v_folded v_wronged v_tapeMany v_textMany v_base v_at v_ends v_fault v_opened v_bentMany v_bentWrong v_moreWorn v_planned v_allWrong v_allWorn v_z v_wishedField v_isFound v_bestWrong v_bestWorn v_bestMany v_soughtBy v_sought v_soughtAt v_foundMany v_foundOrder v_isKept v_imageRows v_imageColumns v_imageFolded v_imageWronged v_bodies v_ran v_ownKind v_ownNumber v_limit v_changeWas v_changeIs v_shapeRows v_shapeColumns v_row v_column v_below v_face v_worn v_lastBend v_tape v_text v_names v_bends v_high v_to v_pileSize v_planLine v_planWay v_way1 v_bestWay v_order1 v_placeIn v_bodyKind v_trace v_shelf v_many v_items v_carried) (some (.int r)) args s) (F0 m 36 ls [.int s0]) := by
  obtain ⟨hx, hb, hml, hown, hts, hr, hlocks, hK, hSt⟩ := id C0
  intro x1 x3 s0 v_rowsOf v_columnsOf v_shapeRows v_shapeColumns v_below H locs ls hf hP hD hS hl
  unfold fX9_shape_36 at hf
  refine lv_istore_n (lv' := [(2, .int s0), (0, .ref (a 0)), (1, .int x1), (3, .int x3)]) hx hb dX9_shape_36 rfl hl (by decide) rfl (fun ls hl => ?_)
  obtain ⟨y_12, ey_12⟩ : ∃ z : Int32, z = x3 + (1 : Int32) := ⟨_, rfl⟩
  have hf := mm_nms hf ey_12
  refine lv_iinc (v := y_12) (lv' := [(3, .int y_12), (2, .int s0), (0, .ref (a 0)), (1, .int x1)]) hx hb dX9_shape_37 hl (k := 3) rfl (by rw [ey_12]; rfl) (by decide) rfl (fun ls hl => ?_)
  refine lv_goto (tgt := 4) hx hb dX9_shape_40 (by decide) ?_
  exact hk_4 _ _ _ _ _ _ _ _ H locs ls hf hP hD hS (lv_sub hl [2, 3, 1, 0] rfl)

def fX9_shape_4 (N : Nat)  : Nat → Int32 → Int32 → Int32 → Int32 → Int32 → List Int32 → List Int32 → List Int32 → Option (Int32)
  | 0 => fun _ _ _ _ _ _ _ _ => none
  | n + 1 => fun x1 x2 x3 v_rowsOf v_columnsOf v_shapeRows v_shapeColumns v_below =>
    mm_bd1 (fX9_fields N v_rowsOf v_columnsOf) (fun (r_1 : Int32) =>
    if r_1 ≤ x3 then
    (if x1 = 0 then
    (mm_ck (mm_inb (0 : Int32) v_shapeRows.length) (some ((mm_ig v_shapeRows (0 : Int32)))))
    else (if x1 = (1 : Int32) then
    (mm_ck (mm_inb (0 : Int32) v_shapeColumns.length) (some ((mm_ig v_shapeColumns (0 : Int32)))))
    else (if x1 = (2 : Int32) then
    (some (x2))
    else (some ((-1 : Int32))))))
    else (mm_ck (mm_inb x3 v_below.length) (if ((mm_ig v_below x3) + (1 : Int32)) ≤ x2 then
    (fX9_shape_36 N (fX9_shape_4 N n) x1 x3 x2 v_rowsOf v_columnsOf v_shapeRows v_shapeColumns v_below)
    else (mm_ck (mm_inb x3 v_below.length) (fX9_shape_36 N (fX9_shape_4 N n) x1 x3 ((mm_ig v_below x3) + (1 : Int32)) v_rowsOf v_columnsOf v_shapeRows v_shapeColumns v_below)))))

set_option maxHeartbeats 4000000 in
set_option maxRecDepth 100000 in
theorem tX9_shape_4 {p : Program} {l : Launch} {e : Env} {s : State} {m : MethodId} {args : Array Value} {below : List Frame} {meth : Method} {c : Code} {D : va_G} {cI cL cS cH : ClassId} {A : Nat → Prop} {d : Nat} {a : Nat → Nat} (hd : 2 ≤ d) (C0 : mm_Cx p s m args meth c RX9 cX9_shape 4 (some .int) D (mm_T cI cL cS cH) A) (hA : ∀ q, s.heap.size ≤ q → A q) {v_keptMany : Int32} {v_done : Int32} {v_folded : Int32} {v_wronged : Int32} {v_tapeMany : Int32} {v_textMany : Int32} {v_base : Int32} {v_at : Int32} {v_ends : Int32} {v_fault : Int32} {v_opened : Int32} {v_bentMany : Int32} {v_bentWrong : Int32} {v_moreWorn : Int32} {v_planned : Int32} {v_allWrong : Int32} {v_allWorn : Int32} {v_z : Int32} {v_wishedField : Int32} {v_isFound : Bool} {v_bestWrong : Int32} {v_bestWorn : Int32} {v_bestMany : Int32} {v_soughtBy : Int32} {v_sought : Int32} {v_soughtAt : Int32} {v_foundMany : Int32} {v_foundOrder : Int32} {v_isKept : Bool} {v_imageRows : Int32} {v_imageColumns : Int32} {v_imageFolded : Int32} {v_imageWronged : Int32} {v_bodies : Int32} {v_ran : Int32} {v_ownKind : Int32} {v_ownNumber : Int32} {v_limit : List Int32} {v_changeWas : List Int32} {v_changeIs : List Int32} {v_row : List Int32} {v_column : List Int32} {v_face : List Int32} {v_worn : List Int32} {v_lastBend : List Int32} {v_tape : List Int32} {v_text : List Int32} {v_names : List Int32} {v_bends : List Int32} {v_high : List Int32} {v_to : List Int32} {v_pileSize : List Int32} {v_planLine : List Int32} {v_planWay : List Int32} {v_way1 : List Int32} {v_bestWay : List Int32} {v_order1 : List Int32} {v_placeIn : List Int32} {v_bodyKind : List Int32} {v_trace : List Int32} {v_shelf : List Int32} {v_many : List Int32} {v_items : List Int64} {v_carried : List Int64} {r : Int32} (N : Nat)  : ∀ (n : Nat), ∀ (x1 : Int32) (x2 : Int32) (x3 : Int32) (v_rowsOf : Int32) (v_columnsOf : Int32) (v_shapeRows : List Int32) (v_shapeColumns : List Int32) (v_below : List Int32) (H : Heap) (locs : List Loc) (ls : Array Slot), fX9_shape_4 N n x1 x2 x3 v_rowsOf v_columnsOf v_shapeRows v_shapeColumns v_below = some r → va_P D mm_cl (wd_X9 cI cL cS cH a v_keptMany v_done v_rowsOf v_columnsOf v_folded v_wronged v_tapeMany v_textMany v_base v_at v_ends v_fault v_opened v_bentMany v_bentWrong v_moreWorn v_planned v_allWrong v_allWorn v_z v_wishedField v_isFound v_bestWrong v_bestWorn v_bestMany v_soughtBy v_sought v_soughtAt v_foundMany v_foundOrder v_isKept v_imageRows v_imageColumns v_imageFolded v_imageWronged v_bodies v_ran v_ownKind v_ownNumber v_limit v_changeWas v_changeIs v_shapeRows v_shapeColumns v_row v_column v_below v_face v_worn v_lastBend v_tape v_text v_names v_bends v_high v_to v_pileSize v_planLine v_planWay v_way1 v_bestWay v_order1 v_placeIn v_bodyKind v_trace v_shelf v_many v_items v_carried) H → va_D A (wd_X9 cI cL cS cH a v_keptMany v_done v_rowsOf v_columnsOf v_folded v_wronged v_tapeMany v_textMany v_base v_at v_ends v_fault v_opened v_bentMany v_bentWrong v_moreWorn v_planned v_allWrong v_allWorn v_z v_wishedField v_isFound v_bestWrong v_bestWorn v_bestMany v_soughtBy v_sought v_soughtAt v_foundMany v_foundOrder v_isKept v_imageRows v_imageColumns v_imageFolded v_imageWronged v_bodies v_ran v_ownKind v_ownNumber v_limit v_changeWas v_changeIs v_shapeRows v_shapeColumns v_row v_column v_below v_face v_worn v_lastBend v_tape v_text v_names v_bends v_high v_to v_pileSize v_planLine v_planWay v_way1 v_bestWay v_order1 v_placeIn v_bodyKind v_trace v_shelf v_many v_items v_carried) → va_S A s.heap H locs → lv_has ls 4 [(0, .ref (a 0)), (1, .int x1), (2, .int x2), (3, .int x3)] → W p l e (mm_rr d) s m args below meth c H locs 0 0 (mm_Z below D A (wd_X9 cI cL cS cH a v_keptMany v_done v_rowsOf v_columnsOf v_folded v_wronged v_tapeMany v_textMany v_base v_at v_ends v_fault v_opened v_bentMany v_bentWrong v_moreWorn v_planned v_allWrong v_allWorn v_z v_wishedField v_isFound v_bestWrong v_bestWorn v_bestMany v_soughtBy v_sought v_soughtAt v_foundMany v_foundOrder v_isKept v_imageRows v_imageColumns v_imageFolded v_imageWronged v_bodies v_ran v_ownKind v_ownNumber v_limit v_changeWas v_changeIs v_shapeRows v_shapeColumns v_row v_column v_below v_face v_worn v_lastBend v_tape v_text v_names v_bends v_high v_to v_pileSize v_planLine v_planWay v_way1 v_bestWay v_order1 v_placeIn v_bodyKind v_trace v_shelf v_many v_items v_carried) (some (.int r)) args s) (F0 m 4 ls []) := by
  obtain ⟨hx, hb, hml, hown, hts, hr, hlocks, hK, hSt⟩ := id C0
  intro n
  induction n with
  | zero =>
    intro x1 x2 x3 v_rowsOf v_columnsOf v_shapeRows v_shapeColumns v_below H locs ls hf
    cases (show none = some _ from hf)
  | succ n ih =>
    intro x1 x2 x3 v_rowsOf v_columnsOf v_shapeRows v_shapeColumns v_below H locs ls hf hP hD hS hl
    unfold fX9_shape_4 at hf
    refine lv_iload_n hx hb dX9_shape_4 rfl (lv_at hl 3 rfl) ?_
    refine lv_aload_n hx hb dX9_shape_5 rfl (lv_at hl 0 rfl) ?_
    obtain ⟨r_1, hc_2, hf⟩ := mm_bd1s hf
    refine mm_callVF (q0 := 0) (ci := 9) (rest := [.int x3]) C0 lk_X9_127 (ctX9_fields (a := a) (d := d - 1) (by omega) hc_2) (by omega) rfl hl.1 rfl (mm_cat rfl) dX9_shape_6 hP hD hA hS rfl rfl (fun H locs hP hD hS => ?_)
    refine W.eq (g2 := F0 m 9 ls [.int r_1, .int x3]) rfl ?_
    refine lv_icmp_ge (tgt := 43) hx hb dX9_shape_9 (by decide) (fun c_3 => ?_) (fun c_3 => ?_)
    · have hf := mm_ip hf c_3
      refine lv_iload_n hx hb dX9_shape_43 rfl (lv_at hl 1 rfl) ?_
      refine lv_if_ne (tgt := 56) hx hb dX9_shape_44 (by decide) (fun c_4 => ?_) (fun c_4 => ?_)
      · have hf := mm_in hf c_4
        refine lv_iload_n hx hb dX9_shape_56 rfl (lv_at hl 1 rfl) ?_
        refine lv_iconst (v := 1) hx hb dX9_shape_57 (by decide) ?_
        refine lv_icmp_ne (tgt := 70) hx hb dX9_shape_58 (by decide) (fun c_5 => ?_) (fun c_5 => ?_)
        · have hf := mm_in hf c_5
          refine lv_iload_n hx hb dX9_shape_70 rfl (lv_at hl 1 rfl) ?_
          refine lv_iconst (v := 2) hx hb dX9_shape_71 (by decide) ?_
          refine lv_icmp_ne (tgt := 79) hx hb dX9_shape_72 (by decide) (fun c_6 => ?_) (fun c_6 => ?_)
          · have hf := mm_in hf c_6
            refine lv_iconst (v := -1) hx hb dX9_shape_79 (by decide) ?_
            obtain rfl := mm_inj1 hf
            exact mm_iret C0 hP hD hS dX9_shape_80
          · have hf := mm_ip hf c_6
            refine lv_iload_n hx hb dX9_shape_75 rfl (lv_at hl 2 rfl) ?_
            refine lv_goto (tgt := 80) hx hb dX9_shape_76 (by decide) ?_
            obtain rfl := mm_inj1 hf
            exact mm_iret C0 hP hD hS dX9_shape_80
        · have hf := mm_ip hf c_5
          refine lv_aload_n hx hb dX9_shape_61 rfl (lv_at hl 0 rfl) ?_
          refine mm_get C0 hP iw_X9 0 rfl rfl 8 (by decide) fl_X9_22 rfl dX9_shape_62 ?_
          refine lv_iconst (v := 0) hx hb dX9_shape_65 (by decide) ?_
          obtain ⟨h_7, hf⟩ := mm_cks hf
          refine mm_iald C0 hP 5 rfl h_7 dX9_shape_66 ?_
          refine lv_goto (tgt := 80) hx hb dX9_shape_67 (by decide) ?_
          obtain rfl := mm_inj1 hf
          exact mm_iret C0 hP hD hS dX9_shape_80
      · have hf := mm_ip hf c_4
        refine lv_aload_n hx hb dX9_shape_47 rfl (lv_at hl 0 rfl) ?_
        refine mm_get C0 hP iw_X9 0 rfl rfl 7 (by decide) fl_X9_19 rfl dX9_shape_48 ?_
        refine lv_iconst (v := 0) hx hb dX9_shape_51 (by decide) ?_
        obtain ⟨h_8, hf⟩ := mm_cks hf
        refine mm_iald C0 hP 4 rfl h_8 dX9_shape_52 ?_
        refine lv_goto (tgt := 80) hx hb dX9_shape_53 (by decide) ?_
        obtain rfl := mm_inj1 hf
        exact mm_iret C0 hP hD hS dX9_shape_80
    · have hf := mm_in hf c_3
      refine lv_aload_n hx hb dX9_shape_12 rfl (lv_at hl 0 rfl) ?_
      refine mm_get C0 hP iw_X9 0 rfl rfl 11 (by decide) fl_X9_31 rfl dX9_shape_13 ?_
      refine lv_iload_n hx hb dX9_shape_16 rfl (lv_at hl 3 rfl) ?_
      obtain ⟨h_9, hf⟩ := mm_cks hf
      refine mm_iald C0 hP 8 rfl h_9 dX9_shape_17 ?_
      refine lv_iconst (v := 1) hx hb dX9_shape_18 (by decide) ?_
      refine lv_iadd hx hb dX9_shape_19 ?_
      refine lv_iload_n hx hb dX9_shape_20 rfl (lv_at hl 2 rfl) ?_
      refine lv_icmp_le (tgt := 35) hx hb dX9_shape_21 (by decide) (fun c_10 => ?_) (fun c_10 => ?_)
      · have hf := mm_ip hf c_10
        refine lv_iload_n hx hb dX9_shape_35 rfl (lv_at hl 2 rfl) ?_
        exact tX9_shape_36 hd C0 hA N ih _ _ _ _ _ _ _ _ H locs ls hf hP hD hS (lv_sub hl [0, 1, 3] rfl)
      · have hf := mm_in hf c_10
        refine lv_aload_n hx hb dX9_shape_24 rfl (lv_at hl 0 rfl) ?_
        refine mm_get C0 hP iw_X9 0 rfl rfl 11 (by decide) fl_X9_31 rfl dX9_shape_25 ?_
        refine lv_iload_n hx hb dX9_shape_28 rfl (lv_at hl 3 rfl) ?_
        obtain ⟨h_11, hf⟩ := mm_cks hf
        refine mm_iald C0 hP 8 rfl h_11 dX9_shape_29 ?_
        refine lv_iconst (v := 1) hx hb dX9_shape_30 (by decide) ?_
        refine lv_iadd hx hb dX9_shape_31 ?_
        refine lv_goto (tgt := 36) hx hb dX9_shape_32 (by decide) ?_
        exact tX9_shape_36 hd C0 hA N ih _ _ _ _ _ _ _ _ H locs ls hf hP hD hS (lv_sub hl [0, 1, 3] rfl)

def fX9_shape (N : Nat) (x1 : Int32) (v_rowsOf : Int32) (v_columnsOf : Int32) (v_shapeRows : List Int32) (v_shapeColumns : List Int32) (v_below : List Int32) : Option (Int32) :=
    fX9_shape_4 N N x1 (0 : Int32) (0 : Int32) v_rowsOf v_columnsOf v_shapeRows v_shapeColumns v_below

set_option maxHeartbeats 4000000 in
set_option maxRecDepth 100000 in
theorem ctX9_shape {l : Launch} {D : va_G} {cI cL cS cH : ClassId} {a : Nat → Nat} {x1 : Int32} {v_keptMany : Int32} {v_done : Int32} {v_rowsOf : Int32} {v_columnsOf : Int32} {v_folded : Int32} {v_wronged : Int32} {v_tapeMany : Int32} {v_textMany : Int32} {v_base : Int32} {v_at : Int32} {v_ends : Int32} {v_fault : Int32} {v_opened : Int32} {v_bentMany : Int32} {v_bentWrong : Int32} {v_moreWorn : Int32} {v_planned : Int32} {v_allWrong : Int32} {v_allWorn : Int32} {v_z : Int32} {v_wishedField : Int32} {v_isFound : Bool} {v_bestWrong : Int32} {v_bestWorn : Int32} {v_bestMany : Int32} {v_soughtBy : Int32} {v_sought : Int32} {v_soughtAt : Int32} {v_foundMany : Int32} {v_foundOrder : Int32} {v_isKept : Bool} {v_imageRows : Int32} {v_imageColumns : Int32} {v_imageFolded : Int32} {v_imageWronged : Int32} {v_bodies : Int32} {v_ran : Int32} {v_ownKind : Int32} {v_ownNumber : Int32} {v_limit : List Int32} {v_changeWas : List Int32} {v_changeIs : List Int32} {v_shapeRows : List Int32} {v_shapeColumns : List Int32} {v_row : List Int32} {v_column : List Int32} {v_below : List Int32} {v_face : List Int32} {v_worn : List Int32} {v_lastBend : List Int32} {v_tape : List Int32} {v_text : List Int32} {v_names : List Int32} {v_bends : List Int32} {v_high : List Int32} {v_to : List Int32} {v_pileSize : List Int32} {v_planLine : List Int32} {v_planWay : List Int32} {v_way1 : List Int32} {v_bestWay : List Int32} {v_order1 : List Int32} {v_placeIn : List Int32} {v_bodyKind : List Int32} {v_trace : List Int32} {v_shelf : List Int32} {v_many : List Int32} {v_items : List Int64} {v_carried : List Int64} {r : Int32} {N d : Nat} (hd : 2 ≤ d) (hf : fX9_shape N x1 v_rowsOf v_columnsOf v_shapeRows v_shapeColumns v_below = some r) : mm_Ct l yX9_shape cX9_shape 4 (some .int) d D (mm_T cI cL cS cH) [.ref (a 0), .int x1] (wd_X9 cI cL cS cH a v_keptMany v_done v_rowsOf v_columnsOf v_folded v_wronged v_tapeMany v_textMany v_base v_at v_ends v_fault v_opened v_bentMany v_bentWrong v_moreWorn v_planned v_allWrong v_allWorn v_z v_wishedField v_isFound v_bestWrong v_bestWorn v_bestMany v_soughtBy v_sought v_soughtAt v_foundMany v_foundOrder v_isKept v_imageRows v_imageColumns v_imageFolded v_imageWronged v_bodies v_ran v_ownKind v_ownNumber v_limit v_changeWas v_changeIs v_shapeRows v_shapeColumns v_row v_column v_below v_face v_worn v_lastBend v_tape v_text v_names v_bends v_high v_to v_pileSize v_planLine v_planWay v_way1 v_bestWay v_order1 v_placeIn v_bodyKind v_trace v_shelf v_many v_items v_carried) (wd_X9 cI cL cS cH a v_keptMany v_done v_rowsOf v_columnsOf v_folded v_wronged v_tapeMany v_textMany v_base v_at v_ends v_fault v_opened v_bentMany v_bentWrong v_moreWorn v_planned v_allWrong v_allWorn v_z v_wishedField v_isFound v_bestWrong v_bestWorn v_bestMany v_soughtBy v_sought v_soughtAt v_foundMany v_foundOrder v_isKept v_imageRows v_imageColumns v_imageFolded v_imageWronged v_bodies v_ran v_ownKind v_ownNumber v_limit v_changeWas v_changeIs v_shapeRows v_shapeColumns v_row v_column v_below v_face v_worn v_lastBend v_tape v_text v_names v_bends v_high v_to v_pileSize v_planLine v_planWay v_way1 v_bestWay v_order1 v_placeIn v_bodyKind v_trace v_shelf v_many v_items v_carried) (some (.int r)) := by
  refine mm_of (by decide) (Nat.le_of_ble_eq_true rfl) ?_
  intro p e s m args below meth c A H locs ls C0 hP hD hA hS hl
  have C0 : mm_Cx p s m args meth c RX9 cX9_shape 4 (some .int) D (mm_T cI cL cS cH) A := C0
  obtain ⟨hx, hb, hml, hown, hts, hr, hlocks, hK, hSt⟩ := id C0
  have hl : lv_has ls 4 [(0, .ref (a 0)), (1, .int x1)] := hl
  unfold fX9_shape at hf
  refine lv_iconst (v := 0) hx hb dX9_shape_0 (by decide) ?_
  refine lv_istore_n (lv' := [(2, .int (0 : Int32)), (0, .ref (a 0)), (1, .int x1)]) hx hb dX9_shape_1 rfl hl (by decide) rfl (fun ls hl => ?_)
  refine lv_iconst (v := 0) hx hb dX9_shape_2 (by decide) ?_
  refine lv_istore_n (lv' := [(3, .int (0 : Int32)), (2, .int (0 : Int32)), (0, .ref (a 0)), (1, .int x1)]) hx hb dX9_shape_3 rfl hl (by decide) rfl (fun ls hl => ?_)
  exact tX9_shape_4 hd C0 hA N  N _ _ _ _ _ _ _ _ H locs ls hf hP hD hS (lv_sub hl [2, 3, 1, 0] rfl)

theorem nb_dX9_isField_0 : bls_w cX9_isField [(0, [27]), (1, [133]), (2, [9]), (3, [42]), (4, [182, 0, 127]), (7, [4]), (8, [100]), (9, [133]), (10, [184, 0, 111]), (13, [172])] := bls_of (by decide +kernel)
theorem dX9_isField_0 : decode cX9_isField 0 = .ok (.iload_n 1, 1) := op_27 nb_dX9_isField_0.1
theorem dX9_isField_1 : decode cX9_isField 1 = .ok (.i2l, 1) := op_133 nb_dX9_isField_0.2.1
theorem dX9_isField_2 : decode cX9_isField 2 = .ok (.lconst 0, 1) := op_9 nb_dX9_isField_0.2.2.1
theorem dX9_isField_3 : decode cX9_isField 3 = .ok (.aload_n 0, 1) := op_42 nb_dX9_isField_0.2.2.2.1
set_option maxRecDepth 100000 in
theorem dX9_isField_4 : decode cX9_isField 4 = .ok (.invokevirtual 127, 3) := (op_182 nb_dX9_isField_0.2.2.2.2.1).trans rfl
theorem dX9_isField_7 : decode cX9_isField 7 = .ok (.iconst 1, 1) := op_4 nb_dX9_isField_0.2.2.2.2.2.1
theorem dX9_isField_8 : decode cX9_isField 8 = .ok (.isub, 1) := op_100 nb_dX9_isField_0.2.2.2.2.2.2.1
theorem dX9_isField_9 : decode cX9_isField 9 = .ok (.i2l, 1) := op_133 nb_dX9_isField_0.2.2.2.2.2.2.2.1
set_option maxRecDepth 100000 in
theorem dX9_isField_10 : decode cX9_isField 10 = .ok (.invokestatic 111, 3) := (op_184 nb_dX9_isField_0.2.2.2.2.2.2.2.2.1).trans rfl
theorem dX9_isField_13 : decode cX9_isField 13 = .ok (.ireturn, 1) := op_172 nb_dX9_isField_0.2.2.2.2.2.2.2.2.2.1
def fX9_isField (N : Nat) (x1 : Int32) (v_rowsOf : Int32) (v_columnsOf : Int32) : Option (Bool) :=
    mm_bd1 (fX9_fields N v_rowsOf v_columnsOf) (fun (r_1 : Int32) =>
    mm_bd1 (fX9_within N ((x1).toInt64) (0 : Int64) ((r_1 - (1 : Int32)).toInt64)) (fun (r_3 : Bool) =>
    some (r_3)))

set_option maxHeartbeats 4000000 in
set_option maxRecDepth 100000 in
theorem ctX9_isField {l : Launch} {D : va_G} {cI cL cS cH : ClassId} {a : Nat → Nat} {x1 : Int32} {v_keptMany : Int32} {v_done : Int32} {v_rowsOf : Int32} {v_columnsOf : Int32} {v_folded : Int32} {v_wronged : Int32} {v_tapeMany : Int32} {v_textMany : Int32} {v_base : Int32} {v_at : Int32} {v_ends : Int32} {v_fault : Int32} {v_opened : Int32} {v_bentMany : Int32} {v_bentWrong : Int32} {v_moreWorn : Int32} {v_planned : Int32} {v_allWrong : Int32} {v_allWorn : Int32} {v_z : Int32} {v_wishedField : Int32} {v_isFound : Bool} {v_bestWrong : Int32} {v_bestWorn : Int32} {v_bestMany : Int32} {v_soughtBy : Int32} {v_sought : Int32} {v_soughtAt : Int32} {v_foundMany : Int32} {v_foundOrder : Int32} {v_isKept : Bool} {v_imageRows : Int32} {v_imageColumns : Int32} {v_imageFolded : Int32} {v_imageWronged : Int32} {v_bodies : Int32} {v_ran : Int32} {v_ownKind : Int32} {v_ownNumber : Int32} {v_limit : List Int32} {v_changeWas : List Int32} {v_changeIs : List Int32} {v_shapeRows : List Int32} {v_shapeColumns : List Int32} {v_row : List Int32} {v_column : List Int32} {v_below : List Int32} {v_face : List Int32} {v_worn : List Int32} {v_lastBend : List Int32} {v_tape : List Int32} {v_text : List Int32} {v_names : List Int32} {v_bends : List Int32} {v_high : List Int32} {v_to : List Int32} {v_pileSize : List Int32} {v_planLine : List Int32} {v_planWay : List Int32} {v_way1 : List Int32} {v_bestWay : List Int32} {v_order1 : List Int32} {v_placeIn : List Int32} {v_bodyKind : List Int32} {v_trace : List Int32} {v_shelf : List Int32} {v_many : List Int32} {v_items : List Int64} {v_carried : List Int64} {r : Bool} {N d : Nat} (hd : 2 ≤ d) (hf : fX9_isField N x1 v_rowsOf v_columnsOf = some r) : mm_Ct l yX9_isField cX9_isField 2 (some .boolean) d D (mm_T cI cL cS cH) [.ref (a 0), .int x1] (wd_X9 cI cL cS cH a v_keptMany v_done v_rowsOf v_columnsOf v_folded v_wronged v_tapeMany v_textMany v_base v_at v_ends v_fault v_opened v_bentMany v_bentWrong v_moreWorn v_planned v_allWrong v_allWorn v_z v_wishedField v_isFound v_bestWrong v_bestWorn v_bestMany v_soughtBy v_sought v_soughtAt v_foundMany v_foundOrder v_isKept v_imageRows v_imageColumns v_imageFolded v_imageWronged v_bodies v_ran v_ownKind v_ownNumber v_limit v_changeWas v_changeIs v_shapeRows v_shapeColumns v_row v_column v_below v_face v_worn v_lastBend v_tape v_text v_names v_bends v_high v_to v_pileSize v_planLine v_planWay v_way1 v_bestWay v_order1 v_placeIn v_bodyKind v_trace v_shelf v_many v_items v_carried) (wd_X9 cI cL cS cH a v_keptMany v_done v_rowsOf v_columnsOf v_folded v_wronged v_tapeMany v_textMany v_base v_at v_ends v_fault v_opened v_bentMany v_bentWrong v_moreWorn v_planned v_allWrong v_allWorn v_z v_wishedField v_isFound v_bestWrong v_bestWorn v_bestMany v_soughtBy v_sought v_soughtAt v_foundMany v_foundOrder v_isKept v_imageRows v_imageColumns v_imageFolded v_imageWronged v_bodies v_ran v_ownKind v_ownNumber v_limit v_changeWas v_changeIs v_shapeRows v_shapeColumns v_row v_column v_below v_face v_worn v_lastBend v_tape v_text v_names v_bends v_high v_to v_pileSize v_planLine v_planWay v_way1 v_bestWay v_order1 v_placeIn v_bodyKind v_trace v_shelf v_many v_items v_carried) (some (.int (mm_b r))) := by
  refine mm_of (by decide) (Nat.le_of_ble_eq_true rfl) ?_
  intro p e s m args below meth c A H locs ls C0 hP hD hA hS hl
  have C0 : mm_Cx p s m args meth c RX9 cX9_isField 2 (some .boolean) D (mm_T cI cL cS cH) A := C0
  obtain ⟨hx, hb, hml, hown, hts, hr, hlocks, hK, hSt⟩ := id C0
  have hl : lv_has ls 2 [(0, .ref (a 0)), (1, .int x1)] := hl
  unfold fX9_isField at hf
  refine lv_iload_n hx hb dX9_isField_0 rfl (lv_at hl 1 rfl) ?_
  refine lv_i2l hx hb dX9_isField_1 rfl ?_
  refine lv_lconst (v := 0) hx hb dX9_isField_2 (by decide) ?_
  refine lv_aload_n hx hb dX9_isField_3 rfl (lv_at hl 0 rfl) ?_
  obtain ⟨r_1, hc_2, hf⟩ := mm_bd1s hf
  refine mm_callVF (q0 := 0) (ci := 9) (rest := [.long (0 : Int64), .long ((x1).toInt64)]) C0 lk_X9_127 (ctX9_fields (a := a) (d := d - 1) (by omega) hc_2) (by omega) rfl hl.1 rfl (mm_cat rfl) dX9_isField_4 hP hD hA hS rfl rfl (fun H locs hP hD hS => ?_)
  refine W.eq (g2 := F0 m 7 ls [.int r_1, .long (0 : Int64), .long ((x1).toInt64)]) rfl ?_
  refine lv_iconst (v := 1) hx hb dX9_isField_7 (by decide) ?_
  refine lv_isub hx hb dX9_isField_8 ?_
  refine lv_i2l hx hb dX9_isField_9 rfl ?_
  obtain ⟨r_3, hc_4, hf⟩ := mm_bd1s hf
  refine mm_callS0 (rest := []) C0 lk_X9_111 (ctX9_within (d := d - 1) (by omega) hc_4) (by omega) rfl hl.1 rfl (mm_cat rfl) dX9_isField_10 hP hD hA hS (fun H locs hP hS => ?_)
  refine W.eq (g2 := F0 m 13 ls [.int (mm_b r_3)]) rfl ?_
  obtain rfl := mm_inj1 hf
  exact mm_zret C0 hP hD hS dX9_isField_13 rfl
end
section
/-! reference: X9_whereOf, X9_where, X9_isPile, X9_pile, X9_tornNow, X9_led, X9_plan, X9_isShelf -/
theorem nb_dX9_whereOf_0 : bls_w cX9_whereOf [(0, [16, 32]), (2, [27]), (3, [104]), (4, [28]), (5, [96]), (6, [54, 4]), (8, [29]), (9, [154, 0, 13]), (12, [42]), (13, [180, 0, 25]), (16, [21, 4]), (18, [46])] := bls_of (by decide +kernel)
set_option maxRecDepth 100000 in
theorem dX9_whereOf_0 : decode cX9_whereOf 0 = .ok (.bipush 32, 2) := (op_16 nb_dX9_whereOf_0.1).trans rfl
theorem dX9_whereOf_2 : decode cX9_whereOf 2 = .ok (.iload_n 1, 1) := op_27 nb_dX9_whereOf_0.2.1
theorem dX9_whereOf_3 : decode cX9_whereOf 3 = .ok (.imul, 1) := op_104 nb_dX9_whereOf_0.2.2.1
theorem dX9_whereOf_4 : decode cX9_whereOf 4 = .ok (.iload_n 2, 1) := op_28 nb_dX9_whereOf_0.2.2.2.1
theorem dX9_whereOf_5 : decode cX9_whereOf 5 = .ok (.iadd, 1) := op_96 nb_dX9_whereOf_0.2.2.2.2.1
set_option maxRecDepth 100000 in
theorem dX9_whereOf_6 : decode cX9_whereOf 6 = .ok (.istore 4, 2) := (op_54 nb_dX9_whereOf_0.2.2.2.2.2.1).trans rfl
theorem dX9_whereOf_8 : decode cX9_whereOf 8 = .ok (.iload_n 3, 1) := op_29 nb_dX9_whereOf_0.2.2.2.2.2.2.1
set_option maxRecDepth 100000 in
theorem dX9_whereOf_9 : decode cX9_whereOf 9 = .ok (.ifCond .ne 13, 3) := (op_154 nb_dX9_whereOf_0.2.2.2.2.2.2.2.1).trans rfl
theorem dX9_whereOf_12 : decode cX9_whereOf 12 = .ok (.aload_n 0, 1) := op_42 nb_dX9_whereOf_0.2.2.2.2.2.2.2.2.1
set_option maxRecDepth 100000 in
theorem dX9_whereOf_13 : decode cX9_whereOf 13 = .ok (.getfield 25, 3) := (op_180 nb_dX9_whereOf_0.2.2.2.2.2.2.2.2.2.1).trans rfl
set_option maxRecDepth 100000 in
theorem dX9_whereOf_16 : decode cX9_whereOf 16 = .ok (.iload 4, 2) := (op_21 nb_dX9_whereOf_0.2.2.2.2.2.2.2.2.2.2.1).trans rfl
theorem dX9_whereOf_18 : decode cX9_whereOf 18 = .ok (.iaload, 1) := op_46 nb_dX9_whereOf_0.2.2.2.2.2.2.2.2.2.2.2.1
theorem nb_dX9_whereOf_19 : bls_w cX9_whereOf [(19, [167, 0, 40]), (22, [29]), (23, [4]), (24, [160, 0, 13]), (27, [42]), (28, [180, 0, 28]), (31, [21, 4]), (33, [46]), (34, [167, 0, 25]), (37, [29]), (38, [5]), (39, [160, 0, 13])] := bls_of (by decide +kernel)
set_option maxRecDepth 100000 in
theorem dX9_whereOf_19 : decode cX9_whereOf 19 = .ok (.goto 40, 3) := (op_167 nb_dX9_whereOf_19.1).trans rfl
theorem dX9_whereOf_22 : decode cX9_whereOf 22 = .ok (.iload_n 3, 1) := op_29 nb_dX9_whereOf_19.2.1
theorem dX9_whereOf_23 : decode cX9_whereOf 23 = .ok (.iconst 1, 1) := op_4 nb_dX9_whereOf_19.2.2.1
set_option maxRecDepth 100000 in
theorem dX9_whereOf_24 : decode cX9_whereOf 24 = .ok (.if_icmp .ne 13, 3) := (op_160 nb_dX9_whereOf_19.2.2.2.1).trans rfl
theorem dX9_whereOf_27 : decode cX9_whereOf 27 = .ok (.aload_n 0, 1) := op_42 nb_dX9_whereOf_19.2.2.2.2.1
set_option maxRecDepth 100000 in
theorem dX9_whereOf_28 : decode cX9_whereOf 28 = .ok (.getfield 28, 3) := (op_180 nb_dX9_whereOf_19.2.2.2.2.2.1).trans rfl
set_option maxRecDepth 100000 in
theorem dX9_whereOf_31 : decode cX9_whereOf 31 = .ok (.iload 4, 2) := (op_21 nb_dX9_whereOf_19.2.2.2.2.2.2.1).trans rfl
theorem dX9_whereOf_33 : decode cX9_whereOf 33 = .ok (.iaload, 1) := op_46 nb_dX9_whereOf_19.2.2.2.2.2.2.2.1
set_option maxRecDepth 100000 in
theorem dX9_whereOf_34 : decode cX9_whereOf 34 = .ok (.goto 25, 3) := (op_167 nb_dX9_whereOf_19.2.2.2.2.2.2.2.2.1).trans rfl
theorem dX9_whereOf_37 : decode cX9_whereOf 37 = .ok (.iload_n 3, 1) := op_29 nb_dX9_whereOf_19.2.2.2.2.2.2.2.2.2.1
theorem dX9_whereOf_38 : decode cX9_whereOf 38 = .ok (.iconst 2, 1) := op_5 nb_dX9_whereOf_19.2.2.2.2.2.2.2.2.2.2.1
set_option maxRecDepth 100000 in
theorem dX9_whereOf_39 : decode cX9_whereOf 39 = .ok (.if_icmp .ne 13, 3) := (op_160 nb_dX9_whereOf_19.2.2.2.2.2.2.2.2.2.2.2.1).trans rfl
theorem nb_dX9_whereOf_42 : bls_w cX9_whereOf [(42, [42]), (43, [180, 0, 31]), (46, [21, 4]), (48, [46]), (49, [167, 0, 10]), (52, [42]), (53, [180, 0, 34]), (56, [21, 4]), (58, [46]), (59, [172])] := bls_of (by decide +kernel)
theorem dX9_whereOf_42 : decode cX9_whereOf 42 = .ok (.aload_n 0, 1) := op_42 nb_dX9_whereOf_42.1
set_option maxRecDepth 100000 in
theorem dX9_whereOf_43 : decode cX9_whereOf 43 = .ok (.getfield 31, 3) := (op_180 nb_dX9_whereOf_42.2.1).trans rfl
set_option maxRecDepth 100000 in
theorem dX9_whereOf_46 : decode cX9_whereOf 46 = .ok (.iload 4, 2) := (op_21 nb_dX9_whereOf_42.2.2.1).trans rfl
theorem dX9_whereOf_48 : decode cX9_whereOf 48 = .ok (.iaload, 1) := op_46 nb_dX9_whereOf_42.2.2.2.1
set_option maxRecDepth 100000 in
theorem dX9_whereOf_49 : decode cX9_whereOf 49 = .ok (.goto 10, 3) := (op_167 nb_dX9_whereOf_42.2.2.2.2.1).trans rfl
theorem dX9_whereOf_52 : decode cX9_whereOf 52 = .ok (.aload_n 0, 1) := op_42 nb_dX9_whereOf_42.2.2.2.2.2.1
set_option maxRecDepth 100000 in
theorem dX9_whereOf_53 : decode cX9_whereOf 53 = .ok (.getfield 34, 3) := (op_180 nb_dX9_whereOf_42.2.2.2.2.2.2.1).trans rfl
set_option maxRecDepth 100000 in
theorem dX9_whereOf_56 : decode cX9_whereOf 56 = .ok (.iload 4, 2) := (op_21 nb_dX9_whereOf_42.2.2.2.2.2.2.2.1).trans rfl
theorem dX9_whereOf_58 : decode cX9_whereOf 58 = .ok (.iaload, 1) := op_46 nb_dX9_whereOf_42.2.2.2.2.2.2.2.2.1
theorem dX9_whereOf_59 : decode cX9_whereOf 59 = .ok (.ireturn, 1) := op_172 nb_dX9_whereOf_42.2.2.2.2.2.2.2.2.2.1
def fX9_whereOf (N : Nat) (x1 : Int32) (x2 : Int32) (x3 : Int32) (v_row : List Int32) (v_column : List Int32) (v_below : List Int32) (v_face : List Int32) : Option (Int32) :=
    mm_nm ((((32 : Int32) * x1) + x2)) (fun (y_1 : Int32) =>
    if x3 = 0 then
    (mm_ck (mm_inb y_1 v_row.length) (some ((mm_ig v_row y_1))))
    else (if x3 = (1 : Int32) then
    (mm_ck (mm_inb y_1 v_column.length) (some ((mm_ig v_column y_1))))
    else (if x3 = (2 : Int32) then
    (mm_ck (mm_inb y_1 v_below.length) (some ((mm_ig v_below y_1))))
    else (mm_ck (mm_inb y_1 v_face.length) (some ((mm_ig v_face y_1)))))))

set_option maxHeartbeats 4000000 in
set_option maxRecDepth 100000 in
theorem ctX9_whereOf {l : Launch} {D : va_G} {cI cL cS cH : ClassId} {a : Nat → Nat} {x1 : Int32} {x2 : Int32} {x3 : Int32} {v_keptMany : Int32} {v_done : Int32} {v_rowsOf : Int32} {v_columnsOf : Int32} {v_folded : Int32} {v_wronged : Int32} {v_tapeMany : Int32} {v_textMany : Int32} {v_base : Int32} {v_at : Int32} {v_ends : Int32} {v_fault : Int32} {v_opened : Int32} {v_bentMany : Int32} {v_bentWrong : Int32} {v_moreWorn : Int32} {v_planned : Int32} {v_allWrong : Int32} {v_allWorn : Int32} {v_z : Int32} {v_wishedField : Int32} {v_isFound : Bool} {v_bestWrong : Int32} {v_bestWorn : Int32} {v_bestMany : Int32} {v_soughtBy : Int32} {v_sought : Int32} {v_soughtAt : Int32} {v_foundMany : Int32} {v_foundOrder : Int32} {v_isKept : Bool} {v_imageRows : Int32} {v_imageColumns : Int32} {v_imageFolded : Int32} {v_imageWronged : Int32} {v_bodies : Int32} {v_ran : Int32} {v_ownKind : Int32} {v_ownNumber : Int32} {v_limit : List Int32} {v_changeWas : List Int32} {v_changeIs : List Int32} {v_shapeRows : List Int32} {v_shapeColumns : List Int32} {v_row : List Int32} {v_column : List Int32} {v_below : List Int32} {v_face : List Int32} {v_worn : List Int32} {v_lastBend : List Int32} {v_tape : List Int32} {v_text : List Int32} {v_names : List Int32} {v_bends : List Int32} {v_high : List Int32} {v_to : List Int32} {v_pileSize : List Int32} {v_planLine : List Int32} {v_planWay : List Int32} {v_way1 : List Int32} {v_bestWay : List Int32} {v_order1 : List Int32} {v_placeIn : List Int32} {v_bodyKind : List Int32} {v_trace : List Int32} {v_shelf : List Int32} {v_many : List Int32} {v_items : List Int64} {v_carried : List Int64} {r : Int32} {N d : Nat} (hd : 1 ≤ d) (hf : fX9_whereOf N x1 x2 x3 v_row v_column v_below v_face = some r) : mm_Ct l yX9_whereOf cX9_whereOf 5 (some .int) d D (mm_T cI cL cS cH) [.ref (a 0), .int x1, .int x2, .int x3] (wd_X9 cI cL cS cH a v_keptMany v_done v_rowsOf v_columnsOf v_folded v_wronged v_tapeMany v_textMany v_base v_at v_ends v_fault v_opened v_bentMany v_bentWrong v_moreWorn v_planned v_allWrong v_allWorn v_z v_wishedField v_isFound v_bestWrong v_bestWorn v_bestMany v_soughtBy v_sought v_soughtAt v_foundMany v_foundOrder v_isKept v_imageRows v_imageColumns v_imageFolded v_imageWronged v_bodies v_ran v_ownKind v_ownNumber v_limit v_changeWas v_changeIs v_shapeRows v_shapeColumns v_row v_column v_below v_face v_worn v_lastBend v_tape v_text v_names v_bends v_high v_to v_pileSize v_planLine v_planWay v_way1 v_bestWay v_order1 v_placeIn v_bodyKind v_trace v_shelf v_many v_items v_carried) (wd_X9 cI cL cS cH a v_keptMany v_done v_rowsOf v_columnsOf v_folded v_wronged v_tapeMany v_textMany v_base v_at v_ends v_fault v_opened v_bentMany v_bentWrong v_moreWorn v_planned v_allWrong v_allWorn v_z v_wishedField v_isFound v_bestWrong v_bestWorn v_bestMany v_soughtBy v_sought v_soughtAt v_foundMany v_foundOrder v_isKept v_imageRows v_imageColumns v_imageFolded v_imageWronged v_bodies v_ran v_ownKind v_ownNumber v_limit v_changeWas v_changeIs v_shapeRows v_shapeColumns v_row v_column v_below v_face v_worn v_lastBend v_tape v_text v_names v_bends v_high v_to v_pileSize v_planLine v_planWay v_way1 v_bestWay v_order1 v_placeIn v_bodyKind v_trace v_shelf v_many v_items v_carried) (some (.int r)) := by
  refine mm_of (by decide) (Nat.le_of_ble_eq_true rfl) ?_
  intro p e s m args below meth c A H locs ls C0 hP hD hA hS hl
  have C0 : mm_Cx p s m args meth c RX9 cX9_whereOf 5 (some .int) D (mm_T cI cL cS cH) A := C0
  obtain ⟨hx, hb, hml, hown, hts, hr, hlocks, hK, hSt⟩ := id C0
  have hl : lv_has ls 5 [(0, .ref (a 0)), (1, .int x1), (2, .int x2), (3, .int x3)] := hl
  unfold fX9_whereOf at hf
  refine lv_bipush (v := 32) hx hb dX9_whereOf_0 (by decide) ?_
  refine lv_iload_n hx hb dX9_whereOf_2 rfl (lv_at hl 1 rfl) ?_
  refine lv_imul hx hb dX9_whereOf_3 ?_
  refine lv_iload_n hx hb dX9_whereOf_4 rfl (lv_at hl 2 rfl) ?_
  refine lv_iadd hx hb dX9_whereOf_5 ?_
  refine lv_topi (fun y_1 ey_1 => ?_)
  have hf := mm_nms hf ey_1
  refine lv_istore (lv' := [(4, .int y_1), (0, .ref (a 0)), (1, .int x1), (2, .int x2), (3, .int x3)]) hx hb dX9_whereOf_6 hl (by decide) rfl (fun ls hl => ?_)
  refine lv_iload_n hx hb dX9_whereOf_8 rfl (lv_at hl 4 rfl) ?_
  refine lv_if_ne (tgt := 22) hx hb dX9_whereOf_9 (by decide) (fun c_2 => ?_) (fun c_2 => ?_)
  · have hf := mm_in hf c_2
    refine lv_iload_n hx hb dX9_whereOf_22 rfl (lv_at hl 4 rfl) ?_
    refine lv_iconst (v := 1) hx hb dX9_whereOf_23 (by decide) ?_
    refine lv_icmp_ne (tgt := 37) hx hb dX9_whereOf_24 (by decide) (fun c_3 => ?_) (fun c_3 => ?_)
    · have hf := mm_in hf c_3
      refine lv_iload_n hx hb dX9_whereOf_37 rfl (lv_at hl 4 rfl) ?_
      refine lv_iconst (v := 2) hx hb dX9_whereOf_38 (by decide) ?_
      refine lv_icmp_ne (tgt := 52) hx hb dX9_whereOf_39 (by decide) (fun c_4 => ?_) (fun c_4 => ?_)
      · have hf := mm_in hf c_4
        refine lv_aload_n hx hb dX9_whereOf_52 rfl (lv_at hl 1 rfl) ?_
        refine mm_get C0 hP iw_X9 0 rfl rfl 12 (by decide) fl_X9_34 rfl dX9_whereOf_53 ?_
        refine lv_iload hx hb dX9_whereOf_56 (lv_at hl 0 rfl) ?_
        obtain ⟨h_5, hf⟩ := mm_cks hf
        refine mm_iald C0 hP 9 rfl h_5 dX9_whereOf_58 ?_
        obtain rfl := mm_inj1 hf
        exact mm_iret C0 hP hD hS dX9_whereOf_59
      · have hf := mm_ip hf c_4
        refine lv_aload_n hx hb dX9_whereOf_42 rfl (lv_at hl 1 rfl) ?_
        refine mm_get C0 hP iw_X9 0 rfl rfl 11 (by decide) fl_X9_31 rfl dX9_whereOf_43 ?_
        refine lv_iload hx hb dX9_whereOf_46 (lv_at hl 0 rfl) ?_
        obtain ⟨h_6, hf⟩ := mm_cks hf
        refine mm_iald C0 hP 8 rfl h_6 dX9_whereOf_48 ?_
        refine lv_goto (tgt := 59) hx hb dX9_whereOf_49 (by decide) ?_
        obtain rfl := mm_inj1 hf
        exact mm_iret C0 hP hD hS dX9_whereOf_59
    · have hf := mm_ip hf c_3
      refine lv_aload_n hx hb dX9_whereOf_27 rfl (lv_at hl 1 rfl) ?_
      refine mm_get C0 hP iw_X9 0 rfl rfl 10 (by decide) fl_X9_28 rfl dX9_whereOf_28 ?_
      refine lv_iload hx hb dX9_whereOf_31 (lv_at hl 0 rfl) ?_
      obtain ⟨h_7, hf⟩ := mm_cks hf
      refine mm_iald C0 hP 7 rfl h_7 dX9_whereOf_33 ?_
      refine lv_goto (tgt := 59) hx hb dX9_whereOf_34 (by decide) ?_
      obtain rfl := mm_inj1 hf
      exact mm_iret C0 hP hD hS dX9_whereOf_59
  · have hf := mm_ip hf c_2
    refine lv_aload_n hx hb dX9_whereOf_12 rfl (lv_at hl 1 rfl) ?_
    refine mm_get C0 hP iw_X9 0 rfl rfl 9 (by decide) fl_X9_25 rfl dX9_whereOf_13 ?_
    refine lv_iload hx hb dX9_whereOf_16 (lv_at hl 0 rfl) ?_
    obtain ⟨h_8, hf⟩ := mm_cks hf
    refine mm_iald C0 hP 6 rfl h_8 dX9_whereOf_18 ?_
    refine lv_goto (tgt := 59) hx hb dX9_whereOf_19 (by decide) ?_
    obtain rfl := mm_inj1 hf
    exact mm_iret C0 hP hD hS dX9_whereOf_59

theorem nb_dX9_where_0 : bls_w cX9_where [(0, [42]), (1, [27]), (2, [182, 0, 249]), (5, [153, 0, 25]), (8, [28]), (9, [133]), (10, [9]), (11, [20, 0, 252]), (14, [184, 0, 111]), (17, [153, 0, 13]), (20, [42]), (21, [3])] := bls_of (by decide +kernel)
theorem dX9_where_0 : decode cX9_where 0 = .ok (.aload_n 0, 1) := op_42 nb_dX9_where_0.1
theorem dX9_where_1 : decode cX9_where 1 = .ok (.iload_n 1, 1) := op_27 nb_dX9_where_0.2.1
set_option maxRecDepth 100000 in
theorem dX9_where_2 : decode cX9_where 2 = .ok (.invokevirtual 249, 3) := (op_182 nb_dX9_where_0.2.2.1).trans rfl
set_option maxRecDepth 100000 in
theorem dX9_where_5 : decode cX9_where 5 = .ok (.ifCond .eq 25, 3) := (op_153 nb_dX9_where_0.2.2.2.1).trans rfl
theorem dX9_where_8 : decode cX9_where 8 = .ok (.iload_n 2, 1) := op_28 nb_dX9_where_0.2.2.2.2.1
theorem dX9_where_9 : decode cX9_where 9 = .ok (.i2l, 1) := op_133 nb_dX9_where_0.2.2.2.2.2.1
theorem dX9_where_10 : decode cX9_where 10 = .ok (.lconst 0, 1) := op_9 nb_dX9_where_0.2.2.2.2.2.2.1
set_option maxRecDepth 100000 in
theorem dX9_where_11 : decode cX9_where 11 = .ok (.ldc2_w 252, 3) := (op_20 nb_dX9_where_0.2.2.2.2.2.2.2.1).trans rfl
set_option maxRecDepth 100000 in
theorem dX9_where_14 : decode cX9_where 14 = .ok (.invokestatic 111, 3) := (op_184 nb_dX9_where_0.2.2.2.2.2.2.2.2.1).trans rfl
set_option maxRecDepth 100000 in
theorem dX9_where_17 : decode cX9_where 17 = .ok (.ifCond .eq 13, 3) := (op_153 nb_dX9_where_0.2.2.2.2.2.2.2.2.2.1).trans rfl
theorem dX9_where_20 : decode cX9_where 20 = .ok (.aload_n 0, 1) := op_42 nb_dX9_where_0.2.2.2.2.2.2.2.2.2.2.1
theorem dX9_where_21 : decode cX9_where 21 = .ok (.iconst 0, 1) := op_3 nb_dX9_where_0.2.2.2.2.2.2.2.2.2.2.2.1
theorem nb_dX9_where_22 : bls_w cX9_where [(22, [27]), (23, [28]), (24, [182, 0, 254]), (27, [167, 0, 4]), (30, [2]), (31, [172])] := bls_of (by decide +kernel)
theorem dX9_where_22 : decode cX9_where 22 = .ok (.iload_n 1, 1) := op_27 nb_dX9_where_22.1
theorem dX9_where_23 : decode cX9_where 23 = .ok (.iload_n 2, 1) := op_28 nb_dX9_where_22.2.1
set_option maxRecDepth 100000 in
theorem dX9_where_24 : decode cX9_where 24 = .ok (.invokevirtual 254, 3) := (op_182 nb_dX9_where_22.2.2.1).trans rfl
set_option maxRecDepth 100000 in
theorem dX9_where_27 : decode cX9_where 27 = .ok (.goto 4, 3) := (op_167 nb_dX9_where_22.2.2.2.1).trans rfl
theorem dX9_where_30 : decode cX9_where 30 = .ok (.iconst (-1), 1) := op_2 nb_dX9_where_22.2.2.2.2.1
theorem dX9_where_31 : decode cX9_where 31 = .ok (.ireturn, 1) := op_172 nb_dX9_where_22.2.2.2.2.2.1
def fX9_where (N : Nat) (x1 : Int32) (x2 : Int32) (v_rowsOf : Int32) (v_columnsOf : Int32) (v_row : List Int32) (v_column : List Int32) (v_below : List Int32) (v_face : List Int32) : Option (Int32) :=
    mm_bd1 (fX9_isField N x1 v_rowsOf v_columnsOf) (fun (r_1 : Bool) =>
    if r_1 = false then
    (some ((-1 : Int32)))
    else (mm_bd1 (fX9_within N ((x2).toInt64) (0 : Int64) (3 : Int64)) (fun (r_4 : Bool) =>
    if r_4 = false then
    (some ((-1 : Int32)))
    else (mm_bd1 (fX9_whereOf N (0 : Int32) x1 x2 v_row v_column v_below v_face) (fun (r_7 : Int32) =>
    some (r_7))))))

set_option maxHeartbeats 4000000 in
set_option maxRecDepth 100000 in
theorem ctX9_where {l : Launch} {D : va_G} {cI cL cS cH : ClassId} {a : Nat → Nat} {x1 : Int32} {x2 : Int32} {v_keptMany : Int32} {v_done : Int32} {v_rowsOf : Int32} {v_columnsOf : Int32} {v_folded : Int32} {v_wronged : Int32} {v_tapeMany : Int32} {v_textMany : Int32} {v_base : Int32} {v_at : Int32} {v_ends : Int32} {v_fault : Int32} {v_opened : Int32} {v_bentMany : Int32} {v_bentWrong : Int32} {v_moreWorn : Int32} {v_planned : Int32} {v_allWrong : Int32} {v_allWorn : Int32} {v_z : Int32} {v_wishedField : Int32} {v_isFound : Bool} {v_bestWrong : Int32} {v_bestWorn : Int32} {v_bestMany : Int32} {v_soughtBy : Int32} {v_sought : Int32} {v_soughtAt : Int32} {v_foundMany : Int32} {v_foundOrder : Int32} {v_isKept : Bool} {v_imageRows : Int32} {v_imageColumns : Int32} {v_imageFolded : Int32} {v_imageWronged : Int32} {v_bodies : Int32} {v_ran : Int32} {v_ownKind : Int32} {v_ownNumber : Int32} {v_limit : List Int32} {v_changeWas : List Int32} {v_changeIs : List Int32} {v_shapeRows : List Int32} {v_shapeColumns : List Int32} {v_row : List Int32} {v_column : List Int32} {v_below : List Int32} {v_face : List Int32} {v_worn : List Int32} {v_lastBend : List Int32} {v_tape : List Int32} {v_text : List Int32} {v_names : List Int32} {v_bends : List Int32} {v_high : List Int32} {v_to : List Int32} {v_pileSize : List Int32} {v_planLine : List Int32} {v_planWay : List Int32} {v_way1 : List Int32} {v_bestWay : List Int32} {v_order1 : List Int32} {v_placeIn : List Int32} {v_bodyKind : List Int32} {v_trace : List Int32} {v_shelf : List Int32} {v_many : List Int32} {v_items : List Int64} {v_carried : List Int64} {r : Int32} {N d : Nat} (hd : 3 ≤ d) (hf : fX9_where N x1 x2 v_rowsOf v_columnsOf v_row v_column v_below v_face = some r) : mm_Ct l yX9_where cX9_where 3 (some .int) d D (mm_T cI cL cS cH) [.ref (a 0), .int x1, .int x2] (wd_X9 cI cL cS cH a v_keptMany v_done v_rowsOf v_columnsOf v_folded v_wronged v_tapeMany v_textMany v_base v_at v_ends v_fault v_opened v_bentMany v_bentWrong v_moreWorn v_planned v_allWrong v_allWorn v_z v_wishedField v_isFound v_bestWrong v_bestWorn v_bestMany v_soughtBy v_sought v_soughtAt v_foundMany v_foundOrder v_isKept v_imageRows v_imageColumns v_imageFolded v_imageWronged v_bodies v_ran v_ownKind v_ownNumber v_limit v_changeWas v_changeIs v_shapeRows v_shapeColumns v_row v_column v_below v_face v_worn v_lastBend v_tape v_text v_names v_bends v_high v_to v_pileSize v_planLine v_planWay v_way1 v_bestWay v_order1 v_placeIn v_bodyKind v_trace v_shelf v_many v_items v_carried) (wd_X9 cI cL cS cH a v_keptMany v_done v_rowsOf v_columnsOf v_folded v_wronged v_tapeMany v_textMany v_base v_at v_ends v_fault v_opened v_bentMany v_bentWrong v_moreWorn v_planned v_allWrong v_allWorn v_z v_wishedField v_isFound v_bestWrong v_bestWorn v_bestMany v_soughtBy v_sought v_soughtAt v_foundMany v_foundOrder v_isKept v_imageRows v_imageColumns v_imageFolded v_imageWronged v_bodies v_ran v_ownKind v_ownNumber v_limit v_changeWas v_changeIs v_shapeRows v_shapeColumns v_row v_column v_below v_face v_worn v_lastBend v_tape v_text v_names v_bends v_high v_to v_pileSize v_planLine v_planWay v_way1 v_bestWay v_order1 v_placeIn v_bodyKind v_trace v_shelf v_many v_items v_carried) (some (.int r)) := by
  refine mm_of (by decide) (Nat.le_of_ble_eq_true rfl) ?_
  intro p e s m args below meth c A H locs ls C0 hP hD hA hS hl
  have C0 : mm_Cx p s m args meth c RX9 cX9_where 3 (some .int) D (mm_T cI cL cS cH) A := C0
  obtain ⟨hx, hb, hml, hown, hts, hr, hlocks, hK, hSt⟩ := id C0
  have hl : lv_has ls 3 [(0, .ref (a 0)), (1, .int x1), (2, .int x2)] := hl
  unfold fX9_where at hf
  refine lv_aload_n hx hb dX9_where_0 rfl (lv_at hl 0 rfl) ?_
  refine lv_iload_n hx hb dX9_where_1 rfl (lv_at hl 1 rfl) ?_
  obtain ⟨r_1, hc_2, hf⟩ := mm_bd1s hf
  refine mm_callVF (q0 := 0) (ci := 9) (rest := []) C0 lk_X9_249 (ctX9_isField (a := a) (d := d - 1) (by omega) hc_2) (by omega) rfl hl.1 rfl (mm_cat rfl) dX9_where_2 hP hD hA hS rfl rfl (fun H locs hP hD hS => ?_)
  refine W.eq (g2 := F0 m 5 ls [.int (mm_b r_1)]) rfl ?_
  refine lv_if_eq (tgt := 30) hx hb dX9_where_5 (by decide) (fun c_3 => ?_) (fun c_3 => ?_)
  · have hf := mm_ip hf (mm_b0 c_3)
    refine lv_iconst (v := -1) hx hb dX9_where_30 (by decide) ?_
    obtain rfl := mm_inj1 hf
    exact mm_iret C0 hP hD hS dX9_where_31
  · have hf := mm_in hf (mm_b1 c_3)
    refine lv_iload_n hx hb dX9_where_8 rfl (lv_at hl 2 rfl) ?_
    refine lv_i2l hx hb dX9_where_9 rfl ?_
    refine lv_lconst (v := 0) hx hb dX9_where_10 (by decide) ?_
    refine lv_ldc2 hx hb hown (hts _ kc_X9_252) dX9_where_11 ?_
    obtain ⟨r_4, hc_5, hf⟩ := mm_bd1s hf
    refine mm_callS0 (rest := []) C0 lk_X9_111 (ctX9_within (d := d - 1) (by omega) hc_5) (by omega) rfl hl.1 rfl (mm_cat rfl) dX9_where_14 hP hD hA hS (fun H locs hP hS => ?_)
    refine W.eq (g2 := F0 m 17 ls [.int (mm_b r_4)]) rfl ?_
    refine lv_if_eq (tgt := 30) hx hb dX9_where_17 (by decide) (fun c_6 => ?_) (fun c_6 => ?_)
    · have hf := mm_ip hf (mm_b0 c_6)
      refine lv_iconst (v := -1) hx hb dX9_where_30 (by decide) ?_
      obtain rfl := mm_inj1 hf
      exact mm_iret C0 hP hD hS dX9_where_31
    · have hf := mm_in hf (mm_b1 c_6)
      refine lv_aload_n hx hb dX9_where_20 rfl (lv_at hl 0 rfl) ?_
      refine lv_iconst (v := 0) hx hb dX9_where_21 (by decide) ?_
      refine lv_iload_n hx hb dX9_where_22 rfl (lv_at hl 1 rfl) ?_
      refine lv_iload_n hx hb dX9_where_23 rfl (lv_at hl 2 rfl) ?_
      obtain ⟨r_7, hc_8, hf⟩ := mm_bd1s hf
      refine mm_callVF (q0 := 0) (ci := 9) (rest := []) C0 lk_X9_254 (ctX9_whereOf (a := a) (d := d - 1) (by omega) hc_8) (by omega) rfl hl.1 rfl (mm_cat rfl) dX9_where_24 hP hD hA hS rfl rfl (fun H locs hP hD hS => ?_)
      refine W.eq (g2 := F0 m 27 ls [.int r_7]) rfl ?_
      refine lv_goto (tgt := 31) hx hb dX9_where_27 (by decide) ?_
      obtain rfl := mm_inj1 hf
      exact mm_iret C0 hP hD hS dX9_where_31

theorem nb_dX9_isPile_0 : bls_w cX9_isPile [(0, [28]), (1, [155, 0, 33]), (4, [28]), (5, [16, 10]), (7, [108]), (8, [42]), (9, [180, 0, 19]), (12, [27]), (13, [46]), (14, [162, 0, 20]), (17, [28]), (18, [16, 10])] := bls_of (by decide +kernel)
theorem dX9_isPile_0 : decode cX9_isPile 0 = .ok (.iload_n 2, 1) := op_28 nb_dX9_isPile_0.1
set_option maxRecDepth 100000 in
theorem dX9_isPile_1 : decode cX9_isPile 1 = .ok (.ifCond .lt 33, 3) := (op_155 nb_dX9_isPile_0.2.1).trans rfl
theorem dX9_isPile_4 : decode cX9_isPile 4 = .ok (.iload_n 2, 1) := op_28 nb_dX9_isPile_0.2.2.1
set_option maxRecDepth 100000 in
theorem dX9_isPile_5 : decode cX9_isPile 5 = .ok (.bipush 10, 2) := (op_16 nb_dX9_isPile_0.2.2.2.1).trans rfl
theorem dX9_isPile_7 : decode cX9_isPile 7 = .ok (.idiv, 1) := op_108 nb_dX9_isPile_0.2.2.2.2.1
theorem dX9_isPile_8 : decode cX9_isPile 8 = .ok (.aload_n 0, 1) := op_42 nb_dX9_isPile_0.2.2.2.2.2.1
set_option maxRecDepth 100000 in
theorem dX9_isPile_9 : decode cX9_isPile 9 = .ok (.getfield 19, 3) := (op_180 nb_dX9_isPile_0.2.2.2.2.2.2.1).trans rfl
theorem dX9_isPile_12 : decode cX9_isPile 12 = .ok (.iload_n 1, 1) := op_27 nb_dX9_isPile_0.2.2.2.2.2.2.2.1
theorem dX9_isPile_13 : decode cX9_isPile 13 = .ok (.iaload, 1) := op_46 nb_dX9_isPile_0.2.2.2.2.2.2.2.2.1
set_option maxRecDepth 100000 in
theorem dX9_isPile_14 : decode cX9_isPile 14 = .ok (.if_icmp .ge 20, 3) := (op_162 nb_dX9_isPile_0.2.2.2.2.2.2.2.2.2.1).trans rfl
theorem dX9_isPile_17 : decode cX9_isPile 17 = .ok (.iload_n 2, 1) := op_28 nb_dX9_isPile_0.2.2.2.2.2.2.2.2.2.2.1
set_option maxRecDepth 100000 in
theorem dX9_isPile_18 : decode cX9_isPile 18 = .ok (.bipush 10, 2) := (op_16 nb_dX9_isPile_0.2.2.2.2.2.2.2.2.2.2.2.1).trans rfl
theorem nb_dX9_isPile_20 : bls_w cX9_isPile [(20, [112]), (21, [42]), (22, [180, 0, 22]), (25, [27]), (26, [46]), (27, [162, 0, 7]), (30, [4]), (31, [167, 0, 4]), (34, [3]), (35, [172])] := bls_of (by decide +kernel)
theorem dX9_isPile_20 : decode cX9_isPile 20 = .ok (.irem, 1) := op_112 nb_dX9_isPile_20.1
theorem dX9_isPile_21 : decode cX9_isPile 21 = .ok (.aload_n 0, 1) := op_42 nb_dX9_isPile_20.2.1
set_option maxRecDepth 100000 in
theorem dX9_isPile_22 : decode cX9_isPile 22 = .ok (.getfield 22, 3) := (op_180 nb_dX9_isPile_20.2.2.1).trans rfl
theorem dX9_isPile_25 : decode cX9_isPile 25 = .ok (.iload_n 1, 1) := op_27 nb_dX9_isPile_20.2.2.2.1
theorem dX9_isPile_26 : decode cX9_isPile 26 = .ok (.iaload, 1) := op_46 nb_dX9_isPile_20.2.2.2.2.1
set_option maxRecDepth 100000 in
theorem dX9_isPile_27 : decode cX9_isPile 27 = .ok (.if_icmp .ge 7, 3) := (op_162 nb_dX9_isPile_20.2.2.2.2.2.1).trans rfl
theorem dX9_isPile_30 : decode cX9_isPile 30 = .ok (.iconst 1, 1) := op_4 nb_dX9_isPile_20.2.2.2.2.2.2.1
set_option maxRecDepth 100000 in
theorem dX9_isPile_31 : decode cX9_isPile 31 = .ok (.goto 4, 3) := (op_167 nb_dX9_isPile_20.2.2.2.2.2.2.2.1).trans rfl
theorem dX9_isPile_34 : decode cX9_isPile 34 = .ok (.iconst 0, 1) := op_3 nb_dX9_isPile_20.2.2.2.2.2.2.2.2.1
theorem dX9_isPile_35 : decode cX9_isPile 35 = .ok (.ireturn, 1) := op_172 nb_dX9_isPile_20.2.2.2.2.2.2.2.2.2.1
def fX9_isPile (N : Nat) (x1 : Int32) (x2 : Int32) (v_shapeRows : List Int32) (v_shapeColumns : List Int32) : Option (Bool) :=
    if x2 < 0 then
    (some (false))
    else (mm_ck (mm_nz (10 : Int32)) (mm_ck (mm_inb x1 v_shapeRows.length) (if (mm_ig v_shapeRows x1) ≤ (x2 / (10 : Int32)) then
    (some (false))
    else (mm_ck (mm_nz (10 : Int32)) (mm_ck (mm_inb x1 v_shapeColumns.length) (if (mm_ig v_shapeColumns x1) ≤ (mm_rem x2 (10 : Int32)) then
    (some (false))
    else (some (true))))))))

set_option maxHeartbeats 4000000 in
set_option maxRecDepth 100000 in
theorem ctX9_isPile {l : Launch} {D : va_G} {cI cL cS cH : ClassId} {a : Nat → Nat} {x1 : Int32} {x2 : Int32} {v_keptMany : Int32} {v_done : Int32} {v_rowsOf : Int32} {v_columnsOf : Int32} {v_folded : Int32} {v_wronged : Int32} {v_tapeMany : Int32} {v_textMany : Int32} {v_base : Int32} {v_at : Int32} {v_ends : Int32} {v_fault : Int32} {v_opened : Int32} {v_bentMany : Int32} {v_bentWrong : Int32} {v_moreWorn : Int32} {v_planned : Int32} {v_allWrong : Int32} {v_allWorn : Int32} {v_z : Int32} {v_wishedField : Int32} {v_isFound : Bool} {v_bestWrong : Int32} {v_bestWorn : Int32} {v_bestMany : Int32} {v_soughtBy : Int32} {v_sought : Int32} {v_soughtAt : Int32} {v_foundMany : Int32} {v_foundOrder : Int32} {v_isKept : Bool} {v_imageRows : Int32} {v_imageColumns : Int32} {v_imageFolded : Int32} {v_imageWronged : Int32} {v_bodies : Int32} {v_ran : Int32} {v_ownKind : Int32} {v_ownNumber : Int32} {v_limit : List Int32} {v_changeWas : List Int32} {v_changeIs : List Int32} {v_shapeRows : List Int32} {v_shapeColumns : List Int32} {v_row : List Int32} {v_column : List Int32} {v_below : List Int32} {v_face : List Int32} {v_worn : List Int32} {v_lastBend : List Int32} {v_tape : List Int32} {v_text : List Int32} {v_names : List Int32} {v_bends : List Int32} {v_high : List Int32} {v_to : List Int32} {v_pileSize : List Int32} {v_planLine : List Int32} {v_planWay : List Int32} {v_way1 : List Int32} {v_bestWay : List Int32} {v_order1 : List Int32} {v_placeIn : List Int32} {v_bodyKind : List Int32} {v_trace : List Int32} {v_shelf : List Int32} {v_many : List Int32} {v_items : List Int64} {v_carried : List Int64} {r : Bool} {N d : Nat} (hd : 1 ≤ d) (hf : fX9_isPile N x1 x2 v_shapeRows v_shapeColumns = some r) : mm_Ct l yX9_isPile cX9_isPile 3 (some .boolean) d D (mm_T cI cL cS cH) [.ref (a 0), .int x1, .int x2] (wd_X9 cI cL cS cH a v_keptMany v_done v_rowsOf v_columnsOf v_folded v_wronged v_tapeMany v_textMany v_base v_at v_ends v_fault v_opened v_bentMany v_bentWrong v_moreWorn v_planned v_allWrong v_allWorn v_z v_wishedField v_isFound v_bestWrong v_bestWorn v_bestMany v_soughtBy v_sought v_soughtAt v_foundMany v_foundOrder v_isKept v_imageRows v_imageColumns v_imageFolded v_imageWronged v_bodies v_ran v_ownKind v_ownNumber v_limit v_changeWas v_changeIs v_shapeRows v_shapeColumns v_row v_column v_below v_face v_worn v_lastBend v_tape v_text v_names v_bends v_high v_to v_pileSize v_planLine v_planWay v_way1 v_bestWay v_order1 v_placeIn v_bodyKind v_trace v_shelf v_many v_items v_carried) (wd_X9 cI cL cS cH a v_keptMany v_done v_rowsOf v_columnsOf v_folded v_wronged v_tapeMany v_textMany v_base v_at v_ends v_fault v_opened v_bentMany v_bentWrong v_moreWorn v_planned v_allWrong v_allWorn v_z v_wishedField v_isFound v_bestWrong v_bestWorn v_bestMany v_soughtBy v_sought v_soughtAt v_foundMany v_foundOrder v_isKept v_imageRows v_imageColumns v_imageFolded v_imageWronged v_bodies v_ran v_ownKind v_ownNumber v_limit v_changeWas v_changeIs v_shapeRows v_shapeColumns v_row v_column v_below v_face v_worn v_lastBend v_tape v_text v_names v_bends v_high v_to v_pileSize v_planLine v_planWay v_way1 v_bestWay v_order1 v_placeIn v_bodyKind v_trace v_shelf v_many v_items v_carried) (some (.int (mm_b r))) := by
  refine mm_of (by decide) (Nat.le_of_ble_eq_true rfl) ?_
  intro p e s m args below meth c A H locs ls C0 hP hD hA hS hl
  have C0 : mm_Cx p s m args meth c RX9 cX9_isPile 3 (some .boolean) D (mm_T cI cL cS cH) A := C0
  obtain ⟨hx, hb, hml, hown, hts, hr, hlocks, hK, hSt⟩ := id C0
  have hl : lv_has ls 3 [(0, .ref (a 0)), (1, .int x1), (2, .int x2)] := hl
  unfold fX9_isPile at hf
  refine lv_iload_n hx hb dX9_isPile_0 rfl (lv_at hl 2 rfl) ?_
  refine lv_if_lt (tgt := 34) hx hb dX9_isPile_1 (by decide) (fun c_1 => ?_) (fun c_1 => ?_)
  · have hf := mm_ip hf c_1
    refine lv_iconst (v := 0) hx hb dX9_isPile_34 (by decide) ?_
    obtain rfl := mm_inj1 hf
    exact mm_zret (v := false) C0 hP hD hS dX9_isPile_35 (by decide)
  · have hf := mm_in hf c_1
    refine lv_iload_n hx hb dX9_isPile_4 rfl (lv_at hl 2 rfl) ?_
    refine lv_bipush (v := 10) hx hb dX9_isPile_5 (by decide) ?_
    obtain ⟨h_2, hf⟩ := mm_cks hf
    refine lv_idiv hx hb dX9_isPile_7 (mm_nzs h_2) ?_
    refine lv_aload_n hx hb dX9_isPile_8 rfl (lv_at hl 0 rfl) ?_
    refine mm_get C0 hP iw_X9 0 rfl rfl 7 (by decide) fl_X9_19 rfl dX9_isPile_9 ?_
    refine lv_iload_n hx hb dX9_isPile_12 rfl (lv_at hl 1 rfl) ?_
    obtain ⟨h_3, hf⟩ := mm_cks hf
    refine mm_iald C0 hP 4 rfl h_3 dX9_isPile_13 ?_
    refine lv_icmp_ge (tgt := 34) hx hb dX9_isPile_14 (by decide) (fun c_4 => ?_) (fun c_4 => ?_)
    · have hf := mm_ip hf c_4
      refine lv_iconst (v := 0) hx hb dX9_isPile_34 (by decide) ?_
      obtain rfl := mm_inj1 hf
      exact mm_zret (v := false) C0 hP hD hS dX9_isPile_35 (by decide)
    · have hf := mm_in hf c_4
      refine lv_iload_n hx hb dX9_isPile_17 rfl (lv_at hl 2 rfl) ?_
      refine lv_bipush (v := 10) hx hb dX9_isPile_18 (by decide) ?_
      obtain ⟨h_5, hf⟩ := mm_cks hf
      refine lv_irem hx hb dX9_isPile_20 (mm_nzs h_5) ?_
      refine lv_aload_n hx hb dX9_isPile_21 rfl (lv_at hl 0 rfl) ?_
      refine mm_get C0 hP iw_X9 0 rfl rfl 8 (by decide) fl_X9_22 rfl dX9_isPile_22 ?_
      refine lv_iload_n hx hb dX9_isPile_25 rfl (lv_at hl 1 rfl) ?_
      obtain ⟨h_6, hf⟩ := mm_cks hf
      refine mm_iald C0 hP 5 rfl h_6 dX9_isPile_26 ?_
      refine lv_icmp_ge (tgt := 34) hx hb dX9_isPile_27 (by decide) (fun c_7 => ?_) (fun c_7 => ?_)
      · have hf := mm_ip hf c_7
        refine lv_iconst (v := 0) hx hb dX9_isPile_34 (by decide) ?_
        obtain rfl := mm_inj1 hf
        exact mm_zret (v := false) C0 hP hD hS dX9_isPile_35 (by decide)
      · have hf := mm_in hf c_7
        refine lv_iconst (v := 1) hx hb dX9_isPile_30 (by decide) ?_
        refine lv_goto (tgt := 35) hx hb dX9_isPile_31 (by decide) ?_
        obtain rfl := mm_inj1 hf
        exact mm_zret (v := true) C0 hP hD hS dX9_isPile_35 (by decide)

theorem nb_dX9_pile_0 : bls_w cX9_pile [(0, [42]), (1, [3]), (2, [27]), (3, [182, 1, 2]), (6, [154, 0, 5]), (9, [2]), (10, [172]), (11, [42]), (12, [3]), (13, [27]), (14, [16, 10]), (16, [108])] := bls_of (by decide +kernel)
theorem dX9_pile_0 : decode cX9_pile 0 = .ok (.aload_n 0, 1) := op_42 nb_dX9_pile_0.1
theorem dX9_pile_1 : decode cX9_pile 1 = .ok (.iconst 0, 1) := op_3 nb_dX9_pile_0.2.1
theorem dX9_pile_2 : decode cX9_pile 2 = .ok (.iload_n 1, 1) := op_27 nb_dX9_pile_0.2.2.1
set_option maxRecDepth 100000 in
theorem dX9_pile_3 : decode cX9_pile 3 = .ok (.invokevirtual 258, 3) := (op_182 nb_dX9_pile_0.2.2.2.1).trans rfl
set_option maxRecDepth 100000 in
theorem dX9_pile_6 : decode cX9_pile 6 = .ok (.ifCond .ne 5, 3) := (op_154 nb_dX9_pile_0.2.2.2.2.1).trans rfl
theorem dX9_pile_9 : decode cX9_pile 9 = .ok (.iconst (-1), 1) := op_2 nb_dX9_pile_0.2.2.2.2.2.1
theorem dX9_pile_10 : decode cX9_pile 10 = .ok (.ireturn, 1) := op_172 nb_dX9_pile_0.2.2.2.2.2.2.1
theorem dX9_pile_11 : decode cX9_pile 11 = .ok (.aload_n 0, 1) := op_42 nb_dX9_pile_0.2.2.2.2.2.2.2.1
theorem dX9_pile_12 : decode cX9_pile 12 = .ok (.iconst 0, 1) := op_3 nb_dX9_pile_0.2.2.2.2.2.2.2.2.1
theorem dX9_pile_13 : decode cX9_pile 13 = .ok (.iload_n 1, 1) := op_27 nb_dX9_pile_0.2.2.2.2.2.2.2.2.2.1
set_option maxRecDepth 100000 in
theorem dX9_pile_14 : decode cX9_pile 14 = .ok (.bipush 10, 2) := (op_16 nb_dX9_pile_0.2.2.2.2.2.2.2.2.2.2.1).trans rfl
theorem dX9_pile_16 : decode cX9_pile 16 = .ok (.idiv, 1) := op_108 nb_dX9_pile_0.2.2.2.2.2.2.2.2.2.2.2.1
theorem nb_dX9_pile_17 : bls_w cX9_pile [(17, [27]), (18, [16, 10]), (20, [112]), (21, [182, 1, 6]), (24, [62]), (25, [28]), (26, [16, 254]), (28, [160, 0, 5]), (31, [29]), (32, [172]), (33, [28]), (34, [2])] := bls_of (by decide +kernel)
theorem dX9_pile_17 : decode cX9_pile 17 = .ok (.iload_n 1, 1) := op_27 nb_dX9_pile_17.1
set_option maxRecDepth 100000 in
theorem dX9_pile_18 : decode cX9_pile 18 = .ok (.bipush 10, 2) := (op_16 nb_dX9_pile_17.2.1).trans rfl
theorem dX9_pile_20 : decode cX9_pile 20 = .ok (.irem, 1) := op_112 nb_dX9_pile_17.2.2.1
set_option maxRecDepth 100000 in
theorem dX9_pile_21 : decode cX9_pile 21 = .ok (.invokevirtual 262, 3) := (op_182 nb_dX9_pile_17.2.2.2.1).trans rfl
theorem dX9_pile_24 : decode cX9_pile 24 = .ok (.istore_n 3, 1) := op_62 nb_dX9_pile_17.2.2.2.2.1
theorem dX9_pile_25 : decode cX9_pile 25 = .ok (.iload_n 2, 1) := op_28 nb_dX9_pile_17.2.2.2.2.2.1
set_option maxRecDepth 100000 in
theorem dX9_pile_26 : decode cX9_pile 26 = .ok (.bipush (-2), 2) := (op_16 nb_dX9_pile_17.2.2.2.2.2.2.1).trans rfl
set_option maxRecDepth 100000 in
theorem dX9_pile_28 : decode cX9_pile 28 = .ok (.if_icmp .ne 5, 3) := (op_160 nb_dX9_pile_17.2.2.2.2.2.2.2.1).trans rfl
theorem dX9_pile_31 : decode cX9_pile 31 = .ok (.iload_n 3, 1) := op_29 nb_dX9_pile_17.2.2.2.2.2.2.2.2.1
theorem dX9_pile_32 : decode cX9_pile 32 = .ok (.ireturn, 1) := op_172 nb_dX9_pile_17.2.2.2.2.2.2.2.2.2.1
theorem dX9_pile_33 : decode cX9_pile 33 = .ok (.iload_n 2, 1) := op_28 nb_dX9_pile_17.2.2.2.2.2.2.2.2.2.2.1
theorem dX9_pile_34 : decode cX9_pile 34 = .ok (.iconst (-1), 1) := op_2 nb_dX9_pile_17.2.2.2.2.2.2.2.2.2.2.2.1
theorem nb_dX9_pile_35 : bls_w cX9_pile [(35, [160, 0, 9]), (38, [29]), (39, [4]), (40, [100]), (41, [167, 0, 4]), (44, [28]), (45, [54, 4]), (47, [21, 4]), (49, [133]), (50, [9]), (51, [29]), (52, [4])] := bls_of (by decide +kernel)
set_option maxRecDepth 100000 in
theorem dX9_pile_35 : decode cX9_pile 35 = .ok (.if_icmp .ne 9, 3) := (op_160 nb_dX9_pile_35.1).trans rfl
theorem dX9_pile_38 : decode cX9_pile 38 = .ok (.iload_n 3, 1) := op_29 nb_dX9_pile_35.2.1
theorem dX9_pile_39 : decode cX9_pile 39 = .ok (.iconst 1, 1) := op_4 nb_dX9_pile_35.2.2.1
theorem dX9_pile_40 : decode cX9_pile 40 = .ok (.isub, 1) := op_100 nb_dX9_pile_35.2.2.2.1
set_option maxRecDepth 100000 in
theorem dX9_pile_41 : decode cX9_pile 41 = .ok (.goto 4, 3) := (op_167 nb_dX9_pile_35.2.2.2.2.1).trans rfl
theorem dX9_pile_44 : decode cX9_pile 44 = .ok (.iload_n 2, 1) := op_28 nb_dX9_pile_35.2.2.2.2.2.1
set_option maxRecDepth 100000 in
theorem dX9_pile_45 : decode cX9_pile 45 = .ok (.istore 4, 2) := (op_54 nb_dX9_pile_35.2.2.2.2.2.2.1).trans rfl
set_option maxRecDepth 100000 in
theorem dX9_pile_47 : decode cX9_pile 47 = .ok (.iload 4, 2) := (op_21 nb_dX9_pile_35.2.2.2.2.2.2.2.1).trans rfl
theorem dX9_pile_49 : decode cX9_pile 49 = .ok (.i2l, 1) := op_133 nb_dX9_pile_35.2.2.2.2.2.2.2.2.1
theorem dX9_pile_50 : decode cX9_pile 50 = .ok (.lconst 0, 1) := op_9 nb_dX9_pile_35.2.2.2.2.2.2.2.2.2.1
theorem dX9_pile_51 : decode cX9_pile 51 = .ok (.iload_n 3, 1) := op_29 nb_dX9_pile_35.2.2.2.2.2.2.2.2.2.2.1
theorem dX9_pile_52 : decode cX9_pile 52 = .ok (.iconst 1, 1) := op_4 nb_dX9_pile_35.2.2.2.2.2.2.2.2.2.2.2.1
theorem nb_dX9_pile_53 : bls_w cX9_pile [(53, [100]), (54, [133]), (55, [184, 0, 111]), (58, [153, 0, 21]), (61, [42]), (62, [3]), (63, [27]), (64, [16, 10]), (66, [108]), (67, [27]), (68, [16, 10]), (70, [112])] := bls_of (by decide +kernel)
theorem dX9_pile_53 : decode cX9_pile 53 = .ok (.isub, 1) := op_100 nb_dX9_pile_53.1
theorem dX9_pile_54 : decode cX9_pile 54 = .ok (.i2l, 1) := op_133 nb_dX9_pile_53.2.1
set_option maxRecDepth 100000 in
theorem dX9_pile_55 : decode cX9_pile 55 = .ok (.invokestatic 111, 3) := (op_184 nb_dX9_pile_53.2.2.1).trans rfl
set_option maxRecDepth 100000 in
theorem dX9_pile_58 : decode cX9_pile 58 = .ok (.ifCond .eq 21, 3) := (op_153 nb_dX9_pile_53.2.2.2.1).trans rfl
theorem dX9_pile_61 : decode cX9_pile 61 = .ok (.aload_n 0, 1) := op_42 nb_dX9_pile_53.2.2.2.2.1
theorem dX9_pile_62 : decode cX9_pile 62 = .ok (.iconst 0, 1) := op_3 nb_dX9_pile_53.2.2.2.2.2.1
theorem dX9_pile_63 : decode cX9_pile 63 = .ok (.iload_n 1, 1) := op_27 nb_dX9_pile_53.2.2.2.2.2.2.1
set_option maxRecDepth 100000 in
theorem dX9_pile_64 : decode cX9_pile 64 = .ok (.bipush 10, 2) := (op_16 nb_dX9_pile_53.2.2.2.2.2.2.2.1).trans rfl
theorem dX9_pile_66 : decode cX9_pile 66 = .ok (.idiv, 1) := op_108 nb_dX9_pile_53.2.2.2.2.2.2.2.2.1
theorem dX9_pile_67 : decode cX9_pile 67 = .ok (.iload_n 1, 1) := op_27 nb_dX9_pile_53.2.2.2.2.2.2.2.2.2.1
set_option maxRecDepth 100000 in
theorem dX9_pile_68 : decode cX9_pile 68 = .ok (.bipush 10, 2) := (op_16 nb_dX9_pile_53.2.2.2.2.2.2.2.2.2.2.1).trans rfl
theorem dX9_pile_70 : decode cX9_pile 70 = .ok (.irem, 1) := op_112 nb_dX9_pile_53.2.2.2.2.2.2.2.2.2.2.2.1
theorem nb_dX9_pile_71 : bls_w cX9_pile [(71, [21, 4]), (73, [182, 1, 9]), (76, [167, 0, 4]), (79, [2]), (80, [172])] := bls_of (by decide +kernel)
set_option maxRecDepth 100000 in
theorem dX9_pile_71 : decode cX9_pile 71 = .ok (.iload 4, 2) := (op_21 nb_dX9_pile_71.1).trans rfl
set_option maxRecDepth 100000 in
theorem dX9_pile_73 : decode cX9_pile 73 = .ok (.invokevirtual 265, 3) := (op_182 nb_dX9_pile_71.2.1).trans rfl
set_option maxRecDepth 100000 in
theorem dX9_pile_76 : decode cX9_pile 76 = .ok (.goto 4, 3) := (op_167 nb_dX9_pile_71.2.2.1).trans rfl
theorem dX9_pile_79 : decode cX9_pile 79 = .ok (.iconst (-1), 1) := op_2 nb_dX9_pile_71.2.2.2.1
theorem dX9_pile_80 : decode cX9_pile 80 = .ok (.ireturn, 1) := op_172 nb_dX9_pile_71.2.2.2.2.1
def fX9_pile_45 (N : Nat)  (x1 : Int32) (x3 : Int32) (s0 : Int32) (v_rowsOf : Int32) (v_columnsOf : Int32) (v_shapeRows : List Int32) (v_shapeColumns : List Int32) (v_row : List Int32) (v_column : List Int32) (v_below : List Int32) : Option (Int32) :=
    mm_bd1 (fX9_within N ((s0).toInt64) (0 : Int64) ((x3 - (1 : Int32)).toInt64)) (fun (r_10 : Bool) =>
    if r_10 = false then
    (some ((-1 : Int32)))
    else (mm_ck (mm_nz (10 : Int32)) (mm_ck (mm_nz (10 : Int32)) (mm_bd1 (fX9_fieldAt N (0 : Int32) (x1 / (10 : Int32)) (mm_rem x1 (10 : Int32)) s0 v_rowsOf v_columnsOf v_row v_column v_below) (fun (r_15 : Int32) =>
    some (r_15))))))

set_option maxHeartbeats 4000000 in
set_option maxRecDepth 100000 in
theorem tX9_pile_45 {p : Program} {l : Launch} {e : Env} {s : State} {m : MethodId} {args : Array Value} {below : List Frame} {meth : Method} {c : Code} {D : va_G} {cI cL cS cH : ClassId} {A : Nat → Prop} {d : Nat} {a : Nat → Nat} (hd : 3 ≤ d) (C0 : mm_Cx p s m args meth c RX9 cX9_pile 5 (some .int) D (mm_T cI cL cS cH) A) (hA : ∀ q, s.heap.size ≤ q → A q) {v_keptMany : Int32} {v_done : Int32} {v_folded : Int32} {v_wronged : Int32} {v_tapeMany : Int32} {v_textMany : Int32} {v_base : Int32} {v_at : Int32} {v_ends : Int32} {v_fault : Int32} {v_opened : Int32} {v_bentMany : Int32} {v_bentWrong : Int32} {v_moreWorn : Int32} {v_planned : Int32} {v_allWrong : Int32} {v_allWorn : Int32} {v_z : Int32} {v_wishedField : Int32} {v_isFound : Bool} {v_bestWrong : Int32} {v_bestWorn : Int32} {v_bestMany : Int32} {v_soughtBy : Int32} {v_sought : Int32} {v_soughtAt : Int32} {v_foundMany : Int32} {v_foundOrder : Int32} {v_isKept : Bool} {v_imageRows : Int32} {v_imageColumns : Int32} {v_imageFolded : Int32} {v_imageWronged : Int32} {v_bodies : Int32} {v_ran : Int32} {v_ownKind : Int32} {v_ownNumber : Int32} {v_limit : List Int32} {v_changeWas : List Int32} {v_changeIs : List Int32} {v_face : List Int32} {v_worn : List Int32} {v_lastBend : List Int32} {v_tape : List Int32} {v_text : List Int32} {v_names : List Int32} {v_bends : List Int32} {v_high : List Int32} {v_to : List Int32} {v_pileSize : List Int32} {v_planLine : List Int32} {v_planWay : List Int32} {v_way1 : List Int32} {v_bestWay : List Int32} {v_order1 : List Int32} {v_placeIn : List Int32} {v_bodyKind : List Int32} {v_trace : List Int32} {v_shelf : List Int32} {v_many : List Int32} {v_items : List Int64} {v_carried : List Int64} {r : Int32} (N : Nat)  : ∀ (x1 : Int32) (x3 : Int32) (s0 : Int32) (v_rowsOf : Int32) (v_columnsOf : Int32) (v_shapeRows : List Int32) (v_shapeColumns : List Int32) (v_row : List Int32) (v_column : List Int32) (v_below : List Int32) (H : Heap) (locs : List Loc) (ls : Array Slot), fX9_pile_45 N x1 x3 s0 v_rowsOf v_columnsOf v_shapeRows v_shapeColumns v_row v_column v_below = some r → va_P D mm_cl (wd_X9 cI cL cS cH a v_keptMany v_done v_rowsOf v_columnsOf v_folded v_wronged v_tapeMany v_textMany v_base v_at v_ends v_fault v_opened v_bentMany v_bentWrong v_moreWorn v_planned v_allWrong v_allWorn v_z v_wishedField v_isFound v_bestWrong v_bestWorn v_bestMany v_soughtBy v_sought v_soughtAt v_foundMany v_foundOrder v_isKept v_imageRows v_imageColumns v_imageFolded v_imageWronged v_bodies v_ran v_ownKind v_ownNumber v_limit v_changeWas v_changeIs v_shapeRows v_shapeColumns v_row v_column v_below v_face v_worn v_lastBend v_tape v_text v_names v_bends v_high v_to v_pileSize v_planLine v_planWay v_way1 v_bestWay v_order1 v_placeIn v_bodyKind v_trace v_shelf v_many v_items v_carried) H → va_D A (wd_X9 cI cL cS cH a v_keptMany v_done v_rowsOf v_columnsOf v_folded v_wronged v_tapeMany v_textMany v_base v_at v_ends v_fault v_opened v_bentMany v_bentWrong v_moreWorn v_planned v_allWrong v_allWorn v_z v_wishedField v_isFound v_bestWrong v_bestWorn v_bestMany v_soughtBy v_sought v_soughtAt v_foundMany v_foundOrder v_isKept v_imageRows v_imageColumns v_imageFolded v_imageWronged v_bodies v_ran v_ownKind v_ownNumber v_limit v_changeWas v_changeIs v_shapeRows v_shapeColumns v_row v_column v_below v_face v_worn v_lastBend v_tape v_text v_names v_bends v_high v_to v_pileSize v_planLine v_planWay v_way1 v_bestWay v_order1 v_placeIn v_bodyKind v_trace v_shelf v_many v_items v_carried) → va_S A s.heap H locs → lv_has ls 5 [(0, .ref (a 0)), (1, .int x1), (3, .int x3)] → W p l e (mm_rr d) s m args below meth c H locs 0 0 (mm_Z below D A (wd_X9 cI cL cS cH a v_keptMany v_done v_rowsOf v_columnsOf v_folded v_wronged v_tapeMany v_textMany v_base v_at v_ends v_fault v_opened v_bentMany v_bentWrong v_moreWorn v_planned v_allWrong v_allWorn v_z v_wishedField v_isFound v_bestWrong v_bestWorn v_bestMany v_soughtBy v_sought v_soughtAt v_foundMany v_foundOrder v_isKept v_imageRows v_imageColumns v_imageFolded v_imageWronged v_bodies v_ran v_ownKind v_ownNumber v_limit v_changeWas v_changeIs v_shapeRows v_shapeColumns v_row v_column v_below v_face v_worn v_lastBend v_tape v_text v_names v_bends v_high v_to v_pileSize v_planLine v_planWay v_way1 v_bestWay v_order1 v_placeIn v_bodyKind v_trace v_shelf v_many v_items v_carried) (some (.int r)) args s) (F0 m 45 ls [.int s0]) := by
  obtain ⟨hx, hb, hml, hown, hts, hr, hlocks, hK, hSt⟩ := id C0
  intro x1 x3 s0 v_rowsOf v_columnsOf v_shapeRows v_shapeColumns v_row v_column v_below H locs ls hf hP hD hS hl
  unfold fX9_pile_45 at hf
  refine lv_istore (lv' := [(4, .int s0), (0, .ref (a 0)), (1, .int x1), (3, .int x3)]) hx hb dX9_pile_45 hl (by decide) rfl (fun ls hl => ?_)
  refine lv_iload hx hb dX9_pile_47 (lv_at hl 0 rfl) ?_
  refine lv_i2l hx hb dX9_pile_49 rfl ?_
  refine lv_lconst (v := 0) hx hb dX9_pile_50 (by decide) ?_
  refine lv_iload_n hx hb dX9_pile_51 rfl (lv_at hl 3 rfl) ?_
  refine lv_iconst (v := 1) hx hb dX9_pile_52 (by decide) ?_
  refine lv_isub hx hb dX9_pile_53 ?_
  refine lv_i2l hx hb dX9_pile_54 rfl ?_
  obtain ⟨r_10, hc_11, hf⟩ := mm_bd1s hf
  refine mm_callS0 (rest := []) C0 lk_X9_111 (ctX9_within (d := d - 1) (by omega) hc_11) (by omega) rfl hl.1 rfl (mm_cat rfl) dX9_pile_55 hP hD hA hS (fun H locs hP hS => ?_)
  refine W.eq (g2 := F0 m 58 ls [.int (mm_b r_10)]) rfl ?_
  refine lv_if_eq (tgt := 79) hx hb dX9_pile_58 (by decide) (fun c_12 => ?_) (fun c_12 => ?_)
  · have hf := mm_ip hf (mm_b0 c_12)
    refine lv_iconst (v := -1) hx hb dX9_pile_79 (by decide) ?_
    obtain rfl := mm_inj1 hf
    exact mm_iret C0 hP hD hS dX9_pile_80
  · have hf := mm_in hf (mm_b1 c_12)
    refine lv_aload_n hx hb dX9_pile_61 rfl (lv_at hl 1 rfl) ?_
    refine lv_iconst (v := 0) hx hb dX9_pile_62 (by decide) ?_
    refine lv_iload_n hx hb dX9_pile_63 rfl (lv_at hl 2 rfl) ?_
    refine lv_bipush (v := 10) hx hb dX9_pile_64 (by decide) ?_
    obtain ⟨h_13, hf⟩ := mm_cks hf
    refine lv_idiv hx hb dX9_pile_66 (mm_nzs h_13) ?_
    refine lv_iload_n hx hb dX9_pile_67 rfl (lv_at hl 2 rfl) ?_
    refine lv_bipush (v := 10) hx hb dX9_pile_68 (by decide) ?_
    obtain ⟨h_14, hf⟩ := mm_cks hf
    refine lv_irem hx hb dX9_pile_70 (mm_nzs h_14) ?_
    refine lv_iload hx hb dX9_pile_71 (lv_at hl 0 rfl) ?_
    obtain ⟨r_15, hc_16, hf⟩ := mm_bd1s hf
    refine mm_callVF (q0 := 0) (ci := 9) (rest := []) C0 lk_X9_265 (ctX9_fieldAt (a := a) (d := d - 1) (by omega) hc_16) (by omega) rfl hl.1 rfl (mm_cat rfl) dX9_pile_73 hP hD hA hS rfl rfl (fun H locs hP hD hS => ?_)
    refine W.eq (g2 := F0 m 76 ls [.int r_15]) rfl ?_
    refine lv_goto (tgt := 80) hx hb dX9_pile_76 (by decide) ?_
    obtain rfl := mm_inj1 hf
    exact mm_iret C0 hP hD hS dX9_pile_80

def fX9_pile (N : Nat) (x1 : Int32) (x2 : Int32) (v_rowsOf : Int32) (v_columnsOf : Int32) (v_shapeRows : List Int32) (v_shapeColumns : List Int32) (v_row : List Int32) (v_column : List Int32) (v_below : List Int32) : Option (Int32) :=
    mm_bd1 (fX9_isPile N (0 : Int32) x1 v_shapeRows v_shapeColumns) (fun (r_1 : Bool) =>
    if r_1 = false then
    (some ((-1 : Int32)))
    else (mm_ck (mm_nz (10 : Int32)) (mm_ck (mm_nz (10 : Int32)) (mm_bd1 (fX9_sizeAt N (0 : Int32) (x1 / (10 : Int32)) (mm_rem x1 (10 : Int32)) v_rowsOf v_columnsOf v_row v_column) (fun (r_6 : Int32) =>
    if x2 = (-2 : Int32) then
    (some (r_6))
    else (if x2 = (-1 : Int32) then
    (fX9_pile_45 N x1 r_6 (r_6 - (1 : Int32)) v_rowsOf v_columnsOf v_shapeRows v_shapeColumns v_row v_column v_below)
    else (fX9_pile_45 N x1 r_6 x2 v_rowsOf v_columnsOf v_shapeRows v_shapeColumns v_row v_column v_below)))))))

set_option maxHeartbeats 4000000 in
set_option maxRecDepth 100000 in
theorem ctX9_pile {l : Launch} {D : va_G} {cI cL cS cH : ClassId} {a : Nat → Nat} {x1 : Int32} {x2 : Int32} {v_keptMany : Int32} {v_done : Int32} {v_rowsOf : Int32} {v_columnsOf : Int32} {v_folded : Int32} {v_wronged : Int32} {v_tapeMany : Int32} {v_textMany : Int32} {v_base : Int32} {v_at : Int32} {v_ends : Int32} {v_fault : Int32} {v_opened : Int32} {v_bentMany : Int32} {v_bentWrong : Int32} {v_moreWorn : Int32} {v_planned : Int32} {v_allWrong : Int32} {v_allWorn : Int32} {v_z : Int32} {v_wishedField : Int32} {v_isFound : Bool} {v_bestWrong : Int32} {v_bestWorn : Int32} {v_bestMany : Int32} {v_soughtBy : Int32} {v_sought : Int32} {v_soughtAt : Int32} {v_foundMany : Int32} {v_foundOrder : Int32} {v_isKept : Bool} {v_imageRows : Int32} {v_imageColumns : Int32} {v_imageFolded : Int32} {v_imageWronged : Int32} {v_bodies : Int32} {v_ran : Int32} {v_ownKind : Int32} {v_ownNumber : Int32} {v_limit : List Int32} {v_changeWas : List Int32} {v_changeIs : List Int32} {v_shapeRows : List Int32} {v_shapeColumns : List Int32} {v_row : List Int32} {v_column : List Int32} {v_below : List Int32} {v_face : List Int32} {v_worn : List Int32} {v_lastBend : List Int32} {v_tape : List Int32} {v_text : List Int32} {v_names : List Int32} {v_bends : List Int32} {v_high : List Int32} {v_to : List Int32} {v_pileSize : List Int32} {v_planLine : List Int32} {v_planWay : List Int32} {v_way1 : List Int32} {v_bestWay : List Int32} {v_order1 : List Int32} {v_placeIn : List Int32} {v_bodyKind : List Int32} {v_trace : List Int32} {v_shelf : List Int32} {v_many : List Int32} {v_items : List Int64} {v_carried : List Int64} {r : Int32} {N d : Nat} (hd : 3 ≤ d) (hf : fX9_pile N x1 x2 v_rowsOf v_columnsOf v_shapeRows v_shapeColumns v_row v_column v_below = some r) : mm_Ct l yX9_pile cX9_pile 5 (some .int) d D (mm_T cI cL cS cH) [.ref (a 0), .int x1, .int x2] (wd_X9 cI cL cS cH a v_keptMany v_done v_rowsOf v_columnsOf v_folded v_wronged v_tapeMany v_textMany v_base v_at v_ends v_fault v_opened v_bentMany v_bentWrong v_moreWorn v_planned v_allWrong v_allWorn v_z v_wishedField v_isFound v_bestWrong v_bestWorn v_bestMany v_soughtBy v_sought v_soughtAt v_foundMany v_foundOrder v_isKept v_imageRows v_imageColumns v_imageFolded v_imageWronged v_bodies v_ran v_ownKind v_ownNumber v_limit v_changeWas v_changeIs v_shapeRows v_shapeColumns v_row v_column v_below v_face v_worn v_lastBend v_tape v_text v_names v_bends v_high v_to v_pileSize v_planLine v_planWay v_way1 v_bestWay v_order1 v_placeIn v_bodyKind v_trace v_shelf v_many v_items v_carried) (wd_X9 cI cL cS cH a v_keptMany v_done v_rowsOf v_columnsOf v_folded v_wronged v_tapeMany v_textMany v_base v_at v_ends v_fault v_opened v_bentMany v_bentWrong v_moreWorn v_planned v_allWrong v_allWorn v_z v_wishedField v_isFound v_bestWrong v_bestWorn v_bestMany v_soughtBy v_sought v_soughtAt v_foundMany v_foundOrder v_isKept v_imageRows v_imageColumns v_imageFolded v_imageWronged v_bodies v_ran v_ownKind v_ownNumber v_limit v_changeWas v_changeIs v_shapeRows v_shapeColumns v_row v_column v_below v_face v_worn v_lastBend v_tape v_text v_names v_bends v_high v_to v_pileSize v_planLine v_planWay v_way1 v_bestWay v_order1 v_placeIn v_bodyKind v_trace v_shelf v_many v_items v_carried) (some (.int r)) := by
  refine mm_of (by decide) (Nat.le_of_ble_eq_true rfl) ?_
  intro p e s m args below meth c A H locs ls C0 hP hD hA hS hl
  have C0 : mm_Cx p s m args meth c RX9 cX9_pile 5 (some .int) D (mm_T cI cL cS cH) A := C0
  obtain ⟨hx, hb, hml, hown, hts, hr, hlocks, hK, hSt⟩ := id C0
  have hl : lv_has ls 5 [(0, .ref (a 0)), (1, .int x1), (2, .int x2)] := hl
  unfold fX9_pile at hf
  refine lv_aload_n hx hb dX9_pile_0 rfl (lv_at hl 0 rfl) ?_
  refine lv_iconst (v := 0) hx hb dX9_pile_1 (by decide) ?_
  refine lv_iload_n hx hb dX9_pile_2 rfl (lv_at hl 1 rfl) ?_
  obtain ⟨r_1, hc_2, hf⟩ := mm_bd1s hf
  refine mm_callVF (q0 := 0) (ci := 9) (rest := []) C0 lk_X9_258 (ctX9_isPile (a := a) (d := d - 1) (by omega) hc_2) (by omega) rfl hl.1 rfl (mm_cat rfl) dX9_pile_3 hP hD hA hS rfl rfl (fun H locs hP hD hS => ?_)
  refine W.eq (g2 := F0 m 6 ls [.int (mm_b r_1)]) rfl ?_
  refine lv_if_ne (tgt := 11) hx hb dX9_pile_6 (by decide) (fun c_3 => ?_) (fun c_3 => ?_)
  · have hf := mm_in hf (mm_b1 c_3)
    refine lv_aload_n hx hb dX9_pile_11 rfl (lv_at hl 0 rfl) ?_
    refine lv_iconst (v := 0) hx hb dX9_pile_12 (by decide) ?_
    refine lv_iload_n hx hb dX9_pile_13 rfl (lv_at hl 1 rfl) ?_
    refine lv_bipush (v := 10) hx hb dX9_pile_14 (by decide) ?_
    obtain ⟨h_4, hf⟩ := mm_cks hf
    refine lv_idiv hx hb dX9_pile_16 (mm_nzs h_4) ?_
    refine lv_iload_n hx hb dX9_pile_17 rfl (lv_at hl 1 rfl) ?_
    refine lv_bipush (v := 10) hx hb dX9_pile_18 (by decide) ?_
    obtain ⟨h_5, hf⟩ := mm_cks hf
    refine lv_irem hx hb dX9_pile_20 (mm_nzs h_5) ?_
    obtain ⟨r_6, hc_7, hf⟩ := mm_bd1s hf
    refine mm_callVF (q0 := 0) (ci := 9) (rest := []) C0 lk_X9_262 (ctX9_sizeAt (a := a) (d := d - 1) (by omega) hc_7) (by omega) rfl hl.1 rfl (mm_cat rfl) dX9_pile_21 hP hD hA hS rfl rfl (fun H locs hP hD hS => ?_)
    refine W.eq (g2 := F0 m 24 ls [.int r_6]) rfl ?_
    refine lv_istore_n (lv' := [(3, .int r_6), (0, .ref (a 0)), (1, .int x1), (2, .int x2)]) hx hb dX9_pile_24 rfl hl (by decide) rfl (fun ls hl => ?_)
    refine lv_iload_n hx hb dX9_pile_25 rfl (lv_at hl 3 rfl) ?_
    refine lv_bipush (v := -2) hx hb dX9_pile_26 (by decide) ?_
    refine lv_icmp_ne (tgt := 33) hx hb dX9_pile_28 (by decide) (fun c_8 => ?_) (fun c_8 => ?_)
    · have hf := mm_in hf c_8
      refine lv_iload_n hx hb dX9_pile_33 rfl (lv_at hl 3 rfl) ?_
      refine lv_iconst (v := -1) hx hb dX9_pile_34 (by decide) ?_
      refine lv_icmp_ne (tgt := 44) hx hb dX9_pile_35 (by decide) (fun c_9 => ?_) (fun c_9 => ?_)
      · have hf := mm_in hf c_9
        refine lv_iload_n hx hb dX9_pile_44 rfl (lv_at hl 3 rfl) ?_
        exact tX9_pile_45 hd C0 hA N  _ _ _ _ _ _ _ _ _ _ H locs ls hf hP hD hS (lv_sub hl [1, 2, 0] rfl)
      · have hf := mm_ip hf c_9
        refine lv_iload_n hx hb dX9_pile_38 rfl (lv_at hl 0 rfl) ?_
        refine lv_iconst (v := 1) hx hb dX9_pile_39 (by decide) ?_
        refine lv_isub hx hb dX9_pile_40 ?_
        refine lv_goto (tgt := 45) hx hb dX9_pile_41 (by decide) ?_
        exact tX9_pile_45 hd C0 hA N  _ _ _ _ _ _ _ _ _ _ H locs ls hf hP hD hS (lv_sub hl [1, 2, 0] rfl)
    · have hf := mm_ip hf c_8
      refine lv_iload_n hx hb dX9_pile_31 rfl (lv_at hl 0 rfl) ?_
      obtain rfl := mm_inj1 hf
      exact mm_iret C0 hP hD hS dX9_pile_32
  · have hf := mm_ip hf (mm_b0 c_3)
    refine lv_iconst (v := -1) hx hb dX9_pile_9 (by decide) ?_
    obtain rfl := mm_inj1 hf
    exact mm_iret C0 hP hD hS dX9_pile_10

theorem nb_dX9_tornNow_0 : bls_w cX9_tornNow [(0, [3]), (1, [61]), (2, [3]), (3, [62]), (4, [29]), (5, [16, 64]), (7, [162, 0, 45]), (10, [28]), (11, [42]), (12, [29]), (13, [182, 0, 217]), (16, [153, 0, 27])] := bls_of (by decide +kernel)
theorem dX9_tornNow_0 : decode cX9_tornNow 0 = .ok (.iconst 0, 1) := op_3 nb_dX9_tornNow_0.1
theorem dX9_tornNow_1 : decode cX9_tornNow 1 = .ok (.istore_n 2, 1) := op_61 nb_dX9_tornNow_0.2.1
theorem dX9_tornNow_2 : decode cX9_tornNow 2 = .ok (.iconst 0, 1) := op_3 nb_dX9_tornNow_0.2.2.1
theorem dX9_tornNow_3 : decode cX9_tornNow 3 = .ok (.istore_n 3, 1) := op_62 nb_dX9_tornNow_0.2.2.2.1
theorem dX9_tornNow_4 : decode cX9_tornNow 4 = .ok (.iload_n 3, 1) := op_29 nb_dX9_tornNow_0.2.2.2.2.1
set_option maxRecDepth 100000 in
theorem dX9_tornNow_5 : decode cX9_tornNow 5 = .ok (.bipush 64, 2) := (op_16 nb_dX9_tornNow_0.2.2.2.2.2.1).trans rfl
set_option maxRecDepth 100000 in
theorem dX9_tornNow_7 : decode cX9_tornNow 7 = .ok (.if_icmp .ge 45, 3) := (op_162 nb_dX9_tornNow_0.2.2.2.2.2.2.1).trans rfl
theorem dX9_tornNow_10 : decode cX9_tornNow 10 = .ok (.iload_n 2, 1) := op_28 nb_dX9_tornNow_0.2.2.2.2.2.2.2.1
theorem dX9_tornNow_11 : decode cX9_tornNow 11 = .ok (.aload_n 0, 1) := op_42 nb_dX9_tornNow_0.2.2.2.2.2.2.2.2.1
theorem dX9_tornNow_12 : decode cX9_tornNow 12 = .ok (.iload_n 3, 1) := op_29 nb_dX9_tornNow_0.2.2.2.2.2.2.2.2.2.1
set_option maxRecDepth 100000 in
theorem dX9_tornNow_13 : decode cX9_tornNow 13 = .ok (.invokevirtual 217, 3) := (op_182 nb_dX9_tornNow_0.2.2.2.2.2.2.2.2.2.2.1).trans rfl
set_option maxRecDepth 100000 in
theorem dX9_tornNow_16 : decode cX9_tornNow 16 = .ok (.ifCond .eq 27, 3) := (op_153 nb_dX9_tornNow_0.2.2.2.2.2.2.2.2.2.2.2.1).trans rfl
theorem nb_dX9_tornNow_19 : bls_w cX9_tornNow [(19, [42]), (20, [180, 0, 37]), (23, [16, 64]), (25, [27]), (26, [104]), (27, [29]), (28, [96]), (29, [46]), (30, [42]), (31, [180, 0, 7]), (34, [3]), (35, [46])] := bls_of (by decide +kernel)
theorem dX9_tornNow_19 : decode cX9_tornNow 19 = .ok (.aload_n 0, 1) := op_42 nb_dX9_tornNow_19.1
set_option maxRecDepth 100000 in
theorem dX9_tornNow_20 : decode cX9_tornNow 20 = .ok (.getfield 37, 3) := (op_180 nb_dX9_tornNow_19.2.1).trans rfl
set_option maxRecDepth 100000 in
theorem dX9_tornNow_23 : decode cX9_tornNow 23 = .ok (.bipush 64, 2) := (op_16 nb_dX9_tornNow_19.2.2.1).trans rfl
theorem dX9_tornNow_25 : decode cX9_tornNow 25 = .ok (.iload_n 1, 1) := op_27 nb_dX9_tornNow_19.2.2.2.1
theorem dX9_tornNow_26 : decode cX9_tornNow 26 = .ok (.imul, 1) := op_104 nb_dX9_tornNow_19.2.2.2.2.1
theorem dX9_tornNow_27 : decode cX9_tornNow 27 = .ok (.iload_n 3, 1) := op_29 nb_dX9_tornNow_19.2.2.2.2.2.1
theorem dX9_tornNow_28 : decode cX9_tornNow 28 = .ok (.iadd, 1) := op_96 nb_dX9_tornNow_19.2.2.2.2.2.2.1
theorem dX9_tornNow_29 : decode cX9_tornNow 29 = .ok (.iaload, 1) := op_46 nb_dX9_tornNow_19.2.2.2.2.2.2.2.1
theorem dX9_tornNow_30 : decode cX9_tornNow 30 = .ok (.aload_n 0, 1) := op_42 nb_dX9_tornNow_19.2.2.2.2.2.2.2.2.1
set_option maxRecDepth 100000 in
theorem dX9_tornNow_31 : decode cX9_tornNow 31 = .ok (.getfield 7, 3) := (op_180 nb_dX9_tornNow_19.2.2.2.2.2.2.2.2.2.1).trans rfl
theorem dX9_tornNow_34 : decode cX9_tornNow 34 = .ok (.iconst 0, 1) := op_3 nb_dX9_tornNow_19.2.2.2.2.2.2.2.2.2.2.1
theorem dX9_tornNow_35 : decode cX9_tornNow 35 = .ok (.iaload, 1) := op_46 nb_dX9_tornNow_19.2.2.2.2.2.2.2.2.2.2.2.1
theorem nb_dX9_tornNow_36 : bls_w cX9_tornNow [(36, [161, 0, 7]), (39, [4]), (40, [167, 0, 4]), (43, [3]), (44, [96]), (45, [61]), (46, [132, 3, 1]), (49, [167, 255, 211]), (52, [28]), (53, [172])] := bls_of (by decide +kernel)
set_option maxRecDepth 100000 in
theorem dX9_tornNow_36 : decode cX9_tornNow 36 = .ok (.if_icmp .lt 7, 3) := (op_161 nb_dX9_tornNow_36.1).trans rfl
theorem dX9_tornNow_39 : decode cX9_tornNow 39 = .ok (.iconst 1, 1) := op_4 nb_dX9_tornNow_36.2.1
set_option maxRecDepth 100000 in
theorem dX9_tornNow_40 : decode cX9_tornNow 40 = .ok (.goto 4, 3) := (op_167 nb_dX9_tornNow_36.2.2.1).trans rfl
theorem dX9_tornNow_43 : decode cX9_tornNow 43 = .ok (.iconst 0, 1) := op_3 nb_dX9_tornNow_36.2.2.2.1
theorem dX9_tornNow_44 : decode cX9_tornNow 44 = .ok (.iadd, 1) := op_96 nb_dX9_tornNow_36.2.2.2.2.1
theorem dX9_tornNow_45 : decode cX9_tornNow 45 = .ok (.istore_n 2, 1) := op_61 nb_dX9_tornNow_36.2.2.2.2.2.1
set_option maxRecDepth 100000 in
theorem dX9_tornNow_46 : decode cX9_tornNow 46 = .ok (.iinc 3 1, 3) := (op_132 nb_dX9_tornNow_36.2.2.2.2.2.2.1).trans rfl
set_option maxRecDepth 100000 in
theorem dX9_tornNow_49 : decode cX9_tornNow 49 = .ok (.goto (-45), 3) := (op_167 nb_dX9_tornNow_36.2.2.2.2.2.2.2.1).trans rfl
theorem dX9_tornNow_52 : decode cX9_tornNow 52 = .ok (.iload_n 2, 1) := op_28 nb_dX9_tornNow_36.2.2.2.2.2.2.2.2.1
theorem dX9_tornNow_53 : decode cX9_tornNow 53 = .ok (.ireturn, 1) := op_172 nb_dX9_tornNow_36.2.2.2.2.2.2.2.2.2.1
def fX9_tornNow_44 (N : Nat) (k_4 : Int32 → Int32 → Int32 → Int32 → Int32 → List Int32 → List Int32 → Option (Int32)) (x1 : Int32) (x3 : Int32) (s0 : Int32) (s1 : Int32) (v_rowsOf : Int32) (v_columnsOf : Int32) (v_limit : List Int32) (v_worn : List Int32) : Option (Int32) :=
    mm_nm ((s1 + s0)) (fun (y_8 : Int32) =>
    mm_nm (x3 + (1 : Int32)) (fun (y_9 : Int32) =>
    k_4 x1 y_8 y_9 v_rowsOf v_columnsOf v_limit v_worn))

set_option maxHeartbeats 4000000 in
set_option maxRecDepth 100000 in
theorem tX9_tornNow_44 {p : Program} {l : Launch} {e : Env} {s : State} {m : MethodId} {args : Array Value} {below : List Frame} {meth : Method} {c : Code} {D : va_G} {cI cL cS cH : ClassId} {A : Nat → Prop} {d : Nat} {a : Nat → Nat} (hd : 3 ≤ d) (C0 : mm_Cx p s m args meth c RX9 cX9_tornNow 4 (some .int) D (mm_T cI cL cS cH) A) (hA : ∀ q, s.heap.size ≤ q → A q) {v_keptMany : Int32} {v_done : Int32} {v_folded : Int32} {v_wronged : Int32} {v_tapeMany : Int32} {v_textMany : Int32} {v_base : Int32} {v_at : Int32} {v_ends : Int32} {v_fault : Int32} {v_opened : Int32} {v_bentMany : Int32} {v_bentWrong : Int32} {v_moreWorn : Int32} {v_planned : Int32} {v_allWrong : Int32} {v_allWorn : Int32} {v_z : Int32} {v_wishedField : Int32} {v_isFound : Bool} {v_bestWrong : Int32} {v_bestWorn : Int32} {v_bestMany : Int32} {v_soughtBy : Int32} {v_sought : Int32} {v_soughtAt : Int32} {v_foundMany : Int32} {v_foundOrder : Int32} {v_isKept : Bool} {v_imageRows : Int32} {v_imageColumns : Int32} {v_imageFolded : Int32} {v_imageWronged : Int32} {v_bodies : Int32} {v_ran : Int32} {v_ownKind : Int32} {v_ownNumber : Int32} {v_changeWas : List Int32} {v_changeIs : List Int32} {v_shapeRows : List Int32} {v_shapeColumns : List Int32} {v_row : List Int32} {v_column : List Int32} {v_below : List Int32} {v_face : List Int32} {v_lastBend : List Int32} {v_tape : List Int32} {v_text : List Int32} {v_names : List Int32} {v_bends : List Int32} {v_high : List Int32} {v_to : List Int32} {v_pileSize : List Int32} {v_planLine : List Int32} {v_planWay : List Int32} {v_way1 : List Int32} {v_bestWay : List Int32} {v_order1 : List Int32} {v_placeIn : List Int32} {v_bodyKind : List Int32} {v_trace : List Int32} {v_shelf : List Int32} {v_many : List Int32} {v_items : List Int64} {v_carried : List Int64} {r : Int32} (N : Nat) {k_4 : Int32 → Int32 → Int32 → Int32 → Int32 → List Int32 → List Int32 → Option (Int32)} (hk_4 : ∀ (x1 : Int32) (x2 : Int32) (x3 : Int32) (v_rowsOf : Int32) (v_columnsOf : Int32) (v_limit : List Int32) (v_worn : List Int32) (H : Heap) (locs : List Loc) (ls : Array Slot), k_4 x1 x2 x3 v_rowsOf v_columnsOf v_limit v_worn = some r → va_P D mm_cl (wd_X9 cI cL cS cH a v_keptMany v_done v_rowsOf v_columnsOf v_folded v_wronged v_tapeMany v_textMany v_base v_at v_ends v_fault v_opened v_bentMany v_bentWrong v_moreWorn v_planned v_allWrong v_allWorn v_z v_wishedField v_isFound v_bestWrong v_bestWorn v_bestMany v_soughtBy v_sought v_soughtAt v_foundMany v_foundOrder v_isKept v_imageRows v_imageColumns v_imageFolded v_imageWronged v_bodies v_ran v_ownKind v_ownNumber v_limit v_changeWas v_changeIs v_shapeRows v_shapeColumns v_row v_column v_below v_face v_worn v_lastBend v_tape v_text v_names v_bends v_high v_to v_pileSize v_planLine v_planWay v_way1 v_bestWay v_order1 v_placeIn v_bodyKind v_trace v_shelf v_many v_items v_carried) H → va_D A (wd_X9 cI cL cS cH a v_keptMany v_done v_rowsOf v_columnsOf v_folded v_wronged v_tapeMany v_textMany v_base v_at v_ends v_fault v_opened v_bentMany v_bentWrong v_moreWorn v_planned v_allWrong v_allWorn v_z v_wishedField v_isFound v_bestWrong v_bestWorn v_bestMany v_soughtBy v_sought v_soughtAt v_foundMany v_foundOrder v_isKept v_imageRows v_imageColumns v_imageFolded v_imageWronged v_bodies v_ran v_ownKind v_ownNumber v_limit v_changeWas v_changeIs v_shapeRows v_shapeColumns v_row v_column v_below v_face v_worn v_lastBend v_tape v_text v_names v_bends v_high v_to v_pileSize v_planLine v_planWay v_way1 v_bestWay v_order1 v_placeIn v_bodyKind v_trace v_shelf v_many v_items v_carried) → va_S A s.heap H locs → lv_has ls 4 [(0, .ref (a 0)), (1, .int x1), (2, .int x2), (3, .int x3)] → W p l e (mm_rr d) s m args below meth c H locs 0 0 (mm_Z below D A (wd_X9 cI cL cS cH a v_keptMany v_done v_rowsOf v_columnsOf v_folded v_wronged v_tapeMany v_textMany v_base v_at v_ends v_fault v_opened v_bentMany v_bentWrong v_moreWorn v_planned v_allWrong v_allWorn v_z v_wishedField v_isFound v_bestWrong v_bestWorn v_bestMany v_soughtBy v_sought v_soughtAt v_foundMany v_foundOrder v_isKept v_imageRows v_imageColumns v_imageFolded v_imageWronged v_bodies v_ran v_ownKind v_ownNumber v_limit v_changeWas v_changeIs v_shapeRows v_shapeColumns v_row v_column v_below v_face v_worn v_lastBend v_tape v_text v_names v_bends v_high v_to v_pileSize v_planLine v_planWay v_way1 v_bestWay v_order1 v_placeIn v_bodyKind v_trace v_shelf v_many v_items v_carried) (some (.int r)) args s) (F0 m 4 ls [])) : ∀ (x1 : Int32) (x3 : Int32) (s0 : Int32) (s1 : Int32) (v_rowsOf : Int32) (v_columnsOf : Int32) (v_limit : List Int32) (v_worn : List Int32) (H : Heap) (locs : List Loc) (ls : Array Slot), fX9_tornNow_44 N k_4 x1 x3 s0 s1 v_rowsOf v_columnsOf v_limit v_worn = some r → va_P D mm_cl (wd_X9 cI cL cS cH a v_keptMany v_done v_rowsOf v_columnsOf v_folded v_wronged v_tapeMany v_textMany v_base v_at v_ends v_fault v_opened v_bentMany v_bentWrong v_moreWorn v_planned v_allWrong v_allWorn v_z v_wishedField v_isFound v_bestWrong v_bestWorn v_bestMany v_soughtBy v_sought v_soughtAt v_foundMany v_foundOrder v_isKept v_imageRows v_imageColumns v_imageFolded v_imageWronged v_bodies v_ran v_ownKind v_ownNumber v_limit v_changeWas v_changeIs v_shapeRows v_shapeColumns v_row v_column v_below v_face v_worn v_lastBend v_tape v_text v_names v_bends v_high v_to v_pileSize v_planLine v_planWay v_way1 v_bestWay v_order1 v_placeIn v_bodyKind v_trace v_shelf v_many v_items v_carried) H → va_D A (wd_X9 cI cL cS cH a v_keptMany v_done v_rowsOf v_columnsOf v_folded v_wronged v_tapeMany v_textMany v_base v_at v_ends v_fault v_opened v_bentMany v_bentWrong v_moreWorn v_planned v_allWrong v_allWorn v_z v_wishedField v_isFound v_bestWrong v_bestWorn v_bestMany v_soughtBy v_sought v_soughtAt v_foundMany v_foundOrder v_isKept v_imageRows v_imageColumns v_imageFolded v_imageWronged v_bodies v_ran v_ownKind v_ownNumber v_limit v_changeWas v_changeIs v_shapeRows v_shapeColumns v_row v_column v_below v_face v_worn v_lastBend v_tape v_text v_names v_bends v_high v_to v_pileSize v_planLine v_planWay v_way1 v_bestWay v_order1 v_placeIn v_bodyKind v_trace v_shelf v_many v_items v_carried) → va_S A s.heap H locs → lv_has ls 4 [(0, .ref (a 0)), (1, .int x1), (3, .int x3)] → W p l e (mm_rr d) s m args below meth c H locs 0 0 (mm_Z below D A (wd_X9 cI cL cS cH a v_keptMany v_done v_rowsOf v_columnsOf v_folded v_wronged v_tapeMany v_textMany v_base v_at v_ends v_fault v_opened v_bentMany v_bentWrong v_moreWorn v_planned v_allWrong v_allWorn v_z v_wishedField v_isFound v_bestWrong v_bestWorn v_bestMany v_soughtBy v_sought v_soughtAt v_foundMany v_foundOrder v_isKept v_imageRows v_imageColumns v_imageFolded v_imageWronged v_bodies v_ran v_ownKind v_ownNumber v_limit v_changeWas v_changeIs v_shapeRows v_shapeColumns v_row v_column v_below v_face v_worn v_lastBend v_tape v_text v_names v_bends v_high v_to v_pileSize v_planLine v_planWay v_way1 v_bestWay v_order1 v_placeIn v_bodyKind v_trace v_shelf v_many v_items v_carried) (some (.int r)) args s) (F0 m 44 ls [.int s0, .int s1]) := by
  obtain ⟨hx, hb, hml, hown, hts, hr, hlocks, hK, hSt⟩ := id C0
  intro x1 x3 s0 s1 v_rowsOf v_columnsOf v_limit v_worn H locs ls hf hP hD hS hl
  unfold fX9_tornNow_44 at hf
  refine lv_iadd hx hb dX9_tornNow_44 ?_
  refine lv_topi (fun y_8 ey_8 => ?_)
  have hf := mm_nms hf ey_8
  refine lv_istore_n (lv' := [(2, .int y_8), (0, .ref (a 0)), (1, .int x1), (3, .int x3)]) hx hb dX9_tornNow_45 rfl hl (by decide) rfl (fun ls hl => ?_)
  obtain ⟨y_9, ey_9⟩ : ∃ z : Int32, z = x3 + (1 : Int32) := ⟨_, rfl⟩
  have hf := mm_nms hf ey_9
  refine lv_iinc (v := y_9) (lv' := [(3, .int y_9), (2, .int y_8), (0, .ref (a 0)), (1, .int x1)]) hx hb dX9_tornNow_46 hl (k := 3) rfl (by rw [ey_9]; rfl) (by decide) rfl (fun ls hl => ?_)
  refine lv_goto (tgt := 4) hx hb dX9_tornNow_49 (by decide) ?_
  exact hk_4 _ _ _ _ _ _ _ H locs ls hf hP hD hS (lv_sub hl [2, 3, 1, 0] rfl)

def fX9_tornNow_43 (N : Nat) (k_4 : Int32 → Int32 → Int32 → Int32 → Int32 → List Int32 → List Int32 → Option (Int32)) (x1 : Int32) (x3 : Int32) (s0 : Int32) (v_rowsOf : Int32) (v_columnsOf : Int32) (v_limit : List Int32) (v_worn : List Int32) : Option (Int32) :=
    fX9_tornNow_44 N k_4 x1 x3 (0 : Int32) s0 v_rowsOf v_columnsOf v_limit v_worn

set_option maxHeartbeats 4000000 in
set_option maxRecDepth 100000 in
theorem tX9_tornNow_43 {p : Program} {l : Launch} {e : Env} {s : State} {m : MethodId} {args : Array Value} {below : List Frame} {meth : Method} {c : Code} {D : va_G} {cI cL cS cH : ClassId} {A : Nat → Prop} {d : Nat} {a : Nat → Nat} (hd : 3 ≤ d) (C0 : mm_Cx p s m args meth c RX9 cX9_tornNow 4 (some .int) D (mm_T cI cL cS cH) A) (hA : ∀ q, s.heap.size ≤ q → A q) {v_keptMany : Int32} {v_done : Int32} {v_folded : Int32} {v_wronged : Int32} {v_tapeMany : Int32} {v_textMany : Int32} {v_base : Int32} {v_at : Int32} {v_ends : Int32} {v_fault : Int32} {v_opened : Int32} {v_bentMany : Int32} {v_bentWrong : Int32} {v_moreWorn : Int32} {v_planned : Int32} {v_allWrong : Int32} {v_allWorn : Int32} {v_z : Int32} {v_wishedField : Int32} {v_isFound : Bool} {v_bestWrong : Int32} {v_bestWorn : Int32} {v_bestMany : Int32} {v_soughtBy : Int32} {v_sought : Int32} {v_soughtAt : Int32} {v_foundMany : Int32} {v_foundOrder : Int32} {v_isKept : Bool} {v_imageRows : Int32} {v_imageColumns : Int32} {v_imageFolded : Int32} {v_imageWronged : Int32} {v_bodies : Int32} {v_ran : Int32} {v_ownKind : Int32} {v_ownNumber : Int32} {v_changeWas : List Int32} {v_changeIs : List Int32} {v_shapeRows : List Int32} {v_shapeColumns : List Int32} {v_row : List Int32} {v_column : List Int32} {v_below : List Int32} {v_face : List Int32} {v_lastBend : List Int32} {v_tape : List Int32} {v_text : List Int32} {v_names : List Int32} {v_bends : List Int32} {v_high : List Int32} {v_to : List Int32} {v_pileSize : List Int32} {v_planLine : List Int32} {v_planWay : List Int32} {v_way1 : List Int32} {v_bestWay : List Int32} {v_order1 : List Int32} {v_placeIn : List Int32} {v_bodyKind : List Int32} {v_trace : List Int32} {v_shelf : List Int32} {v_many : List Int32} {v_items : List Int64} {v_carried : List Int64} {r : Int32} (N : Nat) {k_4 : Int32 → Int32 → Int32 → Int32 → Int32 → List Int32 → List Int32 → Option (Int32)} (hk_4 : ∀ (x1 : Int32) (x2 : Int32) (x3 : Int32) (v_rowsOf : Int32) (v_columnsOf : Int32) (v_limit : List Int32) (v_worn : List Int32) (H : Heap) (locs : List Loc) (ls : Array Slot), k_4 x1 x2 x3 v_rowsOf v_columnsOf v_limit v_worn = some r → va_P D mm_cl (wd_X9 cI cL cS cH a v_keptMany v_done v_rowsOf v_columnsOf v_folded v_wronged v_tapeMany v_textMany v_base v_at v_ends v_fault v_opened v_bentMany v_bentWrong v_moreWorn v_planned v_allWrong v_allWorn v_z v_wishedField v_isFound v_bestWrong v_bestWorn v_bestMany v_soughtBy v_sought v_soughtAt v_foundMany v_foundOrder v_isKept v_imageRows v_imageColumns v_imageFolded v_imageWronged v_bodies v_ran v_ownKind v_ownNumber v_limit v_changeWas v_changeIs v_shapeRows v_shapeColumns v_row v_column v_below v_face v_worn v_lastBend v_tape v_text v_names v_bends v_high v_to v_pileSize v_planLine v_planWay v_way1 v_bestWay v_order1 v_placeIn v_bodyKind v_trace v_shelf v_many v_items v_carried) H → va_D A (wd_X9 cI cL cS cH a v_keptMany v_done v_rowsOf v_columnsOf v_folded v_wronged v_tapeMany v_textMany v_base v_at v_ends v_fault v_opened v_bentMany v_bentWrong v_moreWorn v_planned v_allWrong v_allWorn v_z v_wishedField v_isFound v_bestWrong v_bestWorn v_bestMany v_soughtBy v_sought v_soughtAt v_foundMany v_foundOrder v_isKept v_imageRows v_imageColumns v_imageFolded v_imageWronged v_bodies v_ran v_ownKind v_ownNumber v_limit v_changeWas v_changeIs v_shapeRows v_shapeColumns v_row v_column v_below v_face v_worn v_lastBend v_tape v_text v_names v_bends v_high v_to v_pileSize v_planLine v_planWay v_way1 v_bestWay v_order1 v_placeIn v_bodyKind v_trace v_shelf v_many v_items v_carried) → va_S A s.heap H locs → lv_has ls 4 [(0, .ref (a 0)), (1, .int x1), (2, .int x2), (3, .int x3)] → W p l e (mm_rr d) s m args below meth c H locs 0 0 (mm_Z below D A (wd_X9 cI cL cS cH a v_keptMany v_done v_rowsOf v_columnsOf v_folded v_wronged v_tapeMany v_textMany v_base v_at v_ends v_fault v_opened v_bentMany v_bentWrong v_moreWorn v_planned v_allWrong v_allWorn v_z v_wishedField v_isFound v_bestWrong v_bestWorn v_bestMany v_soughtBy v_sought v_soughtAt v_foundMany v_foundOrder v_isKept v_imageRows v_imageColumns v_imageFolded v_imageWronged v_bodies v_ran v_ownKind v_ownNumber v_limit v_changeWas v_changeIs v_shapeRows v_shapeColumns v_row v_column v_below v_face v_worn v_lastBend v_tape v_text v_names v_bends v_high v_to v_pileSize v_planLine v_planWay v_way1 v_bestWay v_order1 v_placeIn v_bodyKind v_trace v_shelf v_many v_items v_carried) (some (.int r)) args s) (F0 m 4 ls [])) : ∀ (x1 : Int32) (x3 : Int32) (s0 : Int32) (v_rowsOf : Int32) (v_columnsOf : Int32) (v_limit : List Int32) (v_worn : List Int32) (H : Heap) (locs : List Loc) (ls : Array Slot), fX9_tornNow_43 N k_4 x1 x3 s0 v_rowsOf v_columnsOf v_limit v_worn = some r → va_P D mm_cl (wd_X9 cI cL cS cH a v_keptMany v_done v_rowsOf v_columnsOf v_folded v_wronged v_tapeMany v_textMany v_base v_at v_ends v_fault v_opened v_bentMany v_bentWrong v_moreWorn v_planned v_allWrong v_allWorn v_z v_wishedField v_isFound v_bestWrong v_bestWorn v_bestMany v_soughtBy v_sought v_soughtAt v_foundMany v_foundOrder v_isKept v_imageRows v_imageColumns v_imageFolded v_imageWronged v_bodies v_ran v_ownKind v_ownNumber v_limit v_changeWas v_changeIs v_shapeRows v_shapeColumns v_row v_column v_below v_face v_worn v_lastBend v_tape v_text v_names v_bends v_high v_to v_pileSize v_planLine v_planWay v_way1 v_bestWay v_order1 v_placeIn v_bodyKind v_trace v_shelf v_many v_items v_carried) H → va_D A (wd_X9 cI cL cS cH a v_keptMany v_done v_rowsOf v_columnsOf v_folded v_wronged v_tapeMany v_textMany v_base v_at v_ends v_fault v_opened v_bentMany v_bentWrong v_moreWorn v_planned v_allWrong v_allWorn v_z v_wishedField v_isFound v_bestWrong v_bestWorn v_bestMany v_soughtBy v_sought v_soughtAt v_foundMany v_foundOrder v_isKept v_imageRows v_imageColumns v_imageFolded v_imageWronged v_bodies v_ran v_ownKind v_ownNumber v_limit v_changeWas v_changeIs v_shapeRows v_shapeColumns v_row v_column v_below v_face v_worn v_lastBend v_tape v_text v_names v_bends v_high v_to v_pileSize v_planLine v_planWay v_way1 v_bestWay v_order1 v_placeIn v_bodyKind v_trace v_shelf v_many v_items v_carried) → va_S A s.heap H locs → lv_has ls 4 [(0, .ref (a 0)), (1, .int x1), (3, .int x3)] → W p l e (mm_rr d) s m args below meth c H locs 0 0 (mm_Z below D A (wd_X9 cI cL cS cH a v_keptMany v_done v_rowsOf v_columnsOf v_folded v_wronged v_tapeMany v_textMany v_base v_at v_ends v_fault v_opened v_bentMany v_bentWrong v_moreWorn v_planned v_allWrong v_allWorn v_z v_wishedField v_isFound v_bestWrong v_bestWorn v_bestMany v_soughtBy v_sought v_soughtAt v_foundMany v_foundOrder v_isKept v_imageRows v_imageColumns v_imageFolded v_imageWronged v_bodies v_ran v_ownKind v_ownNumber v_limit v_changeWas v_changeIs v_shapeRows v_shapeColumns v_row v_column v_below v_face v_worn v_lastBend v_tape v_text v_names v_bends v_high v_to v_pileSize v_planLine v_planWay v_way1 v_bestWay v_order1 v_placeIn v_bodyKind v_trace v_shelf v_many v_items v_carried) (some (.int r)) args s) (F0 m 43 ls [.int s0]) := by
  obtain ⟨hx, hb, hml, hown, hts, hr, hlocks, hK, hSt⟩ := id C0
  intro x1 x3 s0 v_rowsOf v_columnsOf v_limit v_worn H locs ls hf hP hD hS hl
  unfold fX9_tornNow_43 at hf
  refine lv_iconst (v := 0) hx hb dX9_tornNow_43 (by decide) ?_
  exact tX9_tornNow_44 hd C0 hA N hk_4 _ _ _ _ _ _ _ _ H locs ls hf hP hD hS (lv_sub hl [0, 1, 2] rfl)

def fX9_tornNow_4 (N : Nat)  : Nat → Int32 → Int32 → Int32 → Int32 → Int32 → List Int32 → List Int32 → Option (Int32)
  | 0 => fun _ _ _ _ _ _ _ => none
  | n + 1 => fun x1 x2 x3 v_rowsOf v_columnsOf v_limit v_worn =>
    if (64 : Int32) ≤ x3 then
    (some (x2))
    else (mm_bd1 (fX9_isCrease N x3 v_rowsOf v_columnsOf) (fun (r_2 : Bool) =>
    if r_2 = false then
    (fX9_tornNow_43 N (fX9_tornNow_4 N n) x1 x3 x2 v_rowsOf v_columnsOf v_limit v_worn)
    else (mm_ck (mm_inb (((64 : Int32) * x1) + x3) v_worn.length) (mm_ck (mm_inb (0 : Int32) v_limit.length) (if (mm_ig v_worn (((64 : Int32) * x1) + x3)) < (mm_ig v_limit (0 : Int32)) then
    (fX9_tornNow_43 N (fX9_tornNow_4 N n) x1 x3 x2 v_rowsOf v_columnsOf v_limit v_worn)
    else (fX9_tornNow_44 N (fX9_tornNow_4 N n) x1 x3 (1 : Int32) x2 v_rowsOf v_columnsOf v_limit v_worn))))))

set_option maxHeartbeats 4000000 in
set_option maxRecDepth 100000 in
theorem tX9_tornNow_4 {p : Program} {l : Launch} {e : Env} {s : State} {m : MethodId} {args : Array Value} {below : List Frame} {meth : Method} {c : Code} {D : va_G} {cI cL cS cH : ClassId} {A : Nat → Prop} {d : Nat} {a : Nat → Nat} (hd : 3 ≤ d) (C0 : mm_Cx p s m args meth c RX9 cX9_tornNow 4 (some .int) D (mm_T cI cL cS cH) A) (hA : ∀ q, s.heap.size ≤ q → A q) {v_keptMany : Int32} {v_done : Int32} {v_folded : Int32} {v_wronged : Int32} {v_tapeMany : Int32} {v_textMany : Int32} {v_base : Int32} {v_at : Int32} {v_ends : Int32} {v_fault : Int32} {v_opened : Int32} {v_bentMany : Int32} {v_bentWrong : Int32} {v_moreWorn : Int32} {v_planned : Int32} {v_allWrong : Int32} {v_allWorn : Int32} {v_z : Int32} {v_wishedField : Int32} {v_isFound : Bool} {v_bestWrong : Int32} {v_bestWorn : Int32} {v_bestMany : Int32} {v_soughtBy : Int32} {v_sought : Int32} {v_soughtAt : Int32} {v_foundMany : Int32} {v_foundOrder : Int32} {v_isKept : Bool} {v_imageRows : Int32} {v_imageColumns : Int32} {v_imageFolded : Int32} {v_imageWronged : Int32} {v_bodies : Int32} {v_ran : Int32} {v_ownKind : Int32} {v_ownNumber : Int32} {v_changeWas : List Int32} {v_changeIs : List Int32} {v_shapeRows : List Int32} {v_shapeColumns : List Int32} {v_row : List Int32} {v_column : List Int32} {v_below : List Int32} {v_face : List Int32} {v_lastBend : List Int32} {v_tape : List Int32} {v_text : List Int32} {v_names : List Int32} {v_bends : List Int32} {v_high : List Int32} {v_to : List Int32} {v_pileSize : List Int32} {v_planLine : List Int32} {v_planWay : List Int32} {v_way1 : List Int32} {v_bestWay : List Int32} {v_order1 : List Int32} {v_placeIn : List Int32} {v_bodyKind : List Int32} {v_trace : List Int32} {v_shelf : List Int32} {v_many : List Int32} {v_items : List Int64} {v_carried : List Int64} {r : Int32} (N : Nat)  : ∀ (n : Nat), ∀ (x1 : Int32) (x2 : Int32) (x3 : Int32) (v_rowsOf : Int32) (v_columnsOf : Int32) (v_limit : List Int32) (v_worn : List Int32) (H : Heap) (locs : List Loc) (ls : Array Slot), fX9_tornNow_4 N n x1 x2 x3 v_rowsOf v_columnsOf v_limit v_worn = some r → va_P D mm_cl (wd_X9 cI cL cS cH a v_keptMany v_done v_rowsOf v_columnsOf v_folded v_wronged v_tapeMany v_textMany v_base v_at v_ends v_fault v_opened v_bentMany v_bentWrong v_moreWorn v_planned v_allWrong v_allWorn v_z v_wishedField v_isFound v_bestWrong v_bestWorn v_bestMany v_soughtBy v_sought v_soughtAt v_foundMany v_foundOrder v_isKept v_imageRows v_imageColumns v_imageFolded v_imageWronged v_bodies v_ran v_ownKind v_ownNumber v_limit v_changeWas v_changeIs v_shapeRows v_shapeColumns v_row v_column v_below v_face v_worn v_lastBend v_tape v_text v_names v_bends v_high v_to v_pileSize v_planLine v_planWay v_way1 v_bestWay v_order1 v_placeIn v_bodyKind v_trace v_shelf v_many v_items v_carried) H → va_D A (wd_X9 cI cL cS cH a v_keptMany v_done v_rowsOf v_columnsOf v_folded v_wronged v_tapeMany v_textMany v_base v_at v_ends v_fault v_opened v_bentMany v_bentWrong v_moreWorn v_planned v_allWrong v_allWorn v_z v_wishedField v_isFound v_bestWrong v_bestWorn v_bestMany v_soughtBy v_sought v_soughtAt v_foundMany v_foundOrder v_isKept v_imageRows v_imageColumns v_imageFolded v_imageWronged v_bodies v_ran v_ownKind v_ownNumber v_limit v_changeWas v_changeIs v_shapeRows v_shapeColumns v_row v_column v_below v_face v_worn v_lastBend v_tape v_text v_names v_bends v_high v_to v_pileSize v_planLine v_planWay v_way1 v_bestWay v_order1 v_placeIn v_bodyKind v_trace v_shelf v_many v_items v_carried) → va_S A s.heap H locs → lv_has ls 4 [(0, .ref (a 0)), (1, .int x1), (2, .int x2), (3, .int x3)] → W p l e (mm_rr d) s m args below meth c H locs 0 0 (mm_Z below D A (wd_X9 cI cL cS cH a v_keptMany v_done v_rowsOf v_columnsOf v_folded v_wronged v_tapeMany v_textMany v_base v_at v_ends v_fault v_opened v_bentMany v_bentWrong v_moreWorn v_planned v_allWrong v_allWorn v_z v_wishedField v_isFound v_bestWrong v_bestWorn v_bestMany v_soughtBy v_sought v_soughtAt v_foundMany v_foundOrder v_isKept v_imageRows v_imageColumns v_imageFolded v_imageWronged v_bodies v_ran v_ownKind v_ownNumber v_limit v_changeWas v_changeIs v_shapeRows v_shapeColumns v_row v_column v_below v_face v_worn v_lastBend v_tape v_text v_names v_bends v_high v_to v_pileSize v_planLine v_planWay v_way1 v_bestWay v_order1 v_placeIn v_bodyKind v_trace v_shelf v_many v_items v_carried) (some (.int r)) args s) (F0 m 4 ls []) := by
  obtain ⟨hx, hb, hml, hown, hts, hr, hlocks, hK, hSt⟩ := id C0
  intro n
  induction n with
  | zero =>
    intro x1 x2 x3 v_rowsOf v_columnsOf v_limit v_worn H locs ls hf
    cases (show none = some _ from hf)
  | succ n ih =>
    intro x1 x2 x3 v_rowsOf v_columnsOf v_limit v_worn H locs ls hf hP hD hS hl
    unfold fX9_tornNow_4 at hf
    refine lv_iload_n hx hb dX9_tornNow_4 rfl (lv_at hl 3 rfl) ?_
    refine lv_bipush (v := 64) hx hb dX9_tornNow_5 (by decide) ?_
    refine lv_icmp_ge (tgt := 52) hx hb dX9_tornNow_7 (by decide) (fun c_1 => ?_) (fun c_1 => ?_)
    · have hf := mm_ip hf c_1
      refine lv_iload_n hx hb dX9_tornNow_52 rfl (lv_at hl 2 rfl) ?_
      obtain rfl := mm_inj1 hf
      exact mm_iret C0 hP hD hS dX9_tornNow_53
    · have hf := mm_in hf c_1
      refine lv_iload_n hx hb dX9_tornNow_10 rfl (lv_at hl 2 rfl) ?_
      refine lv_aload_n hx hb dX9_tornNow_11 rfl (lv_at hl 0 rfl) ?_
      refine lv_iload_n hx hb dX9_tornNow_12 rfl (lv_at hl 3 rfl) ?_
      obtain ⟨r_2, hc_3, hf⟩ := mm_bd1s hf
      refine mm_callVF (q0 := 0) (ci := 9) (rest := [.int x2]) C0 lk_X9_217 (ctX9_isCrease (a := a) (d := d - 1) (by omega) hc_3) (by omega) rfl hl.1 rfl (mm_cat rfl) dX9_tornNow_13 hP hD hA hS rfl rfl (fun H locs hP hD hS => ?_)
      refine W.eq (g2 := F0 m 16 ls [.int (mm_b r_2), .int x2]) rfl ?_
      refine lv_if_eq (tgt := 43) hx hb dX9_tornNow_16 (by decide) (fun c_4 => ?_) (fun c_4 => ?_)
      · have hf := mm_ip hf (mm_b0 c_4)
        exact tX9_tornNow_43 hd C0 hA N ih _ _ _ _ _ _ _ H locs ls hf hP hD hS (lv_sub hl [0, 1, 3] rfl)
      · have hf := mm_in hf (mm_b1 c_4)
        refine lv_aload_n hx hb dX9_tornNow_19 rfl (lv_at hl 0 rfl) ?_
        refine mm_get C0 hP iw_X9 0 rfl rfl 13 (by decide) fl_X9_37 rfl dX9_tornNow_20 ?_
        refine lv_bipush (v := 64) hx hb dX9_tornNow_23 (by decide) ?_
        refine lv_iload_n hx hb dX9_tornNow_25 rfl (lv_at hl 1 rfl) ?_
        refine lv_imul hx hb dX9_tornNow_26 ?_
        refine lv_iload_n hx hb dX9_tornNow_27 rfl (lv_at hl 3 rfl) ?_
        refine lv_iadd hx hb dX9_tornNow_28 ?_
        obtain ⟨h_5, hf⟩ := mm_cks hf
        refine mm_iald C0 hP 10 rfl h_5 dX9_tornNow_29 ?_
        refine lv_aload_n hx hb dX9_tornNow_30 rfl (lv_at hl 0 rfl) ?_
        refine mm_get C0 hP iw_X9 0 rfl rfl 0 (by decide) fl_X9_7 rfl dX9_tornNow_31 ?_
        refine lv_iconst (v := 0) hx hb dX9_tornNow_34 (by decide) ?_
        obtain ⟨h_6, hf⟩ := mm_cks hf
        refine mm_iald C0 hP 1 rfl h_6 dX9_tornNow_35 ?_
        refine lv_icmp_lt (tgt := 43) hx hb dX9_tornNow_36 (by decide) (fun c_7 => ?_) (fun c_7 => ?_)
        · have hf := mm_ip hf c_7
          exact tX9_tornNow_43 hd C0 hA N ih _ _ _ _ _ _ _ H locs ls hf hP hD hS (lv_sub hl [0, 1, 3] rfl)
        · have hf := mm_in hf c_7
          refine lv_iconst (v := 1) hx hb dX9_tornNow_39 (by decide) ?_
          refine lv_goto (tgt := 44) hx hb dX9_tornNow_40 (by decide) ?_
          exact tX9_tornNow_44 hd C0 hA N ih _ _ _ _ _ _ _ _ H locs ls hf hP hD hS (lv_sub hl [0, 1, 3] rfl)

def fX9_tornNow (N : Nat) (x1 : Int32) (v_rowsOf : Int32) (v_columnsOf : Int32) (v_limit : List Int32) (v_worn : List Int32) : Option (Int32) :=
    fX9_tornNow_4 N N x1 (0 : Int32) (0 : Int32) v_rowsOf v_columnsOf v_limit v_worn

set_option maxHeartbeats 4000000 in
set_option maxRecDepth 100000 in
theorem ctX9_tornNow {l : Launch} {D : va_G} {cI cL cS cH : ClassId} {a : Nat → Nat} {x1 : Int32} {v_keptMany : Int32} {v_done : Int32} {v_rowsOf : Int32} {v_columnsOf : Int32} {v_folded : Int32} {v_wronged : Int32} {v_tapeMany : Int32} {v_textMany : Int32} {v_base : Int32} {v_at : Int32} {v_ends : Int32} {v_fault : Int32} {v_opened : Int32} {v_bentMany : Int32} {v_bentWrong : Int32} {v_moreWorn : Int32} {v_planned : Int32} {v_allWrong : Int32} {v_allWorn : Int32} {v_z : Int32} {v_wishedField : Int32} {v_isFound : Bool} {v_bestWrong : Int32} {v_bestWorn : Int32} {v_bestMany : Int32} {v_soughtBy : Int32} {v_sought : Int32} {v_soughtAt : Int32} {v_foundMany : Int32} {v_foundOrder : Int32} {v_isKept : Bool} {v_imageRows : Int32} {v_imageColumns : Int32} {v_imageFolded : Int32} {v_imageWronged : Int32} {v_bodies : Int32} {v_ran : Int32} {v_ownKind : Int32} {v_ownNumber : Int32} {v_limit : List Int32} {v_changeWas : List Int32} {v_changeIs : List Int32} {v_shapeRows : List Int32} {v_shapeColumns : List Int32} {v_row : List Int32} {v_column : List Int32} {v_below : List Int32} {v_face : List Int32} {v_worn : List Int32} {v_lastBend : List Int32} {v_tape : List Int32} {v_text : List Int32} {v_names : List Int32} {v_bends : List Int32} {v_high : List Int32} {v_to : List Int32} {v_pileSize : List Int32} {v_planLine : List Int32} {v_planWay : List Int32} {v_way1 : List Int32} {v_bestWay : List Int32} {v_order1 : List Int32} {v_placeIn : List Int32} {v_bodyKind : List Int32} {v_trace : List Int32} {v_shelf : List Int32} {v_many : List Int32} {v_items : List Int64} {v_carried : List Int64} {r : Int32} {N d : Nat} (hd : 3 ≤ d) (hf : fX9_tornNow N x1 v_rowsOf v_columnsOf v_limit v_worn = some r) : mm_Ct l yX9_tornNow cX9_tornNow 4 (some .int) d D (mm_T cI cL cS cH) [.ref (a 0), .int x1] (wd_X9 cI cL cS cH a v_keptMany v_done v_rowsOf v_columnsOf v_folded v_wronged v_tapeMany v_textMany v_base v_at v_ends v_fault v_opened v_bentMany v_bentWrong v_moreWorn v_planned v_allWrong v_allWorn v_z v_wishedField v_isFound v_bestWrong v_bestWorn v_bestMany v_soughtBy v_sought v_soughtAt v_foundMany v_foundOrder v_isKept v_imageRows v_imageColumns v_imageFolded v_imageWronged v_bodies v_ran v_ownKind v_ownNumber v_limit v_changeWas v_changeIs v_shapeRows v_shapeColumns v_row v_column v_below v_face v_worn v_lastBend v_tape v_text v_names v_bends v_high v_to v_pileSize v_planLine v_planWay v_way1 v_bestWay v_order1 v_placeIn v_bodyKind v_trace v_shelf v_many v_items v_carried) (wd_X9 cI cL cS cH a v_keptMany v_done v_rowsOf v_columnsOf v_folded v_wronged v_tapeMany v_textMany v_base v_at v_ends v_fault v_opened v_bentMany v_bentWrong v_moreWorn v_planned v_allWrong v_allWorn v_z v_wishedField v_isFound v_bestWrong v_bestWorn v_bestMany v_soughtBy v_sought v_soughtAt v_foundMany v_foundOrder v_isKept v_imageRows v_imageColumns v_imageFolded v_imageWronged v_bodies v_ran v_ownKind v_ownNumber v_limit v_changeWas v_changeIs v_shapeRows v_shapeColumns v_row v_column v_below v_face v_worn v_lastBend v_tape v_text v_names v_bends v_high v_to v_pileSize v_planLine v_planWay v_way1 v_bestWay v_order1 v_placeIn v_bodyKind v_trace v_shelf v_many v_items v_carried) (some (.int r)) := by
  refine mm_of (by decide) (Nat.le_of_ble_eq_true rfl) ?_
  intro p e s m args below meth c A H locs ls C0 hP hD hA hS hl
  have C0 : mm_Cx p s m args meth c RX9 cX9_tornNow 4 (some .int) D (mm_T cI cL cS cH) A := C0
  obtain ⟨hx, hb, hml, hown, hts, hr, hlocks, hK, hSt⟩ := id C0
  have hl : lv_has ls 4 [(0, .ref (a 0)), (1, .int x1)] := hl
  unfold fX9_tornNow at hf
  refine lv_iconst (v := 0) hx hb dX9_tornNow_0 (by decide) ?_
  refine lv_istore_n (lv' := [(2, .int (0 : Int32)), (0, .ref (a 0)), (1, .int x1)]) hx hb dX9_tornNow_1 rfl hl (by decide) rfl (fun ls hl => ?_)
  refine lv_iconst (v := 0) hx hb dX9_tornNow_2 (by decide) ?_
  refine lv_istore_n (lv' := [(3, .int (0 : Int32)), (2, .int (0 : Int32)), (0, .ref (a 0)), (1, .int x1)]) hx hb dX9_tornNow_3 rfl hl (by decide) rfl (fun ls hl => ?_)
  exact tX9_tornNow_4 hd C0 hA N  N _ _ _ _ _ _ _ H locs ls hf hP hD hS (lv_sub hl [2, 3, 1, 0] rfl)

theorem nb_dX9_led_0 : bls_w cX9_led [(0, [27]), (1, [154, 0, 10]), (4, [42]), (5, [180, 0, 135]), (8, [167, 0, 29]), (11, [27]), (12, [4]), (13, [160, 0, 10]), (16, [42]), (17, [180, 0, 138]), (20, [167, 0, 17]), (23, [27])] := bls_of (by decide +kernel)
theorem dX9_led_0 : decode cX9_led 0 = .ok (.iload_n 1, 1) := op_27 nb_dX9_led_0.1
set_option maxRecDepth 100000 in
theorem dX9_led_1 : decode cX9_led 1 = .ok (.ifCond .ne 10, 3) := (op_154 nb_dX9_led_0.2.1).trans rfl
theorem dX9_led_4 : decode cX9_led 4 = .ok (.aload_n 0, 1) := op_42 nb_dX9_led_0.2.2.1
set_option maxRecDepth 100000 in
theorem dX9_led_5 : decode cX9_led 5 = .ok (.getfield 135, 3) := (op_180 nb_dX9_led_0.2.2.2.1).trans rfl
set_option maxRecDepth 100000 in
theorem dX9_led_8 : decode cX9_led 8 = .ok (.goto 29, 3) := (op_167 nb_dX9_led_0.2.2.2.2.1).trans rfl
theorem dX9_led_11 : decode cX9_led 11 = .ok (.iload_n 1, 1) := op_27 nb_dX9_led_0.2.2.2.2.2.1
theorem dX9_led_12 : decode cX9_led 12 = .ok (.iconst 1, 1) := op_4 nb_dX9_led_0.2.2.2.2.2.2.1
set_option maxRecDepth 100000 in
theorem dX9_led_13 : decode cX9_led 13 = .ok (.if_icmp .ne 10, 3) := (op_160 nb_dX9_led_0.2.2.2.2.2.2.2.1).trans rfl
theorem dX9_led_16 : decode cX9_led 16 = .ok (.aload_n 0, 1) := op_42 nb_dX9_led_0.2.2.2.2.2.2.2.2.1
set_option maxRecDepth 100000 in
theorem dX9_led_17 : decode cX9_led 17 = .ok (.getfield 138, 3) := (op_180 nb_dX9_led_0.2.2.2.2.2.2.2.2.2.1).trans rfl
set_option maxRecDepth 100000 in
theorem dX9_led_20 : decode cX9_led 20 = .ok (.goto 17, 3) := (op_167 nb_dX9_led_0.2.2.2.2.2.2.2.2.2.2.1).trans rfl
theorem dX9_led_23 : decode cX9_led 23 = .ok (.iload_n 1, 1) := op_27 nb_dX9_led_0.2.2.2.2.2.2.2.2.2.2.2.1
theorem nb_dX9_led_24 : bls_w cX9_led [(24, [5]), (25, [160, 0, 11]), (28, [42]), (29, [3]), (30, [182, 1, 12]), (33, [167, 0, 4]), (36, [2]), (37, [172])] := bls_of (by decide +kernel)
theorem dX9_led_24 : decode cX9_led 24 = .ok (.iconst 2, 1) := op_5 nb_dX9_led_24.1
set_option maxRecDepth 100000 in
theorem dX9_led_25 : decode cX9_led 25 = .ok (.if_icmp .ne 11, 3) := (op_160 nb_dX9_led_24.2.1).trans rfl
theorem dX9_led_28 : decode cX9_led 28 = .ok (.aload_n 0, 1) := op_42 nb_dX9_led_24.2.2.1
theorem dX9_led_29 : decode cX9_led 29 = .ok (.iconst 0, 1) := op_3 nb_dX9_led_24.2.2.2.1
set_option maxRecDepth 100000 in
theorem dX9_led_30 : decode cX9_led 30 = .ok (.invokevirtual 268, 3) := (op_182 nb_dX9_led_24.2.2.2.2.1).trans rfl
set_option maxRecDepth 100000 in
theorem dX9_led_33 : decode cX9_led 33 = .ok (.goto 4, 3) := (op_167 nb_dX9_led_24.2.2.2.2.2.1).trans rfl
theorem dX9_led_36 : decode cX9_led 36 = .ok (.iconst (-1), 1) := op_2 nb_dX9_led_24.2.2.2.2.2.2.1
theorem dX9_led_37 : decode cX9_led 37 = .ok (.ireturn, 1) := op_172 nb_dX9_led_24.2.2.2.2.2.2.2.1
def fX9_led (N : Nat) (x1 : Int32) (v_rowsOf : Int32) (v_columnsOf : Int32) (v_folded : Int32) (v_wronged : Int32) (v_limit : List Int32) (v_worn : List Int32) : Option (Int32) :=
    if x1 = 0 then
    (some (v_folded))
    else (if x1 = (1 : Int32) then
    (some (v_wronged))
    else (if x1 = (2 : Int32) then
    (mm_bd1 (fX9_tornNow N (0 : Int32) v_rowsOf v_columnsOf v_limit v_worn) (fun (r_4 : Int32) =>
    some (r_4)))
    else (some ((-1 : Int32)))))

set_option maxHeartbeats 4000000 in
set_option maxRecDepth 100000 in
theorem ctX9_led {l : Launch} {D : va_G} {cI cL cS cH : ClassId} {a : Nat → Nat} {x1 : Int32} {v_keptMany : Int32} {v_done : Int32} {v_rowsOf : Int32} {v_columnsOf : Int32} {v_folded : Int32} {v_wronged : Int32} {v_tapeMany : Int32} {v_textMany : Int32} {v_base : Int32} {v_at : Int32} {v_ends : Int32} {v_fault : Int32} {v_opened : Int32} {v_bentMany : Int32} {v_bentWrong : Int32} {v_moreWorn : Int32} {v_planned : Int32} {v_allWrong : Int32} {v_allWorn : Int32} {v_z : Int32} {v_wishedField : Int32} {v_isFound : Bool} {v_bestWrong : Int32} {v_bestWorn : Int32} {v_bestMany : Int32} {v_soughtBy : Int32} {v_sought : Int32} {v_soughtAt : Int32} {v_foundMany : Int32} {v_foundOrder : Int32} {v_isKept : Bool} {v_imageRows : Int32} {v_imageColumns : Int32} {v_imageFolded : Int32} {v_imageWronged : Int32} {v_bodies : Int32} {v_ran : Int32} {v_ownKind : Int32} {v_ownNumber : Int32} {v_limit : List Int32} {v_changeWas : List Int32} {v_changeIs : List Int32} {v_shapeRows : List Int32} {v_shapeColumns : List Int32} {v_row : List Int32} {v_column : List Int32} {v_below : List Int32} {v_face : List Int32} {v_worn : List Int32} {v_lastBend : List Int32} {v_tape : List Int32} {v_text : List Int32} {v_names : List Int32} {v_bends : List Int32} {v_high : List Int32} {v_to : List Int32} {v_pileSize : List Int32} {v_planLine : List Int32} {v_planWay : List Int32} {v_way1 : List Int32} {v_bestWay : List Int32} {v_order1 : List Int32} {v_placeIn : List Int32} {v_bodyKind : List Int32} {v_trace : List Int32} {v_shelf : List Int32} {v_many : List Int32} {v_items : List Int64} {v_carried : List Int64} {r : Int32} {N d : Nat} (hd : 4 ≤ d) (hf : fX9_led N x1 v_rowsOf v_columnsOf v_folded v_wronged v_limit v_worn = some r) : mm_Ct l yX9_led cX9_led 2 (some .int) d D (mm_T cI cL cS cH) [.ref (a 0), .int x1] (wd_X9 cI cL cS cH a v_keptMany v_done v_rowsOf v_columnsOf v_folded v_wronged v_tapeMany v_textMany v_base v_at v_ends v_fault v_opened v_bentMany v_bentWrong v_moreWorn v_planned v_allWrong v_allWorn v_z v_wishedField v_isFound v_bestWrong v_bestWorn v_bestMany v_soughtBy v_sought v_soughtAt v_foundMany v_foundOrder v_isKept v_imageRows v_imageColumns v_imageFolded v_imageWronged v_bodies v_ran v_ownKind v_ownNumber v_limit v_changeWas v_changeIs v_shapeRows v_shapeColumns v_row v_column v_below v_face v_worn v_lastBend v_tape v_text v_names v_bends v_high v_to v_pileSize v_planLine v_planWay v_way1 v_bestWay v_order1 v_placeIn v_bodyKind v_trace v_shelf v_many v_items v_carried) (wd_X9 cI cL cS cH a v_keptMany v_done v_rowsOf v_columnsOf v_folded v_wronged v_tapeMany v_textMany v_base v_at v_ends v_fault v_opened v_bentMany v_bentWrong v_moreWorn v_planned v_allWrong v_allWorn v_z v_wishedField v_isFound v_bestWrong v_bestWorn v_bestMany v_soughtBy v_sought v_soughtAt v_foundMany v_foundOrder v_isKept v_imageRows v_imageColumns v_imageFolded v_imageWronged v_bodies v_ran v_ownKind v_ownNumber v_limit v_changeWas v_changeIs v_shapeRows v_shapeColumns v_row v_column v_below v_face v_worn v_lastBend v_tape v_text v_names v_bends v_high v_to v_pileSize v_planLine v_planWay v_way1 v_bestWay v_order1 v_placeIn v_bodyKind v_trace v_shelf v_many v_items v_carried) (some (.int r)) := by
  refine mm_of (by decide) (Nat.le_of_ble_eq_true rfl) ?_
  intro p e s m args below meth c A H locs ls C0 hP hD hA hS hl
  have C0 : mm_Cx p s m args meth c RX9 cX9_led 2 (some .int) D (mm_T cI cL cS cH) A := C0
  obtain ⟨hx, hb, hml, hown, hts, hr, hlocks, hK, hSt⟩ := id C0
  have hl : lv_has ls 2 [(0, .ref (a 0)), (1, .int x1)] := hl
  unfold fX9_led at hf
  refine lv_iload_n hx hb dX9_led_0 rfl (lv_at hl 1 rfl) ?_
  refine lv_if_ne (tgt := 11) hx hb dX9_led_1 (by decide) (fun c_1 => ?_) (fun c_1 => ?_)
  · have hf := mm_in hf c_1
    refine lv_iload_n hx hb dX9_led_11 rfl (lv_at hl 1 rfl) ?_
    refine lv_iconst (v := 1) hx hb dX9_led_12 (by decide) ?_
    refine lv_icmp_ne (tgt := 23) hx hb dX9_led_13 (by decide) (fun c_2 => ?_) (fun c_2 => ?_)
    · have hf := mm_in hf c_2
      refine lv_iload_n hx hb dX9_led_23 rfl (lv_at hl 1 rfl) ?_
      refine lv_iconst (v := 2) hx hb dX9_led_24 (by decide) ?_
      refine lv_icmp_ne (tgt := 36) hx hb dX9_led_25 (by decide) (fun c_3 => ?_) (fun c_3 => ?_)
      · have hf := mm_in hf c_3
        refine lv_iconst (v := -1) hx hb dX9_led_36 (by decide) ?_
        obtain rfl := mm_inj1 hf
        exact mm_iret C0 hP hD hS dX9_led_37
      · have hf := mm_ip hf c_3
        refine lv_aload_n hx hb dX9_led_28 rfl (lv_at hl 0 rfl) ?_
        refine lv_iconst (v := 0) hx hb dX9_led_29 (by decide) ?_
        obtain ⟨r_4, hc_5, hf⟩ := mm_bd1s hf
        refine mm_callVF (q0 := 0) (ci := 9) (rest := []) C0 lk_X9_268 (ctX9_tornNow (a := a) (d := d - 1) (by omega) hc_5) (by omega) rfl hl.1 rfl (mm_cat rfl) dX9_led_30 hP hD hA hS rfl rfl (fun H locs hP hD hS => ?_)
        refine W.eq (g2 := F0 m 33 ls [.int r_4]) rfl ?_
        refine lv_goto (tgt := 37) hx hb dX9_led_33 (by decide) ?_
        obtain rfl := mm_inj1 hf
        exact mm_iret C0 hP hD hS dX9_led_37
    · have hf := mm_ip hf c_2
      refine lv_aload_n hx hb dX9_led_16 rfl (lv_at hl 0 rfl) ?_
      refine mm_get C0 hP iw_X9 0 rfl rfl 16 (by decide) fl_X9_138 rfl dX9_led_17 ?_
      refine lv_goto (tgt := 37) hx hb dX9_led_20 (by decide) ?_
      obtain rfl := mm_inj1 hf
      exact mm_iret C0 hP hD hS dX9_led_37
  · have hf := mm_ip hf c_1
    refine lv_aload_n hx hb dX9_led_4 rfl (lv_at hl 0 rfl) ?_
    refine mm_get C0 hP iw_X9 0 rfl rfl 15 (by decide) fl_X9_135 rfl dX9_led_5 ?_
    refine lv_goto (tgt := 37) hx hb dX9_led_8 (by decide) ?_
    obtain rfl := mm_inj1 hf
    exact mm_iret C0 hP hD hS dX9_led_37

theorem nb_dX9_plan_0 : bls_w cX9_plan [(0, [27]), (1, [154, 0, 10]), (4, [42]), (5, [3]), (6, [181, 1, 15]), (9, [3]), (10, [172]), (11, [27]), (12, [133]), (13, [10]), (14, [20, 0, 238]), (17, [184, 0, 111])] := bls_of (by decide +kernel)
theorem dX9_plan_0 : decode cX9_plan 0 = .ok (.iload_n 1, 1) := op_27 nb_dX9_plan_0.1
set_option maxRecDepth 100000 in
theorem dX9_plan_1 : decode cX9_plan 1 = .ok (.ifCond .ne 10, 3) := (op_154 nb_dX9_plan_0.2.1).trans rfl
theorem dX9_plan_4 : decode cX9_plan 4 = .ok (.aload_n 0, 1) := op_42 nb_dX9_plan_0.2.2.1
theorem dX9_plan_5 : decode cX9_plan 5 = .ok (.iconst 0, 1) := op_3 nb_dX9_plan_0.2.2.2.1
set_option maxRecDepth 100000 in
theorem dX9_plan_6 : decode cX9_plan 6 = .ok (.putfield 271, 3) := (op_181 nb_dX9_plan_0.2.2.2.2.1).trans rfl
theorem dX9_plan_9 : decode cX9_plan 9 = .ok (.iconst 0, 1) := op_3 nb_dX9_plan_0.2.2.2.2.2.1
theorem dX9_plan_10 : decode cX9_plan 10 = .ok (.ireturn, 1) := op_172 nb_dX9_plan_0.2.2.2.2.2.2.1
theorem dX9_plan_11 : decode cX9_plan 11 = .ok (.iload_n 1, 1) := op_27 nb_dX9_plan_0.2.2.2.2.2.2.2.1
theorem dX9_plan_12 : decode cX9_plan 12 = .ok (.i2l, 1) := op_133 nb_dX9_plan_0.2.2.2.2.2.2.2.2.1
theorem dX9_plan_13 : decode cX9_plan 13 = .ok (.lconst 1, 1) := op_10 nb_dX9_plan_0.2.2.2.2.2.2.2.2.2.1
set_option maxRecDepth 100000 in
theorem dX9_plan_14 : decode cX9_plan 14 = .ok (.ldc2_w 238, 3) := (op_20 nb_dX9_plan_0.2.2.2.2.2.2.2.2.2.2.1).trans rfl
set_option maxRecDepth 100000 in
theorem dX9_plan_17 : decode cX9_plan 17 = .ok (.invokestatic 111, 3) := (op_184 nb_dX9_plan_0.2.2.2.2.2.2.2.2.2.2.2.1).trans rfl
theorem nb_dX9_plan_20 : bls_w cX9_plan [(20, [153, 0, 15]), (23, [28]), (24, [133]), (25, [9]), (26, [20, 0, 238]), (29, [184, 0, 111]), (32, [154, 0, 5]), (35, [2]), (36, [172]), (37, [42]), (38, [180, 1, 15]), (41, [16, 12])] := bls_of (by decide +kernel)
set_option maxRecDepth 100000 in
theorem dX9_plan_20 : decode cX9_plan 20 = .ok (.ifCond .eq 15, 3) := (op_153 nb_dX9_plan_20.1).trans rfl
theorem dX9_plan_23 : decode cX9_plan 23 = .ok (.iload_n 2, 1) := op_28 nb_dX9_plan_20.2.1
theorem dX9_plan_24 : decode cX9_plan 24 = .ok (.i2l, 1) := op_133 nb_dX9_plan_20.2.2.1
theorem dX9_plan_25 : decode cX9_plan 25 = .ok (.lconst 0, 1) := op_9 nb_dX9_plan_20.2.2.2.1
set_option maxRecDepth 100000 in
theorem dX9_plan_26 : decode cX9_plan 26 = .ok (.ldc2_w 238, 3) := (op_20 nb_dX9_plan_20.2.2.2.2.1).trans rfl
set_option maxRecDepth 100000 in
theorem dX9_plan_29 : decode cX9_plan 29 = .ok (.invokestatic 111, 3) := (op_184 nb_dX9_plan_20.2.2.2.2.2.1).trans rfl
set_option maxRecDepth 100000 in
theorem dX9_plan_32 : decode cX9_plan 32 = .ok (.ifCond .ne 5, 3) := (op_154 nb_dX9_plan_20.2.2.2.2.2.2.1).trans rfl
theorem dX9_plan_35 : decode cX9_plan 35 = .ok (.iconst (-1), 1) := op_2 nb_dX9_plan_20.2.2.2.2.2.2.2.1
theorem dX9_plan_36 : decode cX9_plan 36 = .ok (.ireturn, 1) := op_172 nb_dX9_plan_20.2.2.2.2.2.2.2.2.1
theorem dX9_plan_37 : decode cX9_plan 37 = .ok (.aload_n 0, 1) := op_42 nb_dX9_plan_20.2.2.2.2.2.2.2.2.2.1
set_option maxRecDepth 100000 in
theorem dX9_plan_38 : decode cX9_plan 38 = .ok (.getfield 271, 3) := (op_180 nb_dX9_plan_20.2.2.2.2.2.2.2.2.2.2.1).trans rfl
set_option maxRecDepth 100000 in
theorem dX9_plan_41 : decode cX9_plan 41 = .ok (.bipush 12, 2) := (op_16 nb_dX9_plan_20.2.2.2.2.2.2.2.2.2.2.2.1).trans rfl
theorem nb_dX9_plan_43 : bls_w cX9_plan [(43, [160, 0, 6]), (46, [16, 253]), (48, [172]), (49, [42]), (50, [180, 0, 64]), (53, [42]), (54, [180, 1, 15]), (57, [27]), (58, [79]), (59, [42]), (60, [180, 0, 67]), (63, [42])] := bls_of (by decide +kernel)
set_option maxRecDepth 100000 in
theorem dX9_plan_43 : decode cX9_plan 43 = .ok (.if_icmp .ne 6, 3) := (op_160 nb_dX9_plan_43.1).trans rfl
set_option maxRecDepth 100000 in
theorem dX9_plan_46 : decode cX9_plan 46 = .ok (.bipush (-3), 2) := (op_16 nb_dX9_plan_43.2.1).trans rfl
theorem dX9_plan_48 : decode cX9_plan 48 = .ok (.ireturn, 1) := op_172 nb_dX9_plan_43.2.2.1
theorem dX9_plan_49 : decode cX9_plan 49 = .ok (.aload_n 0, 1) := op_42 nb_dX9_plan_43.2.2.2.1
set_option maxRecDepth 100000 in
theorem dX9_plan_50 : decode cX9_plan 50 = .ok (.getfield 64, 3) := (op_180 nb_dX9_plan_43.2.2.2.2.1).trans rfl
theorem dX9_plan_53 : decode cX9_plan 53 = .ok (.aload_n 0, 1) := op_42 nb_dX9_plan_43.2.2.2.2.2.1
set_option maxRecDepth 100000 in
theorem dX9_plan_54 : decode cX9_plan 54 = .ok (.getfield 271, 3) := (op_180 nb_dX9_plan_43.2.2.2.2.2.2.1).trans rfl
theorem dX9_plan_57 : decode cX9_plan 57 = .ok (.iload_n 1, 1) := op_27 nb_dX9_plan_43.2.2.2.2.2.2.2.1
theorem dX9_plan_58 : decode cX9_plan 58 = .ok (.iastore, 1) := op_79 nb_dX9_plan_43.2.2.2.2.2.2.2.2.1
theorem dX9_plan_59 : decode cX9_plan 59 = .ok (.aload_n 0, 1) := op_42 nb_dX9_plan_43.2.2.2.2.2.2.2.2.2.1
set_option maxRecDepth 100000 in
theorem dX9_plan_60 : decode cX9_plan 60 = .ok (.getfield 67, 3) := (op_180 nb_dX9_plan_43.2.2.2.2.2.2.2.2.2.2.1).trans rfl
theorem dX9_plan_63 : decode cX9_plan 63 = .ok (.aload_n 0, 1) := op_42 nb_dX9_plan_43.2.2.2.2.2.2.2.2.2.2.2.1
theorem nb_dX9_plan_64 : bls_w cX9_plan [(64, [180, 1, 15]), (67, [28]), (68, [79]), (69, [42]), (70, [89]), (71, [180, 1, 15]), (74, [4]), (75, [96]), (76, [181, 1, 15]), (79, [42]), (80, [180, 1, 15]), (83, [172])] := bls_of (by decide +kernel)
set_option maxRecDepth 100000 in
theorem dX9_plan_64 : decode cX9_plan 64 = .ok (.getfield 271, 3) := (op_180 nb_dX9_plan_64.1).trans rfl
theorem dX9_plan_67 : decode cX9_plan 67 = .ok (.iload_n 2, 1) := op_28 nb_dX9_plan_64.2.1
theorem dX9_plan_68 : decode cX9_plan 68 = .ok (.iastore, 1) := op_79 nb_dX9_plan_64.2.2.1
theorem dX9_plan_69 : decode cX9_plan 69 = .ok (.aload_n 0, 1) := op_42 nb_dX9_plan_64.2.2.2.1
theorem dX9_plan_70 : decode cX9_plan 70 = .ok (.dup, 1) := op_89 nb_dX9_plan_64.2.2.2.2.1
set_option maxRecDepth 100000 in
theorem dX9_plan_71 : decode cX9_plan 71 = .ok (.getfield 271, 3) := (op_180 nb_dX9_plan_64.2.2.2.2.2.1).trans rfl
theorem dX9_plan_74 : decode cX9_plan 74 = .ok (.iconst 1, 1) := op_4 nb_dX9_plan_64.2.2.2.2.2.2.1
theorem dX9_plan_75 : decode cX9_plan 75 = .ok (.iadd, 1) := op_96 nb_dX9_plan_64.2.2.2.2.2.2.2.1
set_option maxRecDepth 100000 in
theorem dX9_plan_76 : decode cX9_plan 76 = .ok (.putfield 271, 3) := (op_181 nb_dX9_plan_64.2.2.2.2.2.2.2.2.1).trans rfl
theorem dX9_plan_79 : decode cX9_plan 79 = .ok (.aload_n 0, 1) := op_42 nb_dX9_plan_64.2.2.2.2.2.2.2.2.2.1
set_option maxRecDepth 100000 in
theorem dX9_plan_80 : decode cX9_plan 80 = .ok (.getfield 271, 3) := (op_180 nb_dX9_plan_64.2.2.2.2.2.2.2.2.2.2.1).trans rfl
theorem dX9_plan_83 : decode cX9_plan 83 = .ok (.ireturn, 1) := op_172 nb_dX9_plan_64.2.2.2.2.2.2.2.2.2.2.2.1
def fX9_plan (N : Nat) (x1 : Int32) (x2 : Int32) (v_planned : Int32) (v_planLine : List Int32) (v_planWay : List Int32) : Option (Int32 × Int32 × List Int32 × List Int32) :=
    if x1 = 0 then
    (some ((0 : Int32), (0 : Int32), v_planLine, v_planWay))
    else (mm_bd1 (fX9_within N ((x1).toInt64) (1 : Int64) (7 : Int64)) (fun (r_2 : Bool) =>
    if r_2 = false then
    (some ((-1 : Int32), v_planned, v_planLine, v_planWay))
    else (mm_bd1 (fX9_within N ((x2).toInt64) (0 : Int64) (7 : Int64)) (fun (r_5 : Bool) =>
    if r_5 = false then
    (some ((-1 : Int32), v_planned, v_planLine, v_planWay))
    else (if v_planned = (12 : Int32) then
    (some ((-3 : Int32), v_planned, v_planLine, v_planWay))
    else (mm_ck (mm_inb v_planned v_planLine.length) (mm_nm (mm_is v_planLine v_planned x1) (fun (l_10 : List Int32) =>
    mm_ck (mm_inb v_planned v_planWay.length) (mm_nm (mm_is v_planWay v_planned x2) (fun (l_12 : List Int32) =>
    mm_nm ((v_planned + (1 : Int32))) (fun (y_13 : Int32) =>
    some (y_13, y_13, l_10, l_12))))))))))))

set_option maxHeartbeats 4000000 in
set_option maxRecDepth 100000 in
theorem ctX9_plan {l : Launch} {D : va_G} {cI cL cS cH : ClassId} {a : Nat → Nat} {x1 : Int32} {x2 : Int32} {v_keptMany : Int32} {v_done : Int32} {v_rowsOf : Int32} {v_columnsOf : Int32} {v_folded : Int32} {v_wronged : Int32} {v_tapeMany : Int32} {v_textMany : Int32} {v_base : Int32} {v_at : Int32} {v_ends : Int32} {v_fault : Int32} {v_opened : Int32} {v_bentMany : Int32} {v_bentWrong : Int32} {v_moreWorn : Int32} {v_planned : Int32} {v_allWrong : Int32} {v_allWorn : Int32} {v_z : Int32} {v_wishedField : Int32} {v_isFound : Bool} {v_bestWrong : Int32} {v_bestWorn : Int32} {v_bestMany : Int32} {v_soughtBy : Int32} {v_sought : Int32} {v_soughtAt : Int32} {v_foundMany : Int32} {v_foundOrder : Int32} {v_isKept : Bool} {v_imageRows : Int32} {v_imageColumns : Int32} {v_imageFolded : Int32} {v_imageWronged : Int32} {v_bodies : Int32} {v_ran : Int32} {v_ownKind : Int32} {v_ownNumber : Int32} {v_limit : List Int32} {v_changeWas : List Int32} {v_changeIs : List Int32} {v_shapeRows : List Int32} {v_shapeColumns : List Int32} {v_row : List Int32} {v_column : List Int32} {v_below : List Int32} {v_face : List Int32} {v_worn : List Int32} {v_lastBend : List Int32} {v_tape : List Int32} {v_text : List Int32} {v_names : List Int32} {v_bends : List Int32} {v_high : List Int32} {v_to : List Int32} {v_pileSize : List Int32} {v_planLine : List Int32} {v_planWay : List Int32} {v_way1 : List Int32} {v_bestWay : List Int32} {v_order1 : List Int32} {v_placeIn : List Int32} {v_bodyKind : List Int32} {v_trace : List Int32} {v_shelf : List Int32} {v_many : List Int32} {v_items : List Int64} {v_carried : List Int64} {r : Int32} {w_planned : Int32} {w_planLine : List Int32} {w_planWay : List Int32} {N d : Nat} (hd : 2 ≤ d) (hf : fX9_plan N x1 x2 v_planned v_planLine v_planWay = some (r, w_planned, w_planLine, w_planWay)) : mm_Ct l yX9_plan cX9_plan 3 (some .int) d D (mm_T cI cL cS cH) [.ref (a 0), .int x1, .int x2] (wd_X9 cI cL cS cH a v_keptMany v_done v_rowsOf v_columnsOf v_folded v_wronged v_tapeMany v_textMany v_base v_at v_ends v_fault v_opened v_bentMany v_bentWrong v_moreWorn v_planned v_allWrong v_allWorn v_z v_wishedField v_isFound v_bestWrong v_bestWorn v_bestMany v_soughtBy v_sought v_soughtAt v_foundMany v_foundOrder v_isKept v_imageRows v_imageColumns v_imageFolded v_imageWronged v_bodies v_ran v_ownKind v_ownNumber v_limit v_changeWas v_changeIs v_shapeRows v_shapeColumns v_row v_column v_below v_face v_worn v_lastBend v_tape v_text v_names v_bends v_high v_to v_pileSize v_planLine v_planWay v_way1 v_bestWay v_order1 v_placeIn v_bodyKind v_trace v_shelf v_many v_items v_carried) (wd_X9 cI cL cS cH a v_keptMany v_done v_rowsOf v_columnsOf v_folded v_wronged v_tapeMany v_textMany v_base v_at v_ends v_fault v_opened v_bentMany v_bentWrong v_moreWorn w_planned v_allWrong v_allWorn v_z v_wishedField v_isFound v_bestWrong v_bestWorn v_bestMany v_soughtBy v_sought v_soughtAt v_foundMany v_foundOrder v_isKept v_imageRows v_imageColumns v_imageFolded v_imageWronged v_bodies v_ran v_ownKind v_ownNumber v_limit v_changeWas v_changeIs v_shapeRows v_shapeColumns v_row v_column v_below v_face v_worn v_lastBend v_tape v_text v_names v_bends v_high v_to v_pileSize w_planLine w_planWay v_way1 v_bestWay v_order1 v_placeIn v_bodyKind v_trace v_shelf v_many v_items v_carried) (some (.int r)) := by
  refine mm_of (by decide) (Nat.le_of_ble_eq_true rfl) ?_
  intro p e s m args below meth c A H locs ls C0 hP hD hA hS hl
  have C0 : mm_Cx p s m args meth c RX9 cX9_plan 3 (some .int) D (mm_T cI cL cS cH) A := C0
  obtain ⟨hx, hb, hml, hown, hts, hr, hlocks, hK, hSt⟩ := id C0
  have hl : lv_has ls 3 [(0, .ref (a 0)), (1, .int x1), (2, .int x2)] := hl
  unfold fX9_plan at hf
  refine lv_iload_n hx hb dX9_plan_0 rfl (lv_at hl 1 rfl) ?_
  refine lv_if_ne (tgt := 11) hx hb dX9_plan_1 (by decide) (fun c_1 => ?_) (fun c_1 => ?_)
  · have hf := mm_in hf c_1
    refine lv_iload_n hx hb dX9_plan_11 rfl (lv_at hl 1 rfl) ?_
    refine lv_i2l hx hb dX9_plan_12 rfl ?_
    refine lv_lconst (v := 1) hx hb dX9_plan_13 (by decide) ?_
    refine lv_ldc2 hx hb hown (hts _ kc_X9_238) dX9_plan_14 ?_
    obtain ⟨r_2, hc_3, hf⟩ := mm_bd1s hf
    refine mm_callS0 (rest := []) C0 lk_X9_111 (ctX9_within (d := d - 1) (by omega) hc_3) (by omega) rfl hl.1 rfl (mm_cat rfl) dX9_plan_17 hP hD hA hS (fun H locs hP hS => ?_)
    refine W.eq (g2 := F0 m 20 ls [.int (mm_b r_2)]) rfl ?_
    refine lv_if_eq (tgt := 35) hx hb dX9_plan_20 (by decide) (fun c_4 => ?_) (fun c_4 => ?_)
    · have hf := mm_ip hf (mm_b0 c_4)
      refine lv_iconst (v := -1) hx hb dX9_plan_35 (by decide) ?_
      apply mm_sub4 hf
      exact mm_iret C0 hP hD hS dX9_plan_36
    · have hf := mm_in hf (mm_b1 c_4)
      refine lv_iload_n hx hb dX9_plan_23 rfl (lv_at hl 2 rfl) ?_
      refine lv_i2l hx hb dX9_plan_24 rfl ?_
      refine lv_lconst (v := 0) hx hb dX9_plan_25 (by decide) ?_
      refine lv_ldc2 hx hb hown (hts _ kc_X9_238) dX9_plan_26 ?_
      obtain ⟨r_5, hc_6, hf⟩ := mm_bd1s hf
      refine mm_callS0 (rest := []) C0 lk_X9_111 (ctX9_within (d := d - 1) (by omega) hc_6) (by omega) rfl hl.1 rfl (mm_cat rfl) dX9_plan_29 hP hD hA hS (fun H locs hP hS => ?_)
      refine W.eq (g2 := F0 m 32 ls [.int (mm_b r_5)]) rfl ?_
      refine lv_if_ne (tgt := 37) hx hb dX9_plan_32 (by decide) (fun c_7 => ?_) (fun c_7 => ?_)
      · have hf := mm_in hf (mm_b1 c_7)
        refine lv_aload_n hx hb dX9_plan_37 rfl (lv_at hl 0 rfl) ?_
        refine mm_get C0 hP iw_X9 0 rfl rfl 36 (by decide) fl_X9_271 rfl dX9_plan_38 ?_
        refine lv_bipush (v := 12) hx hb dX9_plan_41 (by decide) ?_
        refine lv_icmp_ne (tgt := 49) hx hb dX9_plan_43 (by decide) (fun c_8 => ?_) (fun c_8 => ?_)
        · have hf := mm_in hf c_8
          refine lv_aload_n hx hb dX9_plan_49 rfl (lv_at hl 0 rfl) ?_
          refine mm_get C0 hP iw_X9 0 rfl rfl 34 (by decide) fl_X9_64 rfl dX9_plan_50 ?_
          refine lv_aload_n hx hb dX9_plan_53 rfl (lv_at hl 0 rfl) ?_
          refine mm_get C0 hP iw_X9 0 rfl rfl 36 (by decide) fl_X9_271 rfl dX9_plan_54 ?_
          refine lv_iload_n hx hb dX9_plan_57 rfl (lv_at hl 1 rfl) ?_
          obtain ⟨h_9, hf⟩ := mm_cks hf
          refine mm_iast C0 hP hD hS 19 rfl h_9 dX9_plan_58 (w2 := (wd_X9 cI cL cS cH a v_keptMany v_done v_rowsOf v_columnsOf v_folded v_wronged v_tapeMany v_textMany v_base v_at v_ends v_fault v_opened v_bentMany v_bentWrong v_moreWorn v_planned v_allWrong v_allWorn v_z v_wishedField v_isFound v_bestWrong v_bestWorn v_bestMany v_soughtBy v_sought v_soughtAt v_foundMany v_foundOrder v_isKept v_imageRows v_imageColumns v_imageFolded v_imageWronged v_bodies v_ran v_ownKind v_ownNumber v_limit v_changeWas v_changeIs v_shapeRows v_shapeColumns v_row v_column v_below v_face v_worn v_lastBend v_tape v_text v_names v_bends v_high v_to v_pileSize (mm_is v_planLine v_planned x1) v_planWay v_way1 v_bestWay v_order1 v_placeIn v_bodyKind v_trace v_shelf v_many v_items v_carried)) rfl (fun H locs hP hD hS => ?_)
          generalize el_10 : (mm_is v_planLine v_planned x1) = l_10 at hP hD
          have hf := mm_nms hf el_10.symm
          refine lv_aload_n hx hb dX9_plan_59 rfl (lv_at hl 0 rfl) ?_
          refine mm_get C0 hP iw_X9 0 rfl rfl 35 (by decide) fl_X9_67 rfl dX9_plan_60 ?_
          refine lv_aload_n hx hb dX9_plan_63 rfl (lv_at hl 0 rfl) ?_
          refine mm_get C0 hP iw_X9 0 rfl rfl 36 (by decide) fl_X9_271 rfl dX9_plan_64 ?_
          refine lv_iload_n hx hb dX9_plan_67 rfl (lv_at hl 2 rfl) ?_
          obtain ⟨h_11, hf⟩ := mm_cks hf
          refine mm_iast C0 hP hD hS 20 rfl h_11 dX9_plan_68 (w2 := (wd_X9 cI cL cS cH a v_keptMany v_done v_rowsOf v_columnsOf v_folded v_wronged v_tapeMany v_textMany v_base v_at v_ends v_fault v_opened v_bentMany v_bentWrong v_moreWorn v_planned v_allWrong v_allWorn v_z v_wishedField v_isFound v_bestWrong v_bestWorn v_bestMany v_soughtBy v_sought v_soughtAt v_foundMany v_foundOrder v_isKept v_imageRows v_imageColumns v_imageFolded v_imageWronged v_bodies v_ran v_ownKind v_ownNumber v_limit v_changeWas v_changeIs v_shapeRows v_shapeColumns v_row v_column v_below v_face v_worn v_lastBend v_tape v_text v_names v_bends v_high v_to v_pileSize l_10 (mm_is v_planWay v_planned x2) v_way1 v_bestWay v_order1 v_placeIn v_bodyKind v_trace v_shelf v_many v_items v_carried)) rfl (fun H locs hP hD hS => ?_)
          generalize el_12 : (mm_is v_planWay v_planned x2) = l_12 at hP hD
          have hf := mm_nms hf el_12.symm
          refine lv_aload_n hx hb dX9_plan_69 rfl (lv_at hl 0 rfl) ?_
          refine lv_dup hx hb dX9_plan_70 rfl ?_
          refine mm_get C0 hP iw_X9 0 rfl rfl 36 (by decide) fl_X9_271 rfl dX9_plan_71 ?_
          refine lv_iconst (v := 1) hx hb dX9_plan_74 (by decide) ?_
          refine lv_iadd hx hb dX9_plan_75 ?_
          refine lv_topi (fun y_13 ey_13 => ?_)
          have hf := mm_nms hf ey_13
          refine mm_put C0 hP hD hS iw_X9 tyX9 tyX9_ok nmX9 0 rfl rfl 36 (by decide) fl_X9_271 rfl rfl rfl (Nat.le_of_ble_eq_true rfl) dX9_plan_76 (w2 := (wd_X9 cI cL cS cH a v_keptMany v_done v_rowsOf v_columnsOf v_folded v_wronged v_tapeMany v_textMany v_base v_at v_ends v_fault v_opened v_bentMany v_bentWrong v_moreWorn y_13 v_allWrong v_allWorn v_z v_wishedField v_isFound v_bestWrong v_bestWorn v_bestMany v_soughtBy v_sought v_soughtAt v_foundMany v_foundOrder v_isKept v_imageRows v_imageColumns v_imageFolded v_imageWronged v_bodies v_ran v_ownKind v_ownNumber v_limit v_changeWas v_changeIs v_shapeRows v_shapeColumns v_row v_column v_below v_face v_worn v_lastBend v_tape v_text v_names v_bends v_high v_to v_pileSize l_10 l_12 v_way1 v_bestWay v_order1 v_placeIn v_bodyKind v_trace v_shelf v_many v_items v_carried)) rfl (fun H locs hP hD hS => ?_)
          refine lv_aload_n hx hb dX9_plan_79 rfl (lv_at hl 0 rfl) ?_
          refine mm_get C0 hP iw_X9 0 rfl rfl 36 (by decide) fl_X9_271 rfl dX9_plan_80 ?_
          apply mm_sub4 hf
          exact mm_iret C0 hP hD hS dX9_plan_83
        · have hf := mm_ip hf c_8
          refine lv_bipush (v := -3) hx hb dX9_plan_46 (by decide) ?_
          apply mm_sub4 hf
          exact mm_iret C0 hP hD hS dX9_plan_48
      · have hf := mm_ip hf (mm_b0 c_7)
        refine lv_iconst (v := -1) hx hb dX9_plan_35 (by decide) ?_
        apply mm_sub4 hf
        exact mm_iret C0 hP hD hS dX9_plan_36
  · have hf := mm_ip hf c_1
    refine lv_aload_n hx hb dX9_plan_4 rfl (lv_at hl 0 rfl) ?_
    refine lv_iconst (v := 0) hx hb dX9_plan_5 (by decide) ?_
    refine mm_put C0 hP hD hS iw_X9 tyX9 tyX9_ok nmX9 0 rfl rfl 36 (by decide) fl_X9_271 rfl rfl rfl (Nat.le_of_ble_eq_true rfl) dX9_plan_6 (w2 := (wd_X9 cI cL cS cH a v_keptMany v_done v_rowsOf v_columnsOf v_folded v_wronged v_tapeMany v_textMany v_base v_at v_ends v_fault v_opened v_bentMany v_bentWrong v_moreWorn (0 : Int32) v_allWrong v_allWorn v_z v_wishedField v_isFound v_bestWrong v_bestWorn v_bestMany v_soughtBy v_sought v_soughtAt v_foundMany v_foundOrder v_isKept v_imageRows v_imageColumns v_imageFolded v_imageWronged v_bodies v_ran v_ownKind v_ownNumber v_limit v_changeWas v_changeIs v_shapeRows v_shapeColumns v_row v_column v_below v_face v_worn v_lastBend v_tape v_text v_names v_bends v_high v_to v_pileSize v_planLine v_planWay v_way1 v_bestWay v_order1 v_placeIn v_bodyKind v_trace v_shelf v_many v_items v_carried)) rfl (fun H locs hP hD hS => ?_)
    refine lv_iconst (v := 0) hx hb dX9_plan_9 (by decide) ?_
    apply mm_sub4 hf
    exact mm_iret C0 hP hD hS dX9_plan_10

theorem nb_dX9_isShelf_0 : bls_w cX9_isShelf [(0, [26]), (1, [133]), (2, [9]), (3, [20, 1, 169]), (6, [184, 0, 111]), (9, [172])] := bls_of (by decide +kernel)
theorem dX9_isShelf_0 : decode cX9_isShelf 0 = .ok (.iload_n 0, 1) := op_26 nb_dX9_isShelf_0.1
theorem dX9_isShelf_1 : decode cX9_isShelf 1 = .ok (.i2l, 1) := op_133 nb_dX9_isShelf_0.2.1
theorem dX9_isShelf_2 : decode cX9_isShelf 2 = .ok (.lconst 0, 1) := op_9 nb_dX9_isShelf_0.2.2.1
set_option maxRecDepth 100000 in
theorem dX9_isShelf_3 : decode cX9_isShelf 3 = .ok (.ldc2_w 425, 3) := (op_20 nb_dX9_isShelf_0.2.2.2.1).trans rfl
set_option maxRecDepth 100000 in
theorem dX9_isShelf_6 : decode cX9_isShelf 6 = .ok (.invokestatic 111, 3) := (op_184 nb_dX9_isShelf_0.2.2.2.2.1).trans rfl
theorem dX9_isShelf_9 : decode cX9_isShelf 9 = .ok (.ireturn, 1) := op_172 nb_dX9_isShelf_0.2.2.2.2.2.1
def fX9_isShelf (N : Nat) (x0 : Int32) : Option (Bool) :=
    mm_bd1 (fX9_within N ((x0).toInt64) (0 : Int64) (5 : Int64)) (fun (r_1 : Bool) =>
    some (r_1))

set_option maxHeartbeats 4000000 in
set_option maxRecDepth 100000 in
theorem ctX9_isShelf {l : Launch} {D : va_G} {cI cL cS cH : ClassId} {x0 : Int32}  {r : Bool} {N d : Nat} (hd : 2 ≤ d) (hf : fX9_isShelf N x0 = some r) : mm_Ct l yX9_isShelf cX9_isShelf 1 (some .boolean) d D (mm_T cI cL cS cH) [.int x0] ([] : va_W) ([] : va_W) (some (.int (mm_b r))) := by
  refine mm_of (by decide) (Nat.le_of_ble_eq_true rfl) ?_
  intro p e s m args below meth c A H locs ls C0 hP hD hA hS hl
  have C0 : mm_Cx p s m args meth c RX9 cX9_isShelf 1 (some .boolean) D (mm_T cI cL cS cH) A := C0
  obtain ⟨hx, hb, hml, hown, hts, hr, hlocks, hK, hSt⟩ := id C0
  have hl : lv_has ls 1 [(0, .int x0)] := hl
  unfold fX9_isShelf at hf
  refine lv_iload_n hx hb dX9_isShelf_0 rfl (lv_at hl 0 rfl) ?_
  refine lv_i2l hx hb dX9_isShelf_1 rfl ?_
  refine lv_lconst (v := 0) hx hb dX9_isShelf_2 (by decide) ?_
  refine lv_ldc2 hx hb hown (hts _ kc_X9_425) dX9_isShelf_3 ?_
  obtain ⟨r_1, hc_2, hf⟩ := mm_bd1s hf
  refine mm_callS0 (rest := []) C0 lk_X9_111 (ctX9_within (d := d - 1) (by omega) hc_2) (by omega) rfl hl.1 rfl (mm_cat rfl) dX9_isShelf_6 hP hD hA hS (fun H locs hP hS => ?_)
  refine W.eq (g2 := F0 m 9 ls [.int (mm_b r_1)]) rfl ?_
  obtain rfl := mm_inj1 hf
  exact mm_zret C0 hP hD hS dX9_isShelf_9 rfl
end
section
/-! reference: X9_plans, X9_startsAt -/
theorem nb_dX9_plans_0 : bls_w cX9_plans [(0, [27]), (1, [184, 1, 18]), (4, [153, 0, 15]), (7, [29]), (8, [133]), (9, [10]), (10, [20, 1, 21]), (13, [184, 0, 111]), (16, [154, 0, 5]), (19, [2]), (20, [172]), (21, [42])] := bls_of (by decide +kernel)
theorem dX9_plans_0 : decode cX9_plans 0 = .ok (.iload_n 1, 1) := op_27 nb_dX9_plans_0.1
set_option maxRecDepth 100000 in
theorem dX9_plans_1 : decode cX9_plans 1 = .ok (.invokestatic 274, 3) := (op_184 nb_dX9_plans_0.2.1).trans rfl
set_option maxRecDepth 100000 in
theorem dX9_plans_4 : decode cX9_plans 4 = .ok (.ifCond .eq 15, 3) := (op_153 nb_dX9_plans_0.2.2.1).trans rfl
theorem dX9_plans_7 : decode cX9_plans 7 = .ok (.iload_n 3, 1) := op_29 nb_dX9_plans_0.2.2.2.1
theorem dX9_plans_8 : decode cX9_plans 8 = .ok (.i2l, 1) := op_133 nb_dX9_plans_0.2.2.2.2.1
theorem dX9_plans_9 : decode cX9_plans 9 = .ok (.lconst 1, 1) := op_10 nb_dX9_plans_0.2.2.2.2.2.1
set_option maxRecDepth 100000 in
theorem dX9_plans_10 : decode cX9_plans 10 = .ok (.ldc2_w 277, 3) := (op_20 nb_dX9_plans_0.2.2.2.2.2.2.1).trans rfl
set_option maxRecDepth 100000 in
theorem dX9_plans_13 : decode cX9_plans 13 = .ok (.invokestatic 111, 3) := (op_184 nb_dX9_plans_0.2.2.2.2.2.2.2.1).trans rfl
set_option maxRecDepth 100000 in
theorem dX9_plans_16 : decode cX9_plans 16 = .ok (.ifCond .ne 5, 3) := (op_154 nb_dX9_plans_0.2.2.2.2.2.2.2.2.1).trans rfl
theorem dX9_plans_19 : decode cX9_plans 19 = .ok (.iconst (-1), 1) := op_2 nb_dX9_plans_0.2.2.2.2.2.2.2.2.2.1
theorem dX9_plans_20 : decode cX9_plans 20 = .ok (.ireturn, 1) := op_172 nb_dX9_plans_0.2.2.2.2.2.2.2.2.2.2.1
theorem dX9_plans_21 : decode cX9_plans 21 = .ok (.aload_n 0, 1) := op_42 nb_dX9_plans_0.2.2.2.2.2.2.2.2.2.2.2.1
theorem nb_dX9_plans_22 : bls_w cX9_plans [(22, [180, 0, 88]), (25, [27]), (26, [46]), (27, [155, 0, 17]), (30, [42]), (31, [180, 0, 88]), (34, [27]), (35, [46]), (36, [16, 50]), (38, [159, 0, 6]), (41, [16, 244]), (43, [172])] := bls_of (by decide +kernel)
set_option maxRecDepth 100000 in
theorem dX9_plans_22 : decode cX9_plans 22 = .ok (.getfield 88, 3) := (op_180 nb_dX9_plans_22.1).trans rfl
theorem dX9_plans_25 : decode cX9_plans 25 = .ok (.iload_n 1, 1) := op_27 nb_dX9_plans_22.2.1
theorem dX9_plans_26 : decode cX9_plans 26 = .ok (.iaload, 1) := op_46 nb_dX9_plans_22.2.2.1
set_option maxRecDepth 100000 in
theorem dX9_plans_27 : decode cX9_plans 27 = .ok (.ifCond .lt 17, 3) := (op_155 nb_dX9_plans_22.2.2.2.1).trans rfl
theorem dX9_plans_30 : decode cX9_plans 30 = .ok (.aload_n 0, 1) := op_42 nb_dX9_plans_22.2.2.2.2.1
set_option maxRecDepth 100000 in
theorem dX9_plans_31 : decode cX9_plans 31 = .ok (.getfield 88, 3) := (op_180 nb_dX9_plans_22.2.2.2.2.2.1).trans rfl
theorem dX9_plans_34 : decode cX9_plans 34 = .ok (.iload_n 1, 1) := op_27 nb_dX9_plans_22.2.2.2.2.2.2.1
theorem dX9_plans_35 : decode cX9_plans 35 = .ok (.iaload, 1) := op_46 nb_dX9_plans_22.2.2.2.2.2.2.2.1
set_option maxRecDepth 100000 in
theorem dX9_plans_36 : decode cX9_plans 36 = .ok (.bipush 50, 2) := (op_16 nb_dX9_plans_22.2.2.2.2.2.2.2.2.1).trans rfl
set_option maxRecDepth 100000 in
theorem dX9_plans_38 : decode cX9_plans 38 = .ok (.if_icmp .eq 6, 3) := (op_159 nb_dX9_plans_22.2.2.2.2.2.2.2.2.2.1).trans rfl
set_option maxRecDepth 100000 in
theorem dX9_plans_41 : decode cX9_plans 41 = .ok (.bipush (-12), 2) := (op_16 nb_dX9_plans_22.2.2.2.2.2.2.2.2.2.2.1).trans rfl
theorem dX9_plans_43 : decode cX9_plans 43 = .ok (.ireturn, 1) := op_172 nb_dX9_plans_22.2.2.2.2.2.2.2.2.2.2.2.1
theorem nb_dX9_plans_44 : bls_w cX9_plans [(44, [3]), (45, [54, 4]), (47, [42]), (48, [180, 0, 88]), (51, [27]), (52, [46]), (53, [16, 50]), (55, [160, 0, 11]), (58, [28]), (59, [155, 0, 7]), (62, [4]), (63, [167, 0, 4])] := bls_of (by decide +kernel)
theorem dX9_plans_44 : decode cX9_plans 44 = .ok (.iconst 0, 1) := op_3 nb_dX9_plans_44.1
set_option maxRecDepth 100000 in
theorem dX9_plans_45 : decode cX9_plans 45 = .ok (.istore 4, 2) := (op_54 nb_dX9_plans_44.2.1).trans rfl
theorem dX9_plans_47 : decode cX9_plans 47 = .ok (.aload_n 0, 1) := op_42 nb_dX9_plans_44.2.2.1
set_option maxRecDepth 100000 in
theorem dX9_plans_48 : decode cX9_plans 48 = .ok (.getfield 88, 3) := (op_180 nb_dX9_plans_44.2.2.2.1).trans rfl
theorem dX9_plans_51 : decode cX9_plans 51 = .ok (.iload_n 1, 1) := op_27 nb_dX9_plans_44.2.2.2.2.1
theorem dX9_plans_52 : decode cX9_plans 52 = .ok (.iaload, 1) := op_46 nb_dX9_plans_44.2.2.2.2.2.1
set_option maxRecDepth 100000 in
theorem dX9_plans_53 : decode cX9_plans 53 = .ok (.bipush 50, 2) := (op_16 nb_dX9_plans_44.2.2.2.2.2.2.1).trans rfl
set_option maxRecDepth 100000 in
theorem dX9_plans_55 : decode cX9_plans 55 = .ok (.if_icmp .ne 11, 3) := (op_160 nb_dX9_plans_44.2.2.2.2.2.2.2.1).trans rfl
theorem dX9_plans_58 : decode cX9_plans 58 = .ok (.iload_n 2, 1) := op_28 nb_dX9_plans_44.2.2.2.2.2.2.2.2.1
set_option maxRecDepth 100000 in
theorem dX9_plans_59 : decode cX9_plans 59 = .ok (.ifCond .lt 7, 3) := (op_155 nb_dX9_plans_44.2.2.2.2.2.2.2.2.2.1).trans rfl
theorem dX9_plans_62 : decode cX9_plans 62 = .ok (.iconst 1, 1) := op_4 nb_dX9_plans_44.2.2.2.2.2.2.2.2.2.2.1
set_option maxRecDepth 100000 in
theorem dX9_plans_63 : decode cX9_plans 63 = .ok (.goto 4, 3) := (op_167 nb_dX9_plans_44.2.2.2.2.2.2.2.2.2.2.2.1).trans rfl
theorem nb_dX9_plans_66 : bls_w cX9_plans [(66, [3]), (67, [54, 5]), (69, [21, 5]), (71, [153, 0, 160]), (74, [21, 4]), (76, [29]), (77, [162, 0, 154]), (80, [28]), (81, [42]), (82, [180, 0, 91]), (85, [27]), (86, [46])] := bls_of (by decide +kernel)
theorem dX9_plans_66 : decode cX9_plans 66 = .ok (.iconst 0, 1) := op_3 nb_dX9_plans_66.1
set_option maxRecDepth 100000 in
theorem dX9_plans_67 : decode cX9_plans 67 = .ok (.istore 5, 2) := (op_54 nb_dX9_plans_66.2.1).trans rfl
set_option maxRecDepth 100000 in
theorem dX9_plans_69 : decode cX9_plans 69 = .ok (.iload 5, 2) := (op_21 nb_dX9_plans_66.2.2.1).trans rfl
set_option maxRecDepth 100000 in
theorem dX9_plans_71 : decode cX9_plans 71 = .ok (.ifCond .eq 160, 3) := (op_153 nb_dX9_plans_66.2.2.2.1).trans rfl
set_option maxRecDepth 100000 in
theorem dX9_plans_74 : decode cX9_plans 74 = .ok (.iload 4, 2) := (op_21 nb_dX9_plans_66.2.2.2.2.1).trans rfl
theorem dX9_plans_76 : decode cX9_plans 76 = .ok (.iload_n 3, 1) := op_29 nb_dX9_plans_66.2.2.2.2.2.1
set_option maxRecDepth 100000 in
theorem dX9_plans_77 : decode cX9_plans 77 = .ok (.if_icmp .ge 154, 3) := (op_162 nb_dX9_plans_66.2.2.2.2.2.2.1).trans rfl
theorem dX9_plans_80 : decode cX9_plans 80 = .ok (.iload_n 2, 1) := op_28 nb_dX9_plans_66.2.2.2.2.2.2.2.1
theorem dX9_plans_81 : decode cX9_plans 81 = .ok (.aload_n 0, 1) := op_42 nb_dX9_plans_66.2.2.2.2.2.2.2.2.1
set_option maxRecDepth 100000 in
theorem dX9_plans_82 : decode cX9_plans 82 = .ok (.getfield 91, 3) := (op_180 nb_dX9_plans_66.2.2.2.2.2.2.2.2.2.1).trans rfl
theorem dX9_plans_85 : decode cX9_plans 85 = .ok (.iload_n 1, 1) := op_27 nb_dX9_plans_66.2.2.2.2.2.2.2.2.2.2.1
theorem dX9_plans_86 : decode cX9_plans 86 = .ok (.iaload, 1) := op_46 nb_dX9_plans_66.2.2.2.2.2.2.2.2.2.2.2.1
theorem nb_dX9_plans_87 : bls_w cX9_plans [(87, [5]), (88, [100]), (89, [5]), (90, [21, 4]), (92, [104]), (93, [100]), (94, [163, 0, 16]), (97, [42]), (98, [180, 1, 15]), (101, [16, 12]), (103, [162, 0, 7]), (106, [4])] := bls_of (by decide +kernel)
theorem dX9_plans_87 : decode cX9_plans 87 = .ok (.iconst 2, 1) := op_5 nb_dX9_plans_87.1
theorem dX9_plans_88 : decode cX9_plans 88 = .ok (.isub, 1) := op_100 nb_dX9_plans_87.2.1
theorem dX9_plans_89 : decode cX9_plans 89 = .ok (.iconst 2, 1) := op_5 nb_dX9_plans_87.2.2.1
set_option maxRecDepth 100000 in
theorem dX9_plans_90 : decode cX9_plans 90 = .ok (.iload 4, 2) := (op_21 nb_dX9_plans_87.2.2.2.1).trans rfl
theorem dX9_plans_92 : decode cX9_plans 92 = .ok (.imul, 1) := op_104 nb_dX9_plans_87.2.2.2.2.1
theorem dX9_plans_93 : decode cX9_plans 93 = .ok (.isub, 1) := op_100 nb_dX9_plans_87.2.2.2.2.2.1
set_option maxRecDepth 100000 in
theorem dX9_plans_94 : decode cX9_plans 94 = .ok (.if_icmp .gt 16, 3) := (op_163 nb_dX9_plans_87.2.2.2.2.2.2.1).trans rfl
theorem dX9_plans_97 : decode cX9_plans 97 = .ok (.aload_n 0, 1) := op_42 nb_dX9_plans_87.2.2.2.2.2.2.2.1
set_option maxRecDepth 100000 in
theorem dX9_plans_98 : decode cX9_plans 98 = .ok (.getfield 271, 3) := (op_180 nb_dX9_plans_87.2.2.2.2.2.2.2.2.1).trans rfl
set_option maxRecDepth 100000 in
theorem dX9_plans_101 : decode cX9_plans 101 = .ok (.bipush 12, 2) := (op_16 nb_dX9_plans_87.2.2.2.2.2.2.2.2.2.1).trans rfl
set_option maxRecDepth 100000 in
theorem dX9_plans_103 : decode cX9_plans 103 = .ok (.if_icmp .ge 7, 3) := (op_162 nb_dX9_plans_87.2.2.2.2.2.2.2.2.2.2.1).trans rfl
theorem dX9_plans_106 : decode cX9_plans 106 = .ok (.iconst 1, 1) := op_4 nb_dX9_plans_87.2.2.2.2.2.2.2.2.2.2.2.1
theorem nb_dX9_plans_107 : bls_w cX9_plans [(107, [167, 0, 4]), (110, [3]), (111, [54, 5]), (113, [16, 60]), (115, [27]), (116, [104]), (117, [28]), (118, [96]), (119, [5]), (120, [21, 4]), (122, [104]), (123, [96])] := bls_of (by decide +kernel)
set_option maxRecDepth 100000 in
theorem dX9_plans_107 : decode cX9_plans 107 = .ok (.goto 4, 3) := (op_167 nb_dX9_plans_107.1).trans rfl
theorem dX9_plans_110 : decode cX9_plans 110 = .ok (.iconst 0, 1) := op_3 nb_dX9_plans_107.2.1
set_option maxRecDepth 100000 in
theorem dX9_plans_111 : decode cX9_plans 111 = .ok (.istore 5, 2) := (op_54 nb_dX9_plans_107.2.2.1).trans rfl
set_option maxRecDepth 100000 in
theorem dX9_plans_113 : decode cX9_plans 113 = .ok (.bipush 60, 2) := (op_16 nb_dX9_plans_107.2.2.2.1).trans rfl
theorem dX9_plans_115 : decode cX9_plans 115 = .ok (.iload_n 1, 1) := op_27 nb_dX9_plans_107.2.2.2.2.1
theorem dX9_plans_116 : decode cX9_plans 116 = .ok (.imul, 1) := op_104 nb_dX9_plans_107.2.2.2.2.2.1
theorem dX9_plans_117 : decode cX9_plans 117 = .ok (.iload_n 2, 1) := op_28 nb_dX9_plans_107.2.2.2.2.2.2.1
theorem dX9_plans_118 : decode cX9_plans 118 = .ok (.iadd, 1) := op_96 nb_dX9_plans_107.2.2.2.2.2.2.2.1
theorem dX9_plans_119 : decode cX9_plans 119 = .ok (.iconst 2, 1) := op_5 nb_dX9_plans_107.2.2.2.2.2.2.2.2.1
set_option maxRecDepth 100000 in
theorem dX9_plans_120 : decode cX9_plans 120 = .ok (.iload 4, 2) := (op_21 nb_dX9_plans_107.2.2.2.2.2.2.2.2.2.1).trans rfl
theorem dX9_plans_122 : decode cX9_plans 122 = .ok (.imul, 1) := op_104 nb_dX9_plans_107.2.2.2.2.2.2.2.2.2.2.1
theorem dX9_plans_123 : decode cX9_plans 123 = .ok (.iadd, 1) := op_96 nb_dX9_plans_107.2.2.2.2.2.2.2.2.2.2.2.1
theorem nb_dX9_plans_124 : bls_w cX9_plans [(124, [54, 6]), (126, [21, 5]), (128, [153, 0, 43]), (131, [42]), (132, [180, 0, 94]), (135, [21, 6]), (137, [47]), (138, [10]), (139, [20, 0, 238]), (142, [184, 0, 111]), (145, [153, 0, 26]), (148, [42])] := bls_of (by decide +kernel)
set_option maxRecDepth 100000 in
theorem dX9_plans_124 : decode cX9_plans 124 = .ok (.istore 6, 2) := (op_54 nb_dX9_plans_124.1).trans rfl
set_option maxRecDepth 100000 in
theorem dX9_plans_126 : decode cX9_plans 126 = .ok (.iload 5, 2) := (op_21 nb_dX9_plans_124.2.1).trans rfl
set_option maxRecDepth 100000 in
theorem dX9_plans_128 : decode cX9_plans 128 = .ok (.ifCond .eq 43, 3) := (op_153 nb_dX9_plans_124.2.2.1).trans rfl
theorem dX9_plans_131 : decode cX9_plans 131 = .ok (.aload_n 0, 1) := op_42 nb_dX9_plans_124.2.2.2.1
set_option maxRecDepth 100000 in
theorem dX9_plans_132 : decode cX9_plans 132 = .ok (.getfield 94, 3) := (op_180 nb_dX9_plans_124.2.2.2.2.1).trans rfl
set_option maxRecDepth 100000 in
theorem dX9_plans_135 : decode cX9_plans 135 = .ok (.iload 6, 2) := (op_21 nb_dX9_plans_124.2.2.2.2.2.1).trans rfl
theorem dX9_plans_137 : decode cX9_plans 137 = .ok (.laload, 1) := op_47 nb_dX9_plans_124.2.2.2.2.2.2.1
theorem dX9_plans_138 : decode cX9_plans 138 = .ok (.lconst 1, 1) := op_10 nb_dX9_plans_124.2.2.2.2.2.2.2.1
set_option maxRecDepth 100000 in
theorem dX9_plans_139 : decode cX9_plans 139 = .ok (.ldc2_w 238, 3) := (op_20 nb_dX9_plans_124.2.2.2.2.2.2.2.2.1).trans rfl
set_option maxRecDepth 100000 in
theorem dX9_plans_142 : decode cX9_plans 142 = .ok (.invokestatic 111, 3) := (op_184 nb_dX9_plans_124.2.2.2.2.2.2.2.2.2.1).trans rfl
set_option maxRecDepth 100000 in
theorem dX9_plans_145 : decode cX9_plans 145 = .ok (.ifCond .eq 26, 3) := (op_153 nb_dX9_plans_124.2.2.2.2.2.2.2.2.2.2.1).trans rfl
theorem dX9_plans_148 : decode cX9_plans 148 = .ok (.aload_n 0, 1) := op_42 nb_dX9_plans_124.2.2.2.2.2.2.2.2.2.2.2.1
theorem nb_dX9_plans_149 : bls_w cX9_plans [(149, [180, 0, 94]), (152, [21, 6]), (154, [4]), (155, [96]), (156, [47]), (157, [9]), (158, [20, 0, 238]), (161, [184, 0, 111]), (164, [153, 0, 7]), (167, [4]), (168, [167, 0, 4]), (171, [3])] := bls_of (by decide +kernel)
set_option maxRecDepth 100000 in
theorem dX9_plans_149 : decode cX9_plans 149 = .ok (.getfield 94, 3) := (op_180 nb_dX9_plans_149.1).trans rfl
set_option maxRecDepth 100000 in
theorem dX9_plans_152 : decode cX9_plans 152 = .ok (.iload 6, 2) := (op_21 nb_dX9_plans_149.2.1).trans rfl
theorem dX9_plans_154 : decode cX9_plans 154 = .ok (.iconst 1, 1) := op_4 nb_dX9_plans_149.2.2.1
theorem dX9_plans_155 : decode cX9_plans 155 = .ok (.iadd, 1) := op_96 nb_dX9_plans_149.2.2.2.1
theorem dX9_plans_156 : decode cX9_plans 156 = .ok (.laload, 1) := op_47 nb_dX9_plans_149.2.2.2.2.1
theorem dX9_plans_157 : decode cX9_plans 157 = .ok (.lconst 0, 1) := op_9 nb_dX9_plans_149.2.2.2.2.2.1
set_option maxRecDepth 100000 in
theorem dX9_plans_158 : decode cX9_plans 158 = .ok (.ldc2_w 238, 3) := (op_20 nb_dX9_plans_149.2.2.2.2.2.2.1).trans rfl
set_option maxRecDepth 100000 in
theorem dX9_plans_161 : decode cX9_plans 161 = .ok (.invokestatic 111, 3) := (op_184 nb_dX9_plans_149.2.2.2.2.2.2.2.1).trans rfl
set_option maxRecDepth 100000 in
theorem dX9_plans_164 : decode cX9_plans 164 = .ok (.ifCond .eq 7, 3) := (op_153 nb_dX9_plans_149.2.2.2.2.2.2.2.2.1).trans rfl
theorem dX9_plans_167 : decode cX9_plans 167 = .ok (.iconst 1, 1) := op_4 nb_dX9_plans_149.2.2.2.2.2.2.2.2.2.1
set_option maxRecDepth 100000 in
theorem dX9_plans_168 : decode cX9_plans 168 = .ok (.goto 4, 3) := (op_167 nb_dX9_plans_149.2.2.2.2.2.2.2.2.2.2.1).trans rfl
theorem dX9_plans_171 : decode cX9_plans 171 = .ok (.iconst 0, 1) := op_3 nb_dX9_plans_149.2.2.2.2.2.2.2.2.2.2.2.1
theorem nb_dX9_plans_172 : bls_w cX9_plans [(172, [54, 5]), (174, [21, 5]), (176, [153, 0, 52]), (179, [42]), (180, [180, 0, 64]), (183, [42]), (184, [180, 1, 15]), (187, [42]), (188, [180, 0, 94]), (191, [21, 6]), (193, [47]), (194, [136])] := bls_of (by decide +kernel)
set_option maxRecDepth 100000 in
theorem dX9_plans_172 : decode cX9_plans 172 = .ok (.istore 5, 2) := (op_54 nb_dX9_plans_172.1).trans rfl
set_option maxRecDepth 100000 in
theorem dX9_plans_174 : decode cX9_plans 174 = .ok (.iload 5, 2) := (op_21 nb_dX9_plans_172.2.1).trans rfl
set_option maxRecDepth 100000 in
theorem dX9_plans_176 : decode cX9_plans 176 = .ok (.ifCond .eq 52, 3) := (op_153 nb_dX9_plans_172.2.2.1).trans rfl
theorem dX9_plans_179 : decode cX9_plans 179 = .ok (.aload_n 0, 1) := op_42 nb_dX9_plans_172.2.2.2.1
set_option maxRecDepth 100000 in
theorem dX9_plans_180 : decode cX9_plans 180 = .ok (.getfield 64, 3) := (op_180 nb_dX9_plans_172.2.2.2.2.1).trans rfl
theorem dX9_plans_183 : decode cX9_plans 183 = .ok (.aload_n 0, 1) := op_42 nb_dX9_plans_172.2.2.2.2.2.1
set_option maxRecDepth 100000 in
theorem dX9_plans_184 : decode cX9_plans 184 = .ok (.getfield 271, 3) := (op_180 nb_dX9_plans_172.2.2.2.2.2.2.1).trans rfl
theorem dX9_plans_187 : decode cX9_plans 187 = .ok (.aload_n 0, 1) := op_42 nb_dX9_plans_172.2.2.2.2.2.2.2.1
set_option maxRecDepth 100000 in
theorem dX9_plans_188 : decode cX9_plans 188 = .ok (.getfield 94, 3) := (op_180 nb_dX9_plans_172.2.2.2.2.2.2.2.2.1).trans rfl
set_option maxRecDepth 100000 in
theorem dX9_plans_191 : decode cX9_plans 191 = .ok (.iload 6, 2) := (op_21 nb_dX9_plans_172.2.2.2.2.2.2.2.2.2.1).trans rfl
theorem dX9_plans_193 : decode cX9_plans 193 = .ok (.laload, 1) := op_47 nb_dX9_plans_172.2.2.2.2.2.2.2.2.2.2.1
theorem dX9_plans_194 : decode cX9_plans 194 = .ok (.l2i, 1) := op_136 nb_dX9_plans_172.2.2.2.2.2.2.2.2.2.2.2.1
theorem nb_dX9_plans_195 : bls_w cX9_plans [(195, [79]), (196, [42]), (197, [180, 0, 67]), (200, [42]), (201, [180, 1, 15]), (204, [42]), (205, [180, 0, 94]), (208, [21, 6]), (210, [4]), (211, [96]), (212, [47]), (213, [136])] := bls_of (by decide +kernel)
theorem dX9_plans_195 : decode cX9_plans 195 = .ok (.iastore, 1) := op_79 nb_dX9_plans_195.1
theorem dX9_plans_196 : decode cX9_plans 196 = .ok (.aload_n 0, 1) := op_42 nb_dX9_plans_195.2.1
set_option maxRecDepth 100000 in
theorem dX9_plans_197 : decode cX9_plans 197 = .ok (.getfield 67, 3) := (op_180 nb_dX9_plans_195.2.2.1).trans rfl
theorem dX9_plans_200 : decode cX9_plans 200 = .ok (.aload_n 0, 1) := op_42 nb_dX9_plans_195.2.2.2.1
set_option maxRecDepth 100000 in
theorem dX9_plans_201 : decode cX9_plans 201 = .ok (.getfield 271, 3) := (op_180 nb_dX9_plans_195.2.2.2.2.1).trans rfl
theorem dX9_plans_204 : decode cX9_plans 204 = .ok (.aload_n 0, 1) := op_42 nb_dX9_plans_195.2.2.2.2.2.1
set_option maxRecDepth 100000 in
theorem dX9_plans_205 : decode cX9_plans 205 = .ok (.getfield 94, 3) := (op_180 nb_dX9_plans_195.2.2.2.2.2.2.1).trans rfl
set_option maxRecDepth 100000 in
theorem dX9_plans_208 : decode cX9_plans 208 = .ok (.iload 6, 2) := (op_21 nb_dX9_plans_195.2.2.2.2.2.2.2.1).trans rfl
theorem dX9_plans_210 : decode cX9_plans 210 = .ok (.iconst 1, 1) := op_4 nb_dX9_plans_195.2.2.2.2.2.2.2.2.1
theorem dX9_plans_211 : decode cX9_plans 211 = .ok (.iadd, 1) := op_96 nb_dX9_plans_195.2.2.2.2.2.2.2.2.2.1
theorem dX9_plans_212 : decode cX9_plans 212 = .ok (.laload, 1) := op_47 nb_dX9_plans_195.2.2.2.2.2.2.2.2.2.2.1
theorem dX9_plans_213 : decode cX9_plans 213 = .ok (.l2i, 1) := op_136 nb_dX9_plans_195.2.2.2.2.2.2.2.2.2.2.2.1
theorem nb_dX9_plans_214 : bls_w cX9_plans [(214, [79]), (215, [42]), (216, [89]), (217, [180, 1, 15]), (220, [4]), (221, [96]), (222, [181, 1, 15]), (225, [132, 4, 1]), (228, [167, 255, 97]), (231, [21, 4]), (233, [172])] := bls_of (by decide +kernel)
theorem dX9_plans_214 : decode cX9_plans 214 = .ok (.iastore, 1) := op_79 nb_dX9_plans_214.1
theorem dX9_plans_215 : decode cX9_plans 215 = .ok (.aload_n 0, 1) := op_42 nb_dX9_plans_214.2.1
theorem dX9_plans_216 : decode cX9_plans 216 = .ok (.dup, 1) := op_89 nb_dX9_plans_214.2.2.1
set_option maxRecDepth 100000 in
theorem dX9_plans_217 : decode cX9_plans 217 = .ok (.getfield 271, 3) := (op_180 nb_dX9_plans_214.2.2.2.1).trans rfl
theorem dX9_plans_220 : decode cX9_plans 220 = .ok (.iconst 1, 1) := op_4 nb_dX9_plans_214.2.2.2.2.1
theorem dX9_plans_221 : decode cX9_plans 221 = .ok (.iadd, 1) := op_96 nb_dX9_plans_214.2.2.2.2.2.1
set_option maxRecDepth 100000 in
theorem dX9_plans_222 : decode cX9_plans 222 = .ok (.putfield 271, 3) := (op_181 nb_dX9_plans_214.2.2.2.2.2.2.1).trans rfl
set_option maxRecDepth 100000 in
theorem dX9_plans_225 : decode cX9_plans 225 = .ok (.iinc 4 1, 3) := (op_132 nb_dX9_plans_214.2.2.2.2.2.2.2.1).trans rfl
set_option maxRecDepth 100000 in
theorem dX9_plans_228 : decode cX9_plans 228 = .ok (.goto (-159), 3) := (op_167 nb_dX9_plans_214.2.2.2.2.2.2.2.2.1).trans rfl
set_option maxRecDepth 100000 in
theorem dX9_plans_231 : decode cX9_plans 231 = .ok (.iload 4, 2) := (op_21 nb_dX9_plans_214.2.2.2.2.2.2.2.2.2.1).trans rfl
theorem dX9_plans_233 : decode cX9_plans 233 = .ok (.ireturn, 1) := op_172 nb_dX9_plans_214.2.2.2.2.2.2.2.2.2.2.1
def fX9_plans_228 (N : Nat) (k_69 : Int32 → Int32 → Int32 → Int32 → Int32 → Int32 → List Int32 → List Int32 → List Int32 → List Int32 → List Int64 → Option (Int32 × Int32 × List Int32 × List Int32)) (x1 : Int32) (x2 : Int32) (x3 : Int32) (x4 : Int32) (x5 : Int32) (v_planned : Int32) (v_planLine : List Int32) (v_planWay : List Int32) (v_shelf : List Int32) (v_many : List Int32) (v_items : List Int64) : Option (Int32 × Int32 × List Int32 × List Int32) :=
    k_69 x1 x2 x3 x4 x5 v_planned v_planLine v_planWay v_shelf v_many v_items

set_option maxHeartbeats 4000000 in
set_option maxRecDepth 100000 in
theorem tX9_plans_228 {p : Program} {l : Launch} {e : Env} {s : State} {m : MethodId} {args : Array Value} {below : List Frame} {meth : Method} {c : Code} {D : va_G} {cI cL cS cH : ClassId} {A : Nat → Prop} {d : Nat} {a : Nat → Nat} (hd : 3 ≤ d) (C0 : mm_Cx p s m args meth c RX9 cX9_plans 7 (some .int) D (mm_T cI cL cS cH) A) (hA : ∀ q, s.heap.size ≤ q → A q) {v_keptMany : Int32} {v_done : Int32} {v_rowsOf : Int32} {v_columnsOf : Int32} {v_folded : Int32} {v_wronged : Int32} {v_tapeMany : Int32} {v_textMany : Int32} {v_base : Int32} {v_at : Int32} {v_ends : Int32} {v_fault : Int32} {v_opened : Int32} {v_bentMany : Int32} {v_bentWrong : Int32} {v_moreWorn : Int32} {v_allWrong : Int32} {v_allWorn : Int32} {v_z : Int32} {v_wishedField : Int32} {v_isFound : Bool} {v_bestWrong : Int32} {v_bestWorn : Int32} {v_bestMany : Int32} {v_soughtBy : Int32} {v_sought : Int32} {v_soughtAt : Int32} {v_foundMany : Int32} {v_foundOrder : Int32} {v_isKept : Bool} {v_imageRows : Int32} {v_imageColumns : Int32} {v_imageFolded : Int32} {v_imageWronged : Int32} {v_bodies : Int32} {v_ran : Int32} {v_ownKind : Int32} {v_ownNumber : Int32} {v_limit : List Int32} {v_changeWas : List Int32} {v_changeIs : List Int32} {v_shapeRows : List Int32} {v_shapeColumns : List Int32} {v_row : List Int32} {v_column : List Int32} {v_below : List Int32} {v_face : List Int32} {v_worn : List Int32} {v_lastBend : List Int32} {v_tape : List Int32} {v_text : List Int32} {v_names : List Int32} {v_bends : List Int32} {v_high : List Int32} {v_to : List Int32} {v_pileSize : List Int32} {v_way1 : List Int32} {v_bestWay : List Int32} {v_order1 : List Int32} {v_placeIn : List Int32} {v_bodyKind : List Int32} {v_trace : List Int32} {v_carried : List Int64} {r : Int32} {w_planned : Int32} {w_planLine : List Int32} {w_planWay : List Int32} (N : Nat) {k_69 : Int32 → Int32 → Int32 → Int32 → Int32 → Int32 → List Int32 → List Int32 → List Int32 → List Int32 → List Int64 → Option (Int32 × Int32 × List Int32 × List Int32)} (hk_69 : ∀ (x1 : Int32) (x2 : Int32) (x3 : Int32) (x4 : Int32) (x5 : Int32) (v_planned : Int32) (v_planLine : List Int32) (v_planWay : List Int32) (v_shelf : List Int32) (v_many : List Int32) (v_items : List Int64) (H : Heap) (locs : List Loc) (ls : Array Slot), k_69 x1 x2 x3 x4 x5 v_planned v_planLine v_planWay v_shelf v_many v_items = some (r, w_planned, w_planLine, w_planWay) → va_P D mm_cl (wd_X9 cI cL cS cH a v_keptMany v_done v_rowsOf v_columnsOf v_folded v_wronged v_tapeMany v_textMany v_base v_at v_ends v_fault v_opened v_bentMany v_bentWrong v_moreWorn v_planned v_allWrong v_allWorn v_z v_wishedField v_isFound v_bestWrong v_bestWorn v_bestMany v_soughtBy v_sought v_soughtAt v_foundMany v_foundOrder v_isKept v_imageRows v_imageColumns v_imageFolded v_imageWronged v_bodies v_ran v_ownKind v_ownNumber v_limit v_changeWas v_changeIs v_shapeRows v_shapeColumns v_row v_column v_below v_face v_worn v_lastBend v_tape v_text v_names v_bends v_high v_to v_pileSize v_planLine v_planWay v_way1 v_bestWay v_order1 v_placeIn v_bodyKind v_trace v_shelf v_many v_items v_carried) H → va_D A (wd_X9 cI cL cS cH a v_keptMany v_done v_rowsOf v_columnsOf v_folded v_wronged v_tapeMany v_textMany v_base v_at v_ends v_fault v_opened v_bentMany v_bentWrong v_moreWorn v_planned v_allWrong v_allWorn v_z v_wishedField v_isFound v_bestWrong v_bestWorn v_bestMany v_soughtBy v_sought v_soughtAt v_foundMany v_foundOrder v_isKept v_imageRows v_imageColumns v_imageFolded v_imageWronged v_bodies v_ran v_ownKind v_ownNumber v_limit v_changeWas v_changeIs v_shapeRows v_shapeColumns v_row v_column v_below v_face v_worn v_lastBend v_tape v_text v_names v_bends v_high v_to v_pileSize v_planLine v_planWay v_way1 v_bestWay v_order1 v_placeIn v_bodyKind v_trace v_shelf v_many v_items v_carried) → va_S A s.heap H locs → lv_has ls 7 [(0, .ref (a 0)), (1, .int x1), (2, .int x2), (3, .int x3), (4, .int x4), (5, .int x5)] → W p l e (mm_rr d) s m args below meth c H locs 0 0 (mm_Z below D A (wd_X9 cI cL cS cH a v_keptMany v_done v_rowsOf v_columnsOf v_folded v_wronged v_tapeMany v_textMany v_base v_at v_ends v_fault v_opened v_bentMany v_bentWrong v_moreWorn w_planned v_allWrong v_allWorn v_z v_wishedField v_isFound v_bestWrong v_bestWorn v_bestMany v_soughtBy v_sought v_soughtAt v_foundMany v_foundOrder v_isKept v_imageRows v_imageColumns v_imageFolded v_imageWronged v_bodies v_ran v_ownKind v_ownNumber v_limit v_changeWas v_changeIs v_shapeRows v_shapeColumns v_row v_column v_below v_face v_worn v_lastBend v_tape v_text v_names v_bends v_high v_to v_pileSize w_planLine w_planWay v_way1 v_bestWay v_order1 v_placeIn v_bodyKind v_trace v_shelf v_many v_items v_carried) (some (.int r)) args s) (F0 m 69 ls [])) : ∀ (x1 : Int32) (x2 : Int32) (x3 : Int32) (x4 : Int32) (x5 : Int32) (v_planned : Int32) (v_planLine : List Int32) (v_planWay : List Int32) (v_shelf : List Int32) (v_many : List Int32) (v_items : List Int64) (H : Heap) (locs : List Loc) (ls : Array Slot), fX9_plans_228 N k_69 x1 x2 x3 x4 x5 v_planned v_planLine v_planWay v_shelf v_many v_items = some (r, w_planned, w_planLine, w_planWay) → va_P D mm_cl (wd_X9 cI cL cS cH a v_keptMany v_done v_rowsOf v_columnsOf v_folded v_wronged v_tapeMany v_textMany v_base v_at v_ends v_fault v_opened v_bentMany v_bentWrong v_moreWorn v_planned v_allWrong v_allWorn v_z v_wishedField v_isFound v_bestWrong v_bestWorn v_bestMany v_soughtBy v_sought v_soughtAt v_foundMany v_foundOrder v_isKept v_imageRows v_imageColumns v_imageFolded v_imageWronged v_bodies v_ran v_ownKind v_ownNumber v_limit v_changeWas v_changeIs v_shapeRows v_shapeColumns v_row v_column v_below v_face v_worn v_lastBend v_tape v_text v_names v_bends v_high v_to v_pileSize v_planLine v_planWay v_way1 v_bestWay v_order1 v_placeIn v_bodyKind v_trace v_shelf v_many v_items v_carried) H → va_D A (wd_X9 cI cL cS cH a v_keptMany v_done v_rowsOf v_columnsOf v_folded v_wronged v_tapeMany v_textMany v_base v_at v_ends v_fault v_opened v_bentMany v_bentWrong v_moreWorn v_planned v_allWrong v_allWorn v_z v_wishedField v_isFound v_bestWrong v_bestWorn v_bestMany v_soughtBy v_sought v_soughtAt v_foundMany v_foundOrder v_isKept v_imageRows v_imageColumns v_imageFolded v_imageWronged v_bodies v_ran v_ownKind v_ownNumber v_limit v_changeWas v_changeIs v_shapeRows v_shapeColumns v_row v_column v_below v_face v_worn v_lastBend v_tape v_text v_names v_bends v_high v_to v_pileSize v_planLine v_planWay v_way1 v_bestWay v_order1 v_placeIn v_bodyKind v_trace v_shelf v_many v_items v_carried) → va_S A s.heap H locs → lv_has ls 7 [(0, .ref (a 0)), (1, .int x1), (2, .int x2), (3, .int x3), (4, .int x4), (5, .int x5)] → W p l e (mm_rr d) s m args below meth c H locs 0 0 (mm_Z below D A (wd_X9 cI cL cS cH a v_keptMany v_done v_rowsOf v_columnsOf v_folded v_wronged v_tapeMany v_textMany v_base v_at v_ends v_fault v_opened v_bentMany v_bentWrong v_moreWorn w_planned v_allWrong v_allWorn v_z v_wishedField v_isFound v_bestWrong v_bestWorn v_bestMany v_soughtBy v_sought v_soughtAt v_foundMany v_foundOrder v_isKept v_imageRows v_imageColumns v_imageFolded v_imageWronged v_bodies v_ran v_ownKind v_ownNumber v_limit v_changeWas v_changeIs v_shapeRows v_shapeColumns v_row v_column v_below v_face v_worn v_lastBend v_tape v_text v_names v_bends v_high v_to v_pileSize w_planLine w_planWay v_way1 v_bestWay v_order1 v_placeIn v_bodyKind v_trace v_shelf v_many v_items v_carried) (some (.int r)) args s) (F0 m 228 ls []) := by
  obtain ⟨hx, hb, hml, hown, hts, hr, hlocks, hK, hSt⟩ := id C0
  intro x1 x2 x3 x4 x5 v_planned v_planLine v_planWay v_shelf v_many v_items H locs ls hf hP hD hS hl
  unfold fX9_plans_228 at hf
  refine lv_goto (tgt := 69) hx hb dX9_plans_228 (by decide) ?_
  exact hk_69 _ _ _ _ _ _ _ _ _ _ _ H locs ls hf hP hD hS (lv_sub hl [0, 1, 2, 3, 4, 5] rfl)

def fX9_plans_172 (N : Nat) (k_69 : Int32 → Int32 → Int32 → Int32 → Int32 → Int32 → List Int32 → List Int32 → List Int32 → List Int32 → List Int64 → Option (Int32 × Int32 × List Int32 × List Int32)) (x1 : Int32) (x2 : Int32) (x3 : Int32) (x4 : Int32) (x6 : Int32) (s0 : Int32) (v_planned : Int32) (v_planLine : List Int32) (v_planWay : List Int32) (v_shelf : List Int32) (v_many : List Int32) (v_items : List Int64) : Option (Int32 × Int32 × List Int32 × List Int32) :=
    if s0 = 0 then
    (fX9_plans_228 N k_69 x1 x2 x3 x4 s0 v_planned v_planLine v_planWay v_shelf v_many v_items)
    else (mm_ck (mm_inb x6 v_items.length) (mm_nm (((mm_lg v_items x6).toInt32)) (fun (y_31 : Int32) =>
    mm_ck (mm_inb v_planned v_planLine.length) (mm_nm (mm_is v_planLine v_planned y_31) (fun (l_33 : List Int32) =>
    mm_ck (mm_inb (x6 + (1 : Int32)) v_items.length) (mm_nm (((mm_lg v_items (x6 + (1 : Int32))).toInt32)) (fun (y_35 : Int32) =>
    mm_ck (mm_inb v_planned v_planWay.length) (mm_nm (mm_is v_planWay v_planned y_35) (fun (l_37 : List Int32) =>
    mm_nm ((v_planned + (1 : Int32))) (fun (y_38 : Int32) =>
    mm_nm (x4 + (1 : Int32)) (fun (y_39 : Int32) =>
    fX9_plans_228 N k_69 x1 x2 x3 y_39 s0 y_38 l_33 l_37 v_shelf v_many v_items)))))))))))

set_option maxHeartbeats 4000000 in
set_option maxRecDepth 100000 in
theorem tX9_plans_172 {p : Program} {l : Launch} {e : Env} {s : State} {m : MethodId} {args : Array Value} {below : List Frame} {meth : Method} {c : Code} {D : va_G} {cI cL cS cH : ClassId} {A : Nat → Prop} {d : Nat} {a : Nat → Nat} (hd : 3 ≤ d) (C0 : mm_Cx p s m args meth c RX9 cX9_plans 7 (some .int) D (mm_T cI cL cS cH) A) (hA : ∀ q, s.heap.size ≤ q → A q) {v_keptMany : Int32} {v_done : Int32} {v_rowsOf : Int32} {v_columnsOf : Int32} {v_folded : Int32} {v_wronged : Int32} {v_tapeMany : Int32} {v_textMany : Int32} {v_base : Int32} {v_at : Int32} {v_ends : Int32} {v_fault : Int32} {v_opened : Int32} {v_bentMany : Int32} {v_bentWrong : Int32} {v_moreWorn : Int32} {v_allWrong : Int32} {v_allWorn : Int32} {v_z : Int32} {v_wishedField : Int32} {v_isFound : Bool} {v_bestWrong : Int32} {v_bestWorn : Int32} {v_bestMany : Int32} {v_soughtBy : Int32} {v_sought : Int32} {v_soughtAt : Int32} {v_foundMany : Int32} {v_foundOrder : Int32} {v_isKept : Bool} {v_imageRows : Int32} {v_imageColumns : Int32} {v_imageFolded : Int32} {v_imageWronged : Int32} {v_bodies : Int32} {v_ran : Int32} {v_ownKind : Int32} {v_ownNumber : Int32} {v_limit : List Int32} {v_changeWas : List Int32} {v_changeIs : List Int32} {v_shapeRows : List Int32} {v_shapeColumns : List Int32} {v_row : List Int32} {v_column : List Int32} {v_below : List Int32} {v_face : List Int32} {v_worn : List Int32} {v_lastBend : List Int32} {v_tape : List Int32} {v_text : List Int32} {v_names : List Int32} {v_bends : List Int32} {v_high : List Int32} {v_to : List Int32} {v_pileSize : List Int32} {v_way1 : List Int32} {v_bestWay : List Int32} {v_order1 : List Int32} {v_placeIn : List Int32} {v_bodyKind : List Int32} {v_trace : List Int32} {v_carried : List Int64} {r : Int32} {w_planned : Int32} {w_planLine : List Int32} {w_planWay : List Int32} (N : Nat) {k_69 : Int32 → Int32 → Int32 → Int32 → Int32 → Int32 → List Int32 → List Int32 → List Int32 → List Int32 → List Int64 → Option (Int32 × Int32 × List Int32 × List Int32)} (hk_69 : ∀ (x1 : Int32) (x2 : Int32) (x3 : Int32) (x4 : Int32) (x5 : Int32) (v_planned : Int32) (v_planLine : List Int32) (v_planWay : List Int32) (v_shelf : List Int32) (v_many : List Int32) (v_items : List Int64) (H : Heap) (locs : List Loc) (ls : Array Slot), k_69 x1 x2 x3 x4 x5 v_planned v_planLine v_planWay v_shelf v_many v_items = some (r, w_planned, w_planLine, w_planWay) → va_P D mm_cl (wd_X9 cI cL cS cH a v_keptMany v_done v_rowsOf v_columnsOf v_folded v_wronged v_tapeMany v_textMany v_base v_at v_ends v_fault v_opened v_bentMany v_bentWrong v_moreWorn v_planned v_allWrong v_allWorn v_z v_wishedField v_isFound v_bestWrong v_bestWorn v_bestMany v_soughtBy v_sought v_soughtAt v_foundMany v_foundOrder v_isKept v_imageRows v_imageColumns v_imageFolded v_imageWronged v_bodies v_ran v_ownKind v_ownNumber v_limit v_changeWas v_changeIs v_shapeRows v_shapeColumns v_row v_column v_below v_face v_worn v_lastBend v_tape v_text v_names v_bends v_high v_to v_pileSize v_planLine v_planWay v_way1 v_bestWay v_order1 v_placeIn v_bodyKind v_trace v_shelf v_many v_items v_carried) H → va_D A (wd_X9 cI cL cS cH a v_keptMany v_done v_rowsOf v_columnsOf v_folded v_wronged v_tapeMany v_textMany v_base v_at v_ends v_fault v_opened v_bentMany v_bentWrong v_moreWorn v_planned v_allWrong v_allWorn v_z v_wishedField v_isFound v_bestWrong v_bestWorn v_bestMany v_soughtBy v_sought v_soughtAt v_foundMany v_foundOrder v_isKept v_imageRows v_imageColumns v_imageFolded v_imageWronged v_bodies v_ran v_ownKind v_ownNumber v_limit v_changeWas v_changeIs v_shapeRows v_shapeColumns v_row v_column v_below v_face v_worn v_lastBend v_tape v_text v_names v_bends v_high v_to v_pileSize v_planLine v_planWay v_way1 v_bestWay v_order1 v_placeIn v_bodyKind v_trace v_shelf v_many v_items v_carried) → va_S A s.heap H locs → lv_has ls 7 [(0, .ref (a 0)), (1, .int x1), (2, .int x2), (3, .int x3), (4, .int x4), (5, .int x5)] → W p l e (mm_rr d) s m args below meth c H locs 0 0 (mm_Z below D A (wd_X9 cI cL cS cH a v_keptMany v_done v_rowsOf v_columnsOf v_folded v_wronged v_tapeMany v_textMany v_base v_at v_ends v_fault v_opened v_bentMany v_bentWrong v_moreWorn w_planned v_allWrong v_allWorn v_z v_wishedField v_isFound v_bestWrong v_bestWorn v_bestMany v_soughtBy v_sought v_soughtAt v_foundMany v_foundOrder v_isKept v_imageRows v_imageColumns v_imageFolded v_imageWronged v_bodies v_ran v_ownKind v_ownNumber v_limit v_changeWas v_changeIs v_shapeRows v_shapeColumns v_row v_column v_below v_face v_worn v_lastBend v_tape v_text v_names v_bends v_high v_to v_pileSize w_planLine w_planWay v_way1 v_bestWay v_order1 v_placeIn v_bodyKind v_trace v_shelf v_many v_items v_carried) (some (.int r)) args s) (F0 m 69 ls [])) : ∀ (x1 : Int32) (x2 : Int32) (x3 : Int32) (x4 : Int32) (x6 : Int32) (s0 : Int32) (v_planned : Int32) (v_planLine : List Int32) (v_planWay : List Int32) (v_shelf : List Int32) (v_many : List Int32) (v_items : List Int64) (H : Heap) (locs : List Loc) (ls : Array Slot), fX9_plans_172 N k_69 x1 x2 x3 x4 x6 s0 v_planned v_planLine v_planWay v_shelf v_many v_items = some (r, w_planned, w_planLine, w_planWay) → va_P D mm_cl (wd_X9 cI cL cS cH a v_keptMany v_done v_rowsOf v_columnsOf v_folded v_wronged v_tapeMany v_textMany v_base v_at v_ends v_fault v_opened v_bentMany v_bentWrong v_moreWorn v_planned v_allWrong v_allWorn v_z v_wishedField v_isFound v_bestWrong v_bestWorn v_bestMany v_soughtBy v_sought v_soughtAt v_foundMany v_foundOrder v_isKept v_imageRows v_imageColumns v_imageFolded v_imageWronged v_bodies v_ran v_ownKind v_ownNumber v_limit v_changeWas v_changeIs v_shapeRows v_shapeColumns v_row v_column v_below v_face v_worn v_lastBend v_tape v_text v_names v_bends v_high v_to v_pileSize v_planLine v_planWay v_way1 v_bestWay v_order1 v_placeIn v_bodyKind v_trace v_shelf v_many v_items v_carried) H → va_D A (wd_X9 cI cL cS cH a v_keptMany v_done v_rowsOf v_columnsOf v_folded v_wronged v_tapeMany v_textMany v_base v_at v_ends v_fault v_opened v_bentMany v_bentWrong v_moreWorn v_planned v_allWrong v_allWorn v_z v_wishedField v_isFound v_bestWrong v_bestWorn v_bestMany v_soughtBy v_sought v_soughtAt v_foundMany v_foundOrder v_isKept v_imageRows v_imageColumns v_imageFolded v_imageWronged v_bodies v_ran v_ownKind v_ownNumber v_limit v_changeWas v_changeIs v_shapeRows v_shapeColumns v_row v_column v_below v_face v_worn v_lastBend v_tape v_text v_names v_bends v_high v_to v_pileSize v_planLine v_planWay v_way1 v_bestWay v_order1 v_placeIn v_bodyKind v_trace v_shelf v_many v_items v_carried) → va_S A s.heap H locs → lv_has ls 7 [(0, .ref (a 0)), (1, .int x1), (2, .int x2), (3, .int x3), (4, .int x4), (6, .int x6)] → W p l e (mm_rr d) s m args below meth c H locs 0 0 (mm_Z below D A (wd_X9 cI cL cS cH a v_keptMany v_done v_rowsOf v_columnsOf v_folded v_wronged v_tapeMany v_textMany v_base v_at v_ends v_fault v_opened v_bentMany v_bentWrong v_moreWorn w_planned v_allWrong v_allWorn v_z v_wishedField v_isFound v_bestWrong v_bestWorn v_bestMany v_soughtBy v_sought v_soughtAt v_foundMany v_foundOrder v_isKept v_imageRows v_imageColumns v_imageFolded v_imageWronged v_bodies v_ran v_ownKind v_ownNumber v_limit v_changeWas v_changeIs v_shapeRows v_shapeColumns v_row v_column v_below v_face v_worn v_lastBend v_tape v_text v_names v_bends v_high v_to v_pileSize w_planLine w_planWay v_way1 v_bestWay v_order1 v_placeIn v_bodyKind v_trace v_shelf v_many v_items v_carried) (some (.int r)) args s) (F0 m 172 ls [.int s0]) := by
  obtain ⟨hx, hb, hml, hown, hts, hr, hlocks, hK, hSt⟩ := id C0
  intro x1 x2 x3 x4 x6 s0 v_planned v_planLine v_planWay v_shelf v_many v_items H locs ls hf hP hD hS hl
  unfold fX9_plans_172 at hf
  refine lv_istore (lv' := [(5, .int s0), (0, .ref (a 0)), (1, .int x1), (2, .int x2), (3, .int x3), (4, .int x4), (6, .int x6)]) hx hb dX9_plans_172 hl (by decide) rfl (fun ls hl => ?_)
  refine lv_iload hx hb dX9_plans_174 (lv_at hl 0 rfl) ?_
  refine lv_if_eq (tgt := 228) hx hb dX9_plans_176 (by decide) (fun c_29 => ?_) (fun c_29 => ?_)
  · have hf := mm_ip hf c_29
    exact tX9_plans_228 hd C0 hA N hk_69 _ _ _ _ _ _ _ _ _ _ _ H locs ls hf hP hD hS (lv_sub hl [1, 2, 3, 4, 5, 0] rfl)
  · have hf := mm_in hf c_29
    refine lv_aload_n hx hb dX9_plans_179 rfl (lv_at hl 1 rfl) ?_
    refine mm_get C0 hP iw_X9 0 rfl rfl 34 (by decide) fl_X9_64 rfl dX9_plans_180 ?_
    refine lv_aload_n hx hb dX9_plans_183 rfl (lv_at hl 1 rfl) ?_
    refine mm_get C0 hP iw_X9 0 rfl rfl 36 (by decide) fl_X9_271 rfl dX9_plans_184 ?_
    refine lv_aload_n hx hb dX9_plans_187 rfl (lv_at hl 1 rfl) ?_
    refine mm_get C0 hP iw_X9 0 rfl rfl 67 (by decide) fl_X9_94 rfl dX9_plans_188 ?_
    refine lv_iload hx hb dX9_plans_191 (lv_at hl 6 rfl) ?_
    obtain ⟨h_30, hf⟩ := mm_cks hf
    refine mm_lald C0 hP 29 rfl h_30 dX9_plans_193 ?_
    refine lv_l2i hx hb dX9_plans_194 rfl ?_
    refine lv_topi (fun y_31 ey_31 => ?_)
    have hf := mm_nms hf ey_31
    obtain ⟨h_32, hf⟩ := mm_cks hf
    refine mm_iast C0 hP hD hS 19 rfl h_32 dX9_plans_195 (w2 := (wd_X9 cI cL cS cH a v_keptMany v_done v_rowsOf v_columnsOf v_folded v_wronged v_tapeMany v_textMany v_base v_at v_ends v_fault v_opened v_bentMany v_bentWrong v_moreWorn v_planned v_allWrong v_allWorn v_z v_wishedField v_isFound v_bestWrong v_bestWorn v_bestMany v_soughtBy v_sought v_soughtAt v_foundMany v_foundOrder v_isKept v_imageRows v_imageColumns v_imageFolded v_imageWronged v_bodies v_ran v_ownKind v_ownNumber v_limit v_changeWas v_changeIs v_shapeRows v_shapeColumns v_row v_column v_below v_face v_worn v_lastBend v_tape v_text v_names v_bends v_high v_to v_pileSize (mm_is v_planLine v_planned y_31) v_planWay v_way1 v_bestWay v_order1 v_placeIn v_bodyKind v_trace v_shelf v_many v_items v_carried)) rfl (fun H locs hP hD hS => ?_)
    generalize el_33 : (mm_is v_planLine v_planned y_31) = l_33 at hP hD
    have hf := mm_nms hf el_33.symm
    refine lv_aload_n hx hb dX9_plans_196 rfl (lv_at hl 1 rfl) ?_
    refine mm_get C0 hP iw_X9 0 rfl rfl 35 (by decide) fl_X9_67 rfl dX9_plans_197 ?_
    refine lv_aload_n hx hb dX9_plans_200 rfl (lv_at hl 1 rfl) ?_
    refine mm_get C0 hP iw_X9 0 rfl rfl 36 (by decide) fl_X9_271 rfl dX9_plans_201 ?_
    refine lv_aload_n hx hb dX9_plans_204 rfl (lv_at hl 1 rfl) ?_
    refine mm_get C0 hP iw_X9 0 rfl rfl 67 (by decide) fl_X9_94 rfl dX9_plans_205 ?_
    refine lv_iload hx hb dX9_plans_208 (lv_at hl 6 rfl) ?_
    refine lv_iconst (v := 1) hx hb dX9_plans_210 (by decide) ?_
    refine lv_iadd hx hb dX9_plans_211 ?_
    obtain ⟨h_34, hf⟩ := mm_cks hf
    refine mm_lald C0 hP 29 rfl h_34 dX9_plans_212 ?_
    refine lv_l2i hx hb dX9_plans_213 rfl ?_
    refine lv_topi (fun y_35 ey_35 => ?_)
    have hf := mm_nms hf ey_35
    obtain ⟨h_36, hf⟩ := mm_cks hf
    refine mm_iast C0 hP hD hS 20 rfl h_36 dX9_plans_214 (w2 := (wd_X9 cI cL cS cH a v_keptMany v_done v_rowsOf v_columnsOf v_folded v_wronged v_tapeMany v_textMany v_base v_at v_ends v_fault v_opened v_bentMany v_bentWrong v_moreWorn v_planned v_allWrong v_allWorn v_z v_wishedField v_isFound v_bestWrong v_bestWorn v_bestMany v_soughtBy v_sought v_soughtAt v_foundMany v_foundOrder v_isKept v_imageRows v_imageColumns v_imageFolded v_imageWronged v_bodies v_ran v_ownKind v_ownNumber v_limit v_changeWas v_changeIs v_shapeRows v_shapeColumns v_row v_column v_below v_face v_worn v_lastBend v_tape v_text v_names v_bends v_high v_to v_pileSize l_33 (mm_is v_planWay v_planned y_35) v_way1 v_bestWay v_order1 v_placeIn v_bodyKind v_trace v_shelf v_many v_items v_carried)) rfl (fun H locs hP hD hS => ?_)
    generalize el_37 : (mm_is v_planWay v_planned y_35) = l_37 at hP hD
    have hf := mm_nms hf el_37.symm
    refine lv_aload_n hx hb dX9_plans_215 rfl (lv_at hl 1 rfl) ?_
    refine lv_dup hx hb dX9_plans_216 rfl ?_
    refine mm_get C0 hP iw_X9 0 rfl rfl 36 (by decide) fl_X9_271 rfl dX9_plans_217 ?_
    refine lv_iconst (v := 1) hx hb dX9_plans_220 (by decide) ?_
    refine lv_iadd hx hb dX9_plans_221 ?_
    refine lv_topi (fun y_38 ey_38 => ?_)
    have hf := mm_nms hf ey_38
    refine mm_put C0 hP hD hS iw_X9 tyX9 tyX9_ok nmX9 0 rfl rfl 36 (by decide) fl_X9_271 rfl rfl rfl (Nat.le_of_ble_eq_true rfl) dX9_plans_222 (w2 := (wd_X9 cI cL cS cH a v_keptMany v_done v_rowsOf v_columnsOf v_folded v_wronged v_tapeMany v_textMany v_base v_at v_ends v_fault v_opened v_bentMany v_bentWrong v_moreWorn y_38 v_allWrong v_allWorn v_z v_wishedField v_isFound v_bestWrong v_bestWorn v_bestMany v_soughtBy v_sought v_soughtAt v_foundMany v_foundOrder v_isKept v_imageRows v_imageColumns v_imageFolded v_imageWronged v_bodies v_ran v_ownKind v_ownNumber v_limit v_changeWas v_changeIs v_shapeRows v_shapeColumns v_row v_column v_below v_face v_worn v_lastBend v_tape v_text v_names v_bends v_high v_to v_pileSize l_33 l_37 v_way1 v_bestWay v_order1 v_placeIn v_bodyKind v_trace v_shelf v_many v_items v_carried)) rfl (fun H locs hP hD hS => ?_)
    obtain ⟨y_39, ey_39⟩ : ∃ z : Int32, z = x4 + (1 : Int32) := ⟨_, rfl⟩
    have hf := mm_nms hf ey_39
    refine lv_iinc (v := y_39) (lv' := [(4, .int y_39), (5, .int s0), (0, .ref (a 0)), (1, .int x1), (2, .int x2), (3, .int x3), (6, .int x6)]) hx hb dX9_plans_225 hl (k := 5) rfl (by rw [ey_39]; rfl) (by decide) rfl (fun ls hl => ?_)
    exact tX9_plans_228 hd C0 hA N hk_69 _ _ _ _ _ _ _ _ _ _ _ H locs ls hf hP hD hS (lv_sub hl [2, 3, 4, 5, 0, 1] rfl)

def fX9_plans_171 (N : Nat) (k_69 : Int32 → Int32 → Int32 → Int32 → Int32 → Int32 → List Int32 → List Int32 → List Int32 → List Int32 → List Int64 → Option (Int32 × Int32 × List Int32 × List Int32)) (x1 : Int32) (x2 : Int32) (x3 : Int32) (x4 : Int32) (x6 : Int32) (v_planned : Int32) (v_planLine : List Int32) (v_planWay : List Int32) (v_shelf : List Int32) (v_many : List Int32) (v_items : List Int64) : Option (Int32 × Int32 × List Int32 × List Int32) :=
    fX9_plans_172 N k_69 x1 x2 x3 x4 x6 (0 : Int32) v_planned v_planLine v_planWay v_shelf v_many v_items

set_option maxHeartbeats 4000000 in
set_option maxRecDepth 100000 in
theorem tX9_plans_171 {p : Program} {l : Launch} {e : Env} {s : State} {m : MethodId} {args : Array Value} {below : List Frame} {meth : Method} {c : Code} {D : va_G} {cI cL cS cH : ClassId} {A : Nat → Prop} {d : Nat} {a : Nat → Nat} (hd : 3 ≤ d) (C0 : mm_Cx p s m args meth c RX9 cX9_plans 7 (some .int) D (mm_T cI cL cS cH) A) (hA : ∀ q, s.heap.size ≤ q → A q) {v_keptMany : Int32} {v_done : Int32} {v_rowsOf : Int32} {v_columnsOf : Int32} {v_folded : Int32} {v_wronged : Int32} {v_tapeMany : Int32} {v_textMany : Int32} {v_base : Int32} {v_at : Int32} {v_ends : Int32} {v_fault : Int32} {v_opened : Int32} {v_bentMany : Int32} {v_bentWrong : Int32} {v_moreWorn : Int32} {v_allWrong : Int32} {v_allWorn : Int32} {v_z : Int32} {v_wishedField : Int32} {v_isFound : Bool} {v_bestWrong : Int32} {v_bestWorn : Int32} {v_bestMany : Int32} {v_soughtBy : Int32} {v_sought : Int32} {v_soughtAt : Int32} {v_foundMany : Int32} {v_foundOrder : Int32} {v_isKept : Bool} {v_imageRows : Int32} {v_imageColumns : Int32} {v_imageFolded : Int32} {v_imageWronged : Int32} {v_bodies : Int32} {v_ran : Int32} {v_ownKind : Int32} {v_ownNumber : Int32} {v_limit : List Int32} {v_changeWas : List Int32} {v_changeIs : List Int32} {v_shapeRows : List Int32} {v_shapeColumns : List Int32} {v_row : List Int32} {v_column : List Int32} {v_below : List Int32} {v_face : List Int32} {v_worn : List Int32} {v_lastBend : List Int32} {v_tape : List Int32} {v_text : List Int32} {v_names : List Int32} {v_bends : List Int32} {v_high : List Int32} {v_to : List Int32} {v_pileSize : List Int32} {v_way1 : List Int32} {v_bestWay : List Int32} {v_order1 : List Int32} {v_placeIn : List Int32} {v_bodyKind : List Int32} {v_trace : List Int32} {v_carried : List Int64} {r : Int32} {w_planned : Int32} {w_planLine : List Int32} {w_planWay : List Int32} (N : Nat) {k_69 : Int32 → Int32 → Int32 → Int32 → Int32 → Int32 → List Int32 → List Int32 → List Int32 → List Int32 → List Int64 → Option (Int32 × Int32 × List Int32 × List Int32)} (hk_69 : ∀ (x1 : Int32) (x2 : Int32) (x3 : Int32) (x4 : Int32) (x5 : Int32) (v_planned : Int32) (v_planLine : List Int32) (v_planWay : List Int32) (v_shelf : List Int32) (v_many : List Int32) (v_items : List Int64) (H : Heap) (locs : List Loc) (ls : Array Slot), k_69 x1 x2 x3 x4 x5 v_planned v_planLine v_planWay v_shelf v_many v_items = some (r, w_planned, w_planLine, w_planWay) → va_P D mm_cl (wd_X9 cI cL cS cH a v_keptMany v_done v_rowsOf v_columnsOf v_folded v_wronged v_tapeMany v_textMany v_base v_at v_ends v_fault v_opened v_bentMany v_bentWrong v_moreWorn v_planned v_allWrong v_allWorn v_z v_wishedField v_isFound v_bestWrong v_bestWorn v_bestMany v_soughtBy v_sought v_soughtAt v_foundMany v_foundOrder v_isKept v_imageRows v_imageColumns v_imageFolded v_imageWronged v_bodies v_ran v_ownKind v_ownNumber v_limit v_changeWas v_changeIs v_shapeRows v_shapeColumns v_row v_column v_below v_face v_worn v_lastBend v_tape v_text v_names v_bends v_high v_to v_pileSize v_planLine v_planWay v_way1 v_bestWay v_order1 v_placeIn v_bodyKind v_trace v_shelf v_many v_items v_carried) H → va_D A (wd_X9 cI cL cS cH a v_keptMany v_done v_rowsOf v_columnsOf v_folded v_wronged v_tapeMany v_textMany v_base v_at v_ends v_fault v_opened v_bentMany v_bentWrong v_moreWorn v_planned v_allWrong v_allWorn v_z v_wishedField v_isFound v_bestWrong v_bestWorn v_bestMany v_soughtBy v_sought v_soughtAt v_foundMany v_foundOrder v_isKept v_imageRows v_imageColumns v_imageFolded v_imageWronged v_bodies v_ran v_ownKind v_ownNumber v_limit v_changeWas v_changeIs v_shapeRows v_shapeColumns v_row v_column v_below v_face v_worn v_lastBend v_tape v_text v_names v_bends v_high v_to v_pileSize v_planLine v_planWay v_way1 v_bestWay v_order1 v_placeIn v_bodyKind v_trace v_shelf v_many v_items v_carried) → va_S A s.heap H locs → lv_has ls 7 [(0, .ref (a 0)), (1, .int x1), (2, .int x2), (3, .int x3), (4, .int x4), (5, .int x5)] → W p l e (mm_rr d) s m args below meth c H locs 0 0 (mm_Z below D A (wd_X9 cI cL cS cH a v_keptMany v_done v_rowsOf v_columnsOf v_folded v_wronged v_tapeMany v_textMany v_base v_at v_ends v_fault v_opened v_bentMany v_bentWrong v_moreWorn w_planned v_allWrong v_allWorn v_z v_wishedField v_isFound v_bestWrong v_bestWorn v_bestMany v_soughtBy v_sought v_soughtAt v_foundMany v_foundOrder v_isKept v_imageRows v_imageColumns v_imageFolded v_imageWronged v_bodies v_ran v_ownKind v_ownNumber v_limit v_changeWas v_changeIs v_shapeRows v_shapeColumns v_row v_column v_below v_face v_worn v_lastBend v_tape v_text v_names v_bends v_high v_to v_pileSize w_planLine w_planWay v_way1 v_bestWay v_order1 v_placeIn v_bodyKind v_trace v_shelf v_many v_items v_carried) (some (.int r)) args s) (F0 m 69 ls [])) : ∀ (x1 : Int32) (x2 : Int32) (x3 : Int32) (x4 : Int32) (x6 : Int32) (v_planned : Int32) (v_planLine : List Int32) (v_planWay : List Int32) (v_shelf : List Int32) (v_many : List Int32) (v_items : List Int64) (H : Heap) (locs : List Loc) (ls : Array Slot), fX9_plans_171 N k_69 x1 x2 x3 x4 x6 v_planned v_planLine v_planWay v_shelf v_many v_items = some (r, w_planned, w_planLine, w_planWay) → va_P D mm_cl (wd_X9 cI cL cS cH a v_keptMany v_done v_rowsOf v_columnsOf v_folded v_wronged v_tapeMany v_textMany v_base v_at v_ends v_fault v_opened v_bentMany v_bentWrong v_moreWorn v_planned v_allWrong v_allWorn v_z v_wishedField v_isFound v_bestWrong v_bestWorn v_bestMany v_soughtBy v_sought v_soughtAt v_foundMany v_foundOrder v_isKept v_imageRows v_imageColumns v_imageFolded v_imageWronged v_bodies v_ran v_ownKind v_ownNumber v_limit v_changeWas v_changeIs v_shapeRows v_shapeColumns v_row v_column v_below v_face v_worn v_lastBend v_tape v_text v_names v_bends v_high v_to v_pileSize v_planLine v_planWay v_way1 v_bestWay v_order1 v_placeIn v_bodyKind v_trace v_shelf v_many v_items v_carried) H → va_D A (wd_X9 cI cL cS cH a v_keptMany v_done v_rowsOf v_columnsOf v_folded v_wronged v_tapeMany v_textMany v_base v_at v_ends v_fault v_opened v_bentMany v_bentWrong v_moreWorn v_planned v_allWrong v_allWorn v_z v_wishedField v_isFound v_bestWrong v_bestWorn v_bestMany v_soughtBy v_sought v_soughtAt v_foundMany v_foundOrder v_isKept v_imageRows v_imageColumns v_imageFolded v_imageWronged v_bodies v_ran v_ownKind v_ownNumber v_limit v_changeWas v_changeIs v_shapeRows v_shapeColumns v_row v_column v_below v_face v_worn v_lastBend v_tape v_text v_names v_bends v_high v_to v_pileSize v_planLine v_planWay v_way1 v_bestWay v_order1 v_placeIn v_bodyKind v_trace v_shelf v_many v_items v_carried) → va_S A s.heap H locs → lv_has ls 7 [(0, .ref (a 0)), (1, .int x1), (2, .int x2), (3, .int x3), (4, .int x4), (6, .int x6)] → W p l e (mm_rr d) s m args below meth c H locs 0 0 (mm_Z below D A (wd_X9 cI cL cS cH a v_keptMany v_done v_rowsOf v_columnsOf v_folded v_wronged v_tapeMany v_textMany v_base v_at v_ends v_fault v_opened v_bentMany v_bentWrong v_moreWorn w_planned v_allWrong v_allWorn v_z v_wishedField v_isFound v_bestWrong v_bestWorn v_bestMany v_soughtBy v_sought v_soughtAt v_foundMany v_foundOrder v_isKept v_imageRows v_imageColumns v_imageFolded v_imageWronged v_bodies v_ran v_ownKind v_ownNumber v_limit v_changeWas v_changeIs v_shapeRows v_shapeColumns v_row v_column v_below v_face v_worn v_lastBend v_tape v_text v_names v_bends v_high v_to v_pileSize w_planLine w_planWay v_way1 v_bestWay v_order1 v_placeIn v_bodyKind v_trace v_shelf v_many v_items v_carried) (some (.int r)) args s) (F0 m 171 ls []) := by
  obtain ⟨hx, hb, hml, hown, hts, hr, hlocks, hK, hSt⟩ := id C0
  intro x1 x2 x3 x4 x6 v_planned v_planLine v_planWay v_shelf v_many v_items H locs ls hf hP hD hS hl
  unfold fX9_plans_171 at hf
  refine lv_iconst (v := 0) hx hb dX9_plans_171 (by decide) ?_
  exact tX9_plans_172 hd C0 hA N hk_69 _ _ _ _ _ _ _ _ _ _ _ _ H locs ls hf hP hD hS (lv_sub hl [0, 1, 2, 3, 4, 5] rfl)

def fX9_plans_111 (N : Nat) (k_69 : Int32 → Int32 → Int32 → Int32 → Int32 → Int32 → List Int32 → List Int32 → List Int32 → List Int32 → List Int64 → Option (Int32 × Int32 × List Int32 × List Int32)) (x1 : Int32) (x2 : Int32) (x3 : Int32) (x4 : Int32) (s0 : Int32) (v_planned : Int32) (v_planLine : List Int32) (v_planWay : List Int32) (v_shelf : List Int32) (v_many : List Int32) (v_items : List Int64) : Option (Int32 × Int32 × List Int32 × List Int32) :=
    mm_nm (((((60 : Int32) * x1) + x2) + ((2 : Int32) * x4))) (fun (y_19 : Int32) =>
    if s0 = 0 then
    (fX9_plans_171 N k_69 x1 x2 x3 x4 y_19 v_planned v_planLine v_planWay v_shelf v_many v_items)
    else (mm_ck (mm_inb y_19 v_items.length) (mm_bd1 (fX9_within N (mm_lg v_items y_19) (1 : Int64) (7 : Int64)) (fun (r_22 : Bool) =>
    if r_22 = false then
    (fX9_plans_171 N k_69 x1 x2 x3 x4 y_19 v_planned v_planLine v_planWay v_shelf v_many v_items)
    else (mm_ck (mm_inb (y_19 + (1 : Int32)) v_items.length) (mm_bd1 (fX9_within N (mm_lg v_items (y_19 + (1 : Int32))) (0 : Int64) (7 : Int64)) (fun (r_26 : Bool) =>
    if r_26 = false then
    (fX9_plans_171 N k_69 x1 x2 x3 x4 y_19 v_planned v_planLine v_planWay v_shelf v_many v_items)
    else (fX9_plans_172 N k_69 x1 x2 x3 x4 y_19 (1 : Int32) v_planned v_planLine v_planWay v_shelf v_many v_items))))))))

set_option maxHeartbeats 4000000 in
set_option maxRecDepth 100000 in
theorem tX9_plans_111 {p : Program} {l : Launch} {e : Env} {s : State} {m : MethodId} {args : Array Value} {below : List Frame} {meth : Method} {c : Code} {D : va_G} {cI cL cS cH : ClassId} {A : Nat → Prop} {d : Nat} {a : Nat → Nat} (hd : 3 ≤ d) (C0 : mm_Cx p s m args meth c RX9 cX9_plans 7 (some .int) D (mm_T cI cL cS cH) A) (hA : ∀ q, s.heap.size ≤ q → A q) {v_keptMany : Int32} {v_done : Int32} {v_rowsOf : Int32} {v_columnsOf : Int32} {v_folded : Int32} {v_wronged : Int32} {v_tapeMany : Int32} {v_textMany : Int32} {v_base : Int32} {v_at : Int32} {v_ends : Int32} {v_fault : Int32} {v_opened : Int32} {v_bentMany : Int32} {v_bentWrong : Int32} {v_moreWorn : Int32} {v_allWrong : Int32} {v_allWorn : Int32} {v_z : Int32} {v_wishedField : Int32} {v_isFound : Bool} {v_bestWrong : Int32} {v_bestWorn : Int32} {v_bestMany : Int32} {v_soughtBy : Int32} {v_sought : Int32} {v_soughtAt : Int32} {v_foundMany : Int32} {v_foundOrder : Int32} {v_isKept : Bool} {v_imageRows : Int32} {v_imageColumns : Int32} {v_imageFolded : Int32} {v_imageWronged : Int32} {v_bodies : Int32} {v_ran : Int32} {v_ownKind : Int32} {v_ownNumber : Int32} {v_limit : List Int32} {v_changeWas : List Int32} {v_changeIs : List Int32} {v_shapeRows : List Int32} {v_shapeColumns : List Int32} {v_row : List Int32} {v_column : List Int32} {v_below : List Int32} {v_face : List Int32} {v_worn : List Int32} {v_lastBend : List Int32} {v_tape : List Int32} {v_text : List Int32} {v_names : List Int32} {v_bends : List Int32} {v_high : List Int32} {v_to : List Int32} {v_pileSize : List Int32} {v_way1 : List Int32} {v_bestWay : List Int32} {v_order1 : List Int32} {v_placeIn : List Int32} {v_bodyKind : List Int32} {v_trace : List Int32} {v_carried : List Int64} {r : Int32} {w_planned : Int32} {w_planLine : List Int32} {w_planWay : List Int32} (N : Nat) {k_69 : Int32 → Int32 → Int32 → Int32 → Int32 → Int32 → List Int32 → List Int32 → List Int32 → List Int32 → List Int64 → Option (Int32 × Int32 × List Int32 × List Int32)} (hk_69 : ∀ (x1 : Int32) (x2 : Int32) (x3 : Int32) (x4 : Int32) (x5 : Int32) (v_planned : Int32) (v_planLine : List Int32) (v_planWay : List Int32) (v_shelf : List Int32) (v_many : List Int32) (v_items : List Int64) (H : Heap) (locs : List Loc) (ls : Array Slot), k_69 x1 x2 x3 x4 x5 v_planned v_planLine v_planWay v_shelf v_many v_items = some (r, w_planned, w_planLine, w_planWay) → va_P D mm_cl (wd_X9 cI cL cS cH a v_keptMany v_done v_rowsOf v_columnsOf v_folded v_wronged v_tapeMany v_textMany v_base v_at v_ends v_fault v_opened v_bentMany v_bentWrong v_moreWorn v_planned v_allWrong v_allWorn v_z v_wishedField v_isFound v_bestWrong v_bestWorn v_bestMany v_soughtBy v_sought v_soughtAt v_foundMany v_foundOrder v_isKept v_imageRows v_imageColumns v_imageFolded v_imageWronged v_bodies v_ran v_ownKind v_ownNumber v_limit v_changeWas v_changeIs v_shapeRows v_shapeColumns v_row v_column v_below v_face v_worn v_lastBend v_tape v_text v_names v_bends v_high v_to v_pileSize v_planLine v_planWay v_way1 v_bestWay v_order1 v_placeIn v_bodyKind v_trace v_shelf v_many v_items v_carried) H → va_D A (wd_X9 cI cL cS cH a v_keptMany v_done v_rowsOf v_columnsOf v_folded v_wronged v_tapeMany v_textMany v_base v_at v_ends v_fault v_opened v_bentMany v_bentWrong v_moreWorn v_planned v_allWrong v_allWorn v_z v_wishedField v_isFound v_bestWrong v_bestWorn v_bestMany v_soughtBy v_sought v_soughtAt v_foundMany v_foundOrder v_isKept v_imageRows v_imageColumns v_imageFolded v_imageWronged v_bodies v_ran v_ownKind v_ownNumber v_limit v_changeWas v_changeIs v_shapeRows v_shapeColumns v_row v_column v_below v_face v_worn v_lastBend v_tape v_text v_names v_bends v_high v_to v_pileSize v_planLine v_planWay v_way1 v_bestWay v_order1 v_placeIn v_bodyKind v_trace v_shelf v_many v_items v_carried) → va_S A s.heap H locs → lv_has ls 7 [(0, .ref (a 0)), (1, .int x1), (2, .int x2), (3, .int x3), (4, .int x4), (5, .int x5)] → W p l e (mm_rr d) s m args below meth c H locs 0 0 (mm_Z below D A (wd_X9 cI cL cS cH a v_keptMany v_done v_rowsOf v_columnsOf v_folded v_wronged v_tapeMany v_textMany v_base v_at v_ends v_fault v_opened v_bentMany v_bentWrong v_moreWorn w_planned v_allWrong v_allWorn v_z v_wishedField v_isFound v_bestWrong v_bestWorn v_bestMany v_soughtBy v_sought v_soughtAt v_foundMany v_foundOrder v_isKept v_imageRows v_imageColumns v_imageFolded v_imageWronged v_bodies v_ran v_ownKind v_ownNumber v_limit v_changeWas v_changeIs v_shapeRows v_shapeColumns v_row v_column v_below v_face v_worn v_lastBend v_tape v_text v_names v_bends v_high v_to v_pileSize w_planLine w_planWay v_way1 v_bestWay v_order1 v_placeIn v_bodyKind v_trace v_shelf v_many v_items v_carried) (some (.int r)) args s) (F0 m 69 ls [])) : ∀ (x1 : Int32) (x2 : Int32) (x3 : Int32) (x4 : Int32) (s0 : Int32) (v_planned : Int32) (v_planLine : List Int32) (v_planWay : List Int32) (v_shelf : List Int32) (v_many : List Int32) (v_items : List Int64) (H : Heap) (locs : List Loc) (ls : Array Slot), fX9_plans_111 N k_69 x1 x2 x3 x4 s0 v_planned v_planLine v_planWay v_shelf v_many v_items = some (r, w_planned, w_planLine, w_planWay) → va_P D mm_cl (wd_X9 cI cL cS cH a v_keptMany v_done v_rowsOf v_columnsOf v_folded v_wronged v_tapeMany v_textMany v_base v_at v_ends v_fault v_opened v_bentMany v_bentWrong v_moreWorn v_planned v_allWrong v_allWorn v_z v_wishedField v_isFound v_bestWrong v_bestWorn v_bestMany v_soughtBy v_sought v_soughtAt v_foundMany v_foundOrder v_isKept v_imageRows v_imageColumns v_imageFolded v_imageWronged v_bodies v_ran v_ownKind v_ownNumber v_limit v_changeWas v_changeIs v_shapeRows v_shapeColumns v_row v_column v_below v_face v_worn v_lastBend v_tape v_text v_names v_bends v_high v_to v_pileSize v_planLine v_planWay v_way1 v_bestWay v_order1 v_placeIn v_bodyKind v_trace v_shelf v_many v_items v_carried) H → va_D A (wd_X9 cI cL cS cH a v_keptMany v_done v_rowsOf v_columnsOf v_folded v_wronged v_tapeMany v_textMany v_base v_at v_ends v_fault v_opened v_bentMany v_bentWrong v_moreWorn v_planned v_allWrong v_allWorn v_z v_wishedField v_isFound v_bestWrong v_bestWorn v_bestMany v_soughtBy v_sought v_soughtAt v_foundMany v_foundOrder v_isKept v_imageRows v_imageColumns v_imageFolded v_imageWronged v_bodies v_ran v_ownKind v_ownNumber v_limit v_changeWas v_changeIs v_shapeRows v_shapeColumns v_row v_column v_below v_face v_worn v_lastBend v_tape v_text v_names v_bends v_high v_to v_pileSize v_planLine v_planWay v_way1 v_bestWay v_order1 v_placeIn v_bodyKind v_trace v_shelf v_many v_items v_carried) → va_S A s.heap H locs → lv_has ls 7 [(0, .ref (a 0)), (1, .int x1), (2, .int x2), (3, .int x3), (4, .int x4)] → W p l e (mm_rr d) s m args below meth c H locs 0 0 (mm_Z below D A (wd_X9 cI cL cS cH a v_keptMany v_done v_rowsOf v_columnsOf v_folded v_wronged v_tapeMany v_textMany v_base v_at v_ends v_fault v_opened v_bentMany v_bentWrong v_moreWorn w_planned v_allWrong v_allWorn v_z v_wishedField v_isFound v_bestWrong v_bestWorn v_bestMany v_soughtBy v_sought v_soughtAt v_foundMany v_foundOrder v_isKept v_imageRows v_imageColumns v_imageFolded v_imageWronged v_bodies v_ran v_ownKind v_ownNumber v_limit v_changeWas v_changeIs v_shapeRows v_shapeColumns v_row v_column v_below v_face v_worn v_lastBend v_tape v_text v_names v_bends v_high v_to v_pileSize w_planLine w_planWay v_way1 v_bestWay v_order1 v_placeIn v_bodyKind v_trace v_shelf v_many v_items v_carried) (some (.int r)) args s) (F0 m 111 ls [.int s0]) := by
  obtain ⟨hx, hb, hml, hown, hts, hr, hlocks, hK, hSt⟩ := id C0
  intro x1 x2 x3 x4 s0 v_planned v_planLine v_planWay v_shelf v_many v_items H locs ls hf hP hD hS hl
  unfold fX9_plans_111 at hf
  refine lv_istore (lv' := [(5, .int s0), (0, .ref (a 0)), (1, .int x1), (2, .int x2), (3, .int x3), (4, .int x4)]) hx hb dX9_plans_111 hl (by decide) rfl (fun ls hl => ?_)
  refine lv_bipush (v := 60) hx hb dX9_plans_113 (by decide) ?_
  refine lv_iload_n hx hb dX9_plans_115 rfl (lv_at hl 2 rfl) ?_
  refine lv_imul hx hb dX9_plans_116 ?_
  refine lv_iload_n hx hb dX9_plans_117 rfl (lv_at hl 3 rfl) ?_
  refine lv_iadd hx hb dX9_plans_118 ?_
  refine lv_iconst (v := 2) hx hb dX9_plans_119 (by decide) ?_
  refine lv_iload hx hb dX9_plans_120 (lv_at hl 5 rfl) ?_
  refine lv_imul hx hb dX9_plans_122 ?_
  refine lv_iadd hx hb dX9_plans_123 ?_
  refine lv_topi (fun y_19 ey_19 => ?_)
  have hf := mm_nms hf ey_19
  refine lv_istore (lv' := [(6, .int y_19), (5, .int s0), (0, .ref (a 0)), (1, .int x1), (2, .int x2), (3, .int x3), (4, .int x4)]) hx hb dX9_plans_124 hl (by decide) rfl (fun ls hl => ?_)
  refine lv_iload hx hb dX9_plans_126 (lv_at hl 1 rfl) ?_
  refine lv_if_eq (tgt := 171) hx hb dX9_plans_128 (by decide) (fun c_20 => ?_) (fun c_20 => ?_)
  · have hf := mm_ip hf c_20
    exact tX9_plans_171 hd C0 hA N hk_69 _ _ _ _ _ _ _ _ _ _ _ H locs ls hf hP hD hS (lv_sub hl [2, 3, 4, 5, 6, 0] rfl)
  · have hf := mm_in hf c_20
    refine lv_aload_n hx hb dX9_plans_131 rfl (lv_at hl 2 rfl) ?_
    refine mm_get C0 hP iw_X9 0 rfl rfl 67 (by decide) fl_X9_94 rfl dX9_plans_132 ?_
    refine lv_iload hx hb dX9_plans_135 (lv_at hl 0 rfl) ?_
    obtain ⟨h_21, hf⟩ := mm_cks hf
    refine mm_lald C0 hP 29 rfl h_21 dX9_plans_137 ?_
    refine lv_lconst (v := 1) hx hb dX9_plans_138 (by decide) ?_
    refine lv_ldc2 hx hb hown (hts _ kc_X9_238) dX9_plans_139 ?_
    obtain ⟨r_22, hc_23, hf⟩ := mm_bd1s hf
    refine mm_callS0 (rest := []) C0 lk_X9_111 (ctX9_within (d := d - 1) (by omega) hc_23) (by omega) rfl hl.1 rfl (mm_cat rfl) dX9_plans_142 hP hD hA hS (fun H locs hP hS => ?_)
    refine W.eq (g2 := F0 m 145 ls [.int (mm_b r_22)]) rfl ?_
    refine lv_if_eq (tgt := 171) hx hb dX9_plans_145 (by decide) (fun c_24 => ?_) (fun c_24 => ?_)
    · have hf := mm_ip hf (mm_b0 c_24)
      exact tX9_plans_171 hd C0 hA N hk_69 _ _ _ _ _ _ _ _ _ _ _ H locs ls hf hP hD hS (lv_sub hl [2, 3, 4, 5, 6, 0] rfl)
    · have hf := mm_in hf (mm_b1 c_24)
      refine lv_aload_n hx hb dX9_plans_148 rfl (lv_at hl 2 rfl) ?_
      refine mm_get C0 hP iw_X9 0 rfl rfl 67 (by decide) fl_X9_94 rfl dX9_plans_149 ?_
      refine lv_iload hx hb dX9_plans_152 (lv_at hl 0 rfl) ?_
      refine lv_iconst (v := 1) hx hb dX9_plans_154 (by decide) ?_
      refine lv_iadd hx hb dX9_plans_155 ?_
      obtain ⟨h_25, hf⟩ := mm_cks hf
      refine mm_lald C0 hP 29 rfl h_25 dX9_plans_156 ?_
      refine lv_lconst (v := 0) hx hb dX9_plans_157 (by decide) ?_
      refine lv_ldc2 hx hb hown (hts _ kc_X9_238) dX9_plans_158 ?_
      obtain ⟨r_26, hc_27, hf⟩ := mm_bd1s hf
      refine mm_callS0 (rest := []) C0 lk_X9_111 (ctX9_within (d := d - 1) (by omega) hc_27) (by omega) rfl hl.1 rfl (mm_cat rfl) dX9_plans_161 hP hD hA hS (fun H locs hP hS => ?_)
      refine W.eq (g2 := F0 m 164 ls [.int (mm_b r_26)]) rfl ?_
      refine lv_if_eq (tgt := 171) hx hb dX9_plans_164 (by decide) (fun c_28 => ?_) (fun c_28 => ?_)
      · have hf := mm_ip hf (mm_b0 c_28)
        exact tX9_plans_171 hd C0 hA N hk_69 _ _ _ _ _ _ _ _ _ _ _ H locs ls hf hP hD hS (lv_sub hl [2, 3, 4, 5, 6, 0] rfl)
      · have hf := mm_in hf (mm_b1 c_28)
        refine lv_iconst (v := 1) hx hb dX9_plans_167 (by decide) ?_
        refine lv_goto (tgt := 172) hx hb dX9_plans_168 (by decide) ?_
        exact tX9_plans_172 hd C0 hA N hk_69 _ _ _ _ _ _ _ _ _ _ _ _ H locs ls hf hP hD hS (lv_sub hl [2, 3, 4, 5, 6, 0] rfl)

def fX9_plans_110 (N : Nat) (k_69 : Int32 → Int32 → Int32 → Int32 → Int32 → Int32 → List Int32 → List Int32 → List Int32 → List Int32 → List Int64 → Option (Int32 × Int32 × List Int32 × List Int32)) (x1 : Int32) (x2 : Int32) (x3 : Int32) (x4 : Int32) (v_planned : Int32) (v_planLine : List Int32) (v_planWay : List Int32) (v_shelf : List Int32) (v_many : List Int32) (v_items : List Int64) : Option (Int32 × Int32 × List Int32 × List Int32) :=
    fX9_plans_111 N k_69 x1 x2 x3 x4 (0 : Int32) v_planned v_planLine v_planWay v_shelf v_many v_items

set_option maxHeartbeats 4000000 in
set_option maxRecDepth 100000 in
theorem tX9_plans_110 {p : Program} {l : Launch} {e : Env} {s : State} {m : MethodId} {args : Array Value} {below : List Frame} {meth : Method} {c : Code} {D : va_G} {cI cL cS cH : ClassId} {A : Nat → Prop} {d : Nat} {a : Nat → Nat} (hd : 3 ≤ d) (C0 : mm_Cx p s m args meth c RX9 cX9_plans 7 (some .int) D (mm_T cI cL cS cH) A) (hA : ∀ q, s.heap.size ≤ q → A q) {v_keptMany : Int32} {v_done : Int32} {v_rowsOf : Int32} {v_columnsOf : Int32} {v_folded : Int32} {v_wronged : Int32} {v_tapeMany : Int32} {v_textMany : Int32} {v_base : Int32} {v_at : Int32} {v_ends : Int32} {v_fault : Int32} {v_opened : Int32} {v_bentMany : Int32} {v_bentWrong : Int32} {v_moreWorn : Int32} {v_allWrong : Int32} {v_allWorn : Int32} {v_z : Int32} {v_wishedField : Int32} {v_isFound : Bool} {v_bestWrong : Int32} {v_bestWorn : Int32} {v_bestMany : Int32} {v_soughtBy : Int32} {v_sought : Int32} {v_soughtAt : Int32} {v_foundMany : Int32} {v_foundOrder : Int32} {v_isKept : Bool} {v_imageRows : Int32} {v_imageColumns : Int32} {v_imageFolded : Int32} {v_imageWronged : Int32} {v_bodies : Int32} {v_ran : Int32} {v_ownKind : Int32} {v_ownNumber : Int32} {v_limit : List Int32} {v_changeWas : List Int32} {v_changeIs : List Int32} {v_shapeRows : List Int32} {v_shapeColumns : List Int32} {v_row : List Int32} {v_column : List Int32} {v_below : List Int32} {v_face : List Int32} {v_worn : List Int32} {v_lastBend : List Int32} {v_tape : List Int32} {v_text : List Int32} {v_names : List Int32} {v_bends : List Int32} {v_high : List Int32} {v_to : List Int32} {v_pileSize : List Int32} {v_way1 : List Int32} {v_bestWay : List Int32} {v_order1 : List Int32} {v_placeIn : List Int32} {v_bodyKind : List Int32} {v_trace : List Int32} {v_carried : List Int64} {r : Int32} {w_planned : Int32} {w_planLine : List Int32} {w_planWay : List Int32} (N : Nat) {k_69 : Int32 → Int32 → Int32 → Int32 → Int32 → Int32 → List Int32 → List Int32 → List Int32 → List Int32 → List Int64 → Option (Int32 × Int32 × List Int32 × List Int32)} (hk_69 : ∀ (x1 : Int32) (x2 : Int32) (x3 : Int32) (x4 : Int32) (x5 : Int32) (v_planned : Int32) (v_planLine : List Int32) (v_planWay : List Int32) (v_shelf : List Int32) (v_many : List Int32) (v_items : List Int64) (H : Heap) (locs : List Loc) (ls : Array Slot), k_69 x1 x2 x3 x4 x5 v_planned v_planLine v_planWay v_shelf v_many v_items = some (r, w_planned, w_planLine, w_planWay) → va_P D mm_cl (wd_X9 cI cL cS cH a v_keptMany v_done v_rowsOf v_columnsOf v_folded v_wronged v_tapeMany v_textMany v_base v_at v_ends v_fault v_opened v_bentMany v_bentWrong v_moreWorn v_planned v_allWrong v_allWorn v_z v_wishedField v_isFound v_bestWrong v_bestWorn v_bestMany v_soughtBy v_sought v_soughtAt v_foundMany v_foundOrder v_isKept v_imageRows v_imageColumns v_imageFolded v_imageWronged v_bodies v_ran v_ownKind v_ownNumber v_limit v_changeWas v_changeIs v_shapeRows v_shapeColumns v_row v_column v_below v_face v_worn v_lastBend v_tape v_text v_names v_bends v_high v_to v_pileSize v_planLine v_planWay v_way1 v_bestWay v_order1 v_placeIn v_bodyKind v_trace v_shelf v_many v_items v_carried) H → va_D A (wd_X9 cI cL cS cH a v_keptMany v_done v_rowsOf v_columnsOf v_folded v_wronged v_tapeMany v_textMany v_base v_at v_ends v_fault v_opened v_bentMany v_bentWrong v_moreWorn v_planned v_allWrong v_allWorn v_z v_wishedField v_isFound v_bestWrong v_bestWorn v_bestMany v_soughtBy v_sought v_soughtAt v_foundMany v_foundOrder v_isKept v_imageRows v_imageColumns v_imageFolded v_imageWronged v_bodies v_ran v_ownKind v_ownNumber v_limit v_changeWas v_changeIs v_shapeRows v_shapeColumns v_row v_column v_below v_face v_worn v_lastBend v_tape v_text v_names v_bends v_high v_to v_pileSize v_planLine v_planWay v_way1 v_bestWay v_order1 v_placeIn v_bodyKind v_trace v_shelf v_many v_items v_carried) → va_S A s.heap H locs → lv_has ls 7 [(0, .ref (a 0)), (1, .int x1), (2, .int x2), (3, .int x3), (4, .int x4), (5, .int x5)] → W p l e (mm_rr d) s m args below meth c H locs 0 0 (mm_Z below D A (wd_X9 cI cL cS cH a v_keptMany v_done v_rowsOf v_columnsOf v_folded v_wronged v_tapeMany v_textMany v_base v_at v_ends v_fault v_opened v_bentMany v_bentWrong v_moreWorn w_planned v_allWrong v_allWorn v_z v_wishedField v_isFound v_bestWrong v_bestWorn v_bestMany v_soughtBy v_sought v_soughtAt v_foundMany v_foundOrder v_isKept v_imageRows v_imageColumns v_imageFolded v_imageWronged v_bodies v_ran v_ownKind v_ownNumber v_limit v_changeWas v_changeIs v_shapeRows v_shapeColumns v_row v_column v_below v_face v_worn v_lastBend v_tape v_text v_names v_bends v_high v_to v_pileSize w_planLine w_planWay v_way1 v_bestWay v_order1 v_placeIn v_bodyKind v_trace v_shelf v_many v_items v_carried) (some (.int r)) args s) (F0 m 69 ls [])) : ∀ (x1 : Int32) (x2 : Int32) (x3 : Int32) (x4 : Int32) (v_planned : Int32) (v_planLine : List Int32) (v_planWay : List Int32) (v_shelf : List Int32) (v_many : List Int32) (v_items : List Int64) (H : Heap) (locs : List Loc) (ls : Array Slot), fX9_plans_110 N k_69 x1 x2 x3 x4 v_planned v_planLine v_planWay v_shelf v_many v_items = some (r, w_planned, w_planLine, w_planWay) → va_P D mm_cl (wd_X9 cI cL cS cH a v_keptMany v_done v_rowsOf v_columnsOf v_folded v_wronged v_tapeMany v_textMany v_base v_at v_ends v_fault v_opened v_bentMany v_bentWrong v_moreWorn v_planned v_allWrong v_allWorn v_z v_wishedField v_isFound v_bestWrong v_bestWorn v_bestMany v_soughtBy v_sought v_soughtAt v_foundMany v_foundOrder v_isKept v_imageRows v_imageColumns v_imageFolded v_imageWronged v_bodies v_ran v_ownKind v_ownNumber v_limit v_changeWas v_changeIs v_shapeRows v_shapeColumns v_row v_column v_below v_face v_worn v_lastBend v_tape v_text v_names v_bends v_high v_to v_pileSize v_planLine v_planWay v_way1 v_bestWay v_order1 v_placeIn v_bodyKind v_trace v_shelf v_many v_items v_carried) H → va_D A (wd_X9 cI cL cS cH a v_keptMany v_done v_rowsOf v_columnsOf v_folded v_wronged v_tapeMany v_textMany v_base v_at v_ends v_fault v_opened v_bentMany v_bentWrong v_moreWorn v_planned v_allWrong v_allWorn v_z v_wishedField v_isFound v_bestWrong v_bestWorn v_bestMany v_soughtBy v_sought v_soughtAt v_foundMany v_foundOrder v_isKept v_imageRows v_imageColumns v_imageFolded v_imageWronged v_bodies v_ran v_ownKind v_ownNumber v_limit v_changeWas v_changeIs v_shapeRows v_shapeColumns v_row v_column v_below v_face v_worn v_lastBend v_tape v_text v_names v_bends v_high v_to v_pileSize v_planLine v_planWay v_way1 v_bestWay v_order1 v_placeIn v_bodyKind v_trace v_shelf v_many v_items v_carried) → va_S A s.heap H locs → lv_has ls 7 [(0, .ref (a 0)), (1, .int x1), (2, .int x2), (3, .int x3), (4, .int x4)] → W p l e (mm_rr d) s m args below meth c H locs 0 0 (mm_Z below D A (wd_X9 cI cL cS cH a v_keptMany v_done v_rowsOf v_columnsOf v_folded v_wronged v_tapeMany v_textMany v_base v_at v_ends v_fault v_opened v_bentMany v_bentWrong v_moreWorn w_planned v_allWrong v_allWorn v_z v_wishedField v_isFound v_bestWrong v_bestWorn v_bestMany v_soughtBy v_sought v_soughtAt v_foundMany v_foundOrder v_isKept v_imageRows v_imageColumns v_imageFolded v_imageWronged v_bodies v_ran v_ownKind v_ownNumber v_limit v_changeWas v_changeIs v_shapeRows v_shapeColumns v_row v_column v_below v_face v_worn v_lastBend v_tape v_text v_names v_bends v_high v_to v_pileSize w_planLine w_planWay v_way1 v_bestWay v_order1 v_placeIn v_bodyKind v_trace v_shelf v_many v_items v_carried) (some (.int r)) args s) (F0 m 110 ls []) := by
  obtain ⟨hx, hb, hml, hown, hts, hr, hlocks, hK, hSt⟩ := id C0
  intro x1 x2 x3 x4 v_planned v_planLine v_planWay v_shelf v_many v_items H locs ls hf hP hD hS hl
  unfold fX9_plans_110 at hf
  refine lv_iconst (v := 0) hx hb dX9_plans_110 (by decide) ?_
  exact tX9_plans_111 hd C0 hA N hk_69 _ _ _ _ _ _ _ _ _ _ _ H locs ls hf hP hD hS (lv_sub hl [0, 1, 2, 3, 4] rfl)

def fX9_plans_69 (N : Nat)  : Nat → Int32 → Int32 → Int32 → Int32 → Int32 → Int32 → List Int32 → List Int32 → List Int32 → List Int32 → List Int64 → Option (Int32 × Int32 × List Int32 × List Int32)
  | 0 => fun _ _ _ _ _ _ _ _ _ _ _ => none
  | n + 1 => fun x1 x2 x3 x4 x5 v_planned v_planLine v_planWay v_shelf v_many v_items =>
    if x5 = 0 then
    (some (x4, v_planned, v_planLine, v_planWay))
    else (if x3 ≤ x4 then
    (some (x4, v_planned, v_planLine, v_planWay))
    else (mm_ck (mm_inb x1 v_many.length) (if (((mm_ig v_many x1) - (2 : Int32)) - ((2 : Int32) * x4)) < x2 then
    (fX9_plans_110 N (fX9_plans_69 N n) x1 x2 x3 x4 v_planned v_planLine v_planWay v_shelf v_many v_items)
    else (if (12 : Int32) ≤ v_planned then
    (fX9_plans_110 N (fX9_plans_69 N n) x1 x2 x3 x4 v_planned v_planLine v_planWay v_shelf v_many v_items)
    else (fX9_plans_111 N (fX9_plans_69 N n) x1 x2 x3 x4 (1 : Int32) v_planned v_planLine v_planWay v_shelf v_many v_items)))))

set_option maxHeartbeats 4000000 in
set_option maxRecDepth 100000 in
theorem tX9_plans_69 {p : Program} {l : Launch} {e : Env} {s : State} {m : MethodId} {args : Array Value} {below : List Frame} {meth : Method} {c : Code} {D : va_G} {cI cL cS cH : ClassId} {A : Nat → Prop} {d : Nat} {a : Nat → Nat} (hd : 3 ≤ d) (C0 : mm_Cx p s m args meth c RX9 cX9_plans 7 (some .int) D (mm_T cI cL cS cH) A) (hA : ∀ q, s.heap.size ≤ q → A q) {v_keptMany : Int32} {v_done : Int32} {v_rowsOf : Int32} {v_columnsOf : Int32} {v_folded : Int32} {v_wronged : Int32} {v_tapeMany : Int32} {v_textMany : Int32} {v_base : Int32} {v_at : Int32} {v_ends : Int32} {v_fault : Int32} {v_opened : Int32} {v_bentMany : Int32} {v_bentWrong : Int32} {v_moreWorn : Int32} {v_allWrong : Int32} {v_allWorn : Int32} {v_z : Int32} {v_wishedField : Int32} {v_isFound : Bool} {v_bestWrong : Int32} {v_bestWorn : Int32} {v_bestMany : Int32} {v_soughtBy : Int32} {v_sought : Int32} {v_soughtAt : Int32} {v_foundMany : Int32} {v_foundOrder : Int32} {v_isKept : Bool} {v_imageRows : Int32} {v_imageColumns : Int32} {v_imageFolded : Int32} {v_imageWronged : Int32} {v_bodies : Int32} {v_ran : Int32} {v_ownKind : Int32} {v_ownNumber : Int32} {v_limit : List Int32} {v_changeWas : List Int32} {v_changeIs : List Int32} {v_shapeRows : List Int32} {v_shapeColumns : List Int32} {v_row : List Int32} {v_column : List Int32} {v_below : List Int32} {v_face : List Int32} {v_worn : List Int32} {v_lastBend : List Int32} {v_tape : List Int32} {v_text : List Int32} {v_names : List Int32} {v_bends : List Int32} {v_high : List Int32} {v_to : List Int32} {v_pileSize : List Int32} {v_way1 : List Int32} {v_bestWay : List Int32} {v_order1 : List Int32} {v_placeIn : List Int32} {v_bodyKind : List Int32} {v_trace : List Int32} {v_carried : List Int64} {r : Int32} {w_planned : Int32} {w_planLine : List Int32} {w_planWay : List Int32} (N : Nat)  : ∀ (n : Nat), ∀ (x1 : Int32) (x2 : Int32) (x3 : Int32) (x4 : Int32) (x5 : Int32) (v_planned : Int32) (v_planLine : List Int32) (v_planWay : List Int32) (v_shelf : List Int32) (v_many : List Int32) (v_items : List Int64) (H : Heap) (locs : List Loc) (ls : Array Slot), fX9_plans_69 N n x1 x2 x3 x4 x5 v_planned v_planLine v_planWay v_shelf v_many v_items = some (r, w_planned, w_planLine, w_planWay) → va_P D mm_cl (wd_X9 cI cL cS cH a v_keptMany v_done v_rowsOf v_columnsOf v_folded v_wronged v_tapeMany v_textMany v_base v_at v_ends v_fault v_opened v_bentMany v_bentWrong v_moreWorn v_planned v_allWrong v_allWorn v_z v_wishedField v_isFound v_bestWrong v_bestWorn v_bestMany v_soughtBy v_sought v_soughtAt v_foundMany v_foundOrder v_isKept v_imageRows v_imageColumns v_imageFolded v_imageWronged v_bodies v_ran v_ownKind v_ownNumber v_limit v_changeWas v_changeIs v_shapeRows v_shapeColumns v_row v_column v_below v_face v_worn v_lastBend v_tape v_text v_names v_bends v_high v_to v_pileSize v_planLine v_planWay v_way1 v_bestWay v_order1 v_placeIn v_bodyKind v_trace v_shelf v_many v_items v_carried) H → va_D A (wd_X9 cI cL cS cH a v_keptMany v_done v_rowsOf v_columnsOf v_folded v_wronged v_tapeMany v_textMany v_base v_at v_ends v_fault v_opened v_bentMany v_bentWrong v_moreWorn v_planned v_allWrong v_allWorn v_z v_wishedField v_isFound v_bestWrong v_bestWorn v_bestMany v_soughtBy v_sought v_soughtAt v_foundMany v_foundOrder v_isKept v_imageRows v_imageColumns v_imageFolded v_imageWronged v_bodies v_ran v_ownKind v_ownNumber v_limit v_changeWas v_changeIs v_shapeRows v_shapeColumns v_row v_column v_below v_face v_worn v_lastBend v_tape v_text v_names v_bends v_high v_to v_pileSize v_planLine v_planWay v_way1 v_bestWay v_order1 v_placeIn v_bodyKind v_trace v_shelf v_many v_items v_carried) → va_S A s.heap H locs → lv_has ls 7 [(0, .ref (a 0)), (1, .int x1), (2, .int x2), (3, .int x3), (4, .int x4), (5, .int x5)] → W p l e (mm_rr d) s m args below meth c H locs 0 0 (mm_Z below D A (wd_X9 cI cL cS cH a v_keptMany v_done v_rowsOf v_columnsOf v_folded v_wronged v_tapeMany v_textMany v_base v_at v_ends v_fault v_opened v_bentMany v_bentWrong v_moreWorn w_planned v_allWrong v_allWorn v_z v_wishedField v_isFound v_bestWrong v_bestWorn v_bestMany v_soughtBy v_sought v_soughtAt v_foundMany v_foundOrder v_isKept v_imageRows v_imageColumns v_imageFolded v_imageWronged v_bodies v_ran v_ownKind v_ownNumber v_limit v_changeWas v_changeIs v_shapeRows v_shapeColumns v_row v_column v_below v_face v_worn v_lastBend v_tape v_text v_names v_bends v_high v_to v_pileSize w_planLine w_planWay v_way1 v_bestWay v_order1 v_placeIn v_bodyKind v_trace v_shelf v_many v_items v_carried) (some (.int r)) args s) (F0 m 69 ls []) := by
  obtain ⟨hx, hb, hml, hown, hts, hr, hlocks, hK, hSt⟩ := id C0
  intro n
  induction n with
  | zero =>
    intro x1 x2 x3 x4 x5 v_planned v_planLine v_planWay v_shelf v_many v_items H locs ls hf
    cases (show none = some _ from hf)
  | succ n ih =>
    intro x1 x2 x3 x4 x5 v_planned v_planLine v_planWay v_shelf v_many v_items H locs ls hf hP hD hS hl
    unfold fX9_plans_69 at hf
    refine lv_iload hx hb dX9_plans_69 (lv_at hl 5 rfl) ?_
    refine lv_if_eq (tgt := 231) hx hb dX9_plans_71 (by decide) (fun c_14 => ?_) (fun c_14 => ?_)
    · have hf := mm_ip hf c_14
      refine lv_iload hx hb dX9_plans_231 (lv_at hl 4 rfl) ?_
      apply mm_sub4 hf
      exact mm_iret C0 hP hD hS dX9_plans_233
    · have hf := mm_in hf c_14
      refine lv_iload hx hb dX9_plans_74 (lv_at hl 4 rfl) ?_
      refine lv_iload_n hx hb dX9_plans_76 rfl (lv_at hl 3 rfl) ?_
      refine lv_icmp_ge (tgt := 231) hx hb dX9_plans_77 (by decide) (fun c_15 => ?_) (fun c_15 => ?_)
      · have hf := mm_ip hf c_15
        refine lv_iload hx hb dX9_plans_231 (lv_at hl 4 rfl) ?_
        apply mm_sub4 hf
        exact mm_iret C0 hP hD hS dX9_plans_233
      · have hf := mm_in hf c_15
        refine lv_iload_n hx hb dX9_plans_80 rfl (lv_at hl 2 rfl) ?_
        refine lv_aload_n hx hb dX9_plans_81 rfl (lv_at hl 0 rfl) ?_
        refine mm_get C0 hP iw_X9 0 rfl rfl 66 (by decide) fl_X9_91 rfl dX9_plans_82 ?_
        refine lv_iload_n hx hb dX9_plans_85 rfl (lv_at hl 1 rfl) ?_
        obtain ⟨h_16, hf⟩ := mm_cks hf
        refine mm_iald C0 hP 28 rfl h_16 dX9_plans_86 ?_
        refine lv_iconst (v := 2) hx hb dX9_plans_87 (by decide) ?_
        refine lv_isub hx hb dX9_plans_88 ?_
        refine lv_iconst (v := 2) hx hb dX9_plans_89 (by decide) ?_
        refine lv_iload hx hb dX9_plans_90 (lv_at hl 4 rfl) ?_
        refine lv_imul hx hb dX9_plans_92 ?_
        refine lv_isub hx hb dX9_plans_93 ?_
        refine lv_icmp_gt (tgt := 110) hx hb dX9_plans_94 (by decide) (fun c_17 => ?_) (fun c_17 => ?_)
        · have hf := mm_ip hf c_17
          exact tX9_plans_110 hd C0 hA N ih _ _ _ _ _ _ _ _ _ _ H locs ls hf hP hD hS (lv_sub hl [0, 1, 2, 3, 4] rfl)
        · have hf := mm_in hf c_17
          refine lv_aload_n hx hb dX9_plans_97 rfl (lv_at hl 0 rfl) ?_
          refine mm_get C0 hP iw_X9 0 rfl rfl 36 (by decide) fl_X9_271 rfl dX9_plans_98 ?_
          refine lv_bipush (v := 12) hx hb dX9_plans_101 (by decide) ?_
          refine lv_icmp_ge (tgt := 110) hx hb dX9_plans_103 (by decide) (fun c_18 => ?_) (fun c_18 => ?_)
          · have hf := mm_ip hf c_18
            exact tX9_plans_110 hd C0 hA N ih _ _ _ _ _ _ _ _ _ _ H locs ls hf hP hD hS (lv_sub hl [0, 1, 2, 3, 4] rfl)
          · have hf := mm_in hf c_18
            refine lv_iconst (v := 1) hx hb dX9_plans_106 (by decide) ?_
            refine lv_goto (tgt := 111) hx hb dX9_plans_107 (by decide) ?_
            exact tX9_plans_111 hd C0 hA N ih _ _ _ _ _ _ _ _ _ _ _ H locs ls hf hP hD hS (lv_sub hl [0, 1, 2, 3, 4] rfl)

def fX9_plans_67 (N : Nat)  (x1 : Int32) (x2 : Int32) (x3 : Int32) (x4 : Int32) (s0 : Int32) (v_planned : Int32) (v_planLine : List Int32) (v_planWay : List Int32) (v_shelf : List Int32) (v_many : List Int32) (v_items : List Int64) : Option (Int32 × Int32 × List Int32 × List Int32) :=
    fX9_plans_69 N N x1 x2 x3 x4 s0 v_planned v_planLine v_planWay v_shelf v_many v_items

set_option maxHeartbeats 4000000 in
set_option maxRecDepth 100000 in
theorem tX9_plans_67 {p : Program} {l : Launch} {e : Env} {s : State} {m : MethodId} {args : Array Value} {below : List Frame} {meth : Method} {c : Code} {D : va_G} {cI cL cS cH : ClassId} {A : Nat → Prop} {d : Nat} {a : Nat → Nat} (hd : 3 ≤ d) (C0 : mm_Cx p s m args meth c RX9 cX9_plans 7 (some .int) D (mm_T cI cL cS cH) A) (hA : ∀ q, s.heap.size ≤ q → A q) {v_keptMany : Int32} {v_done : Int32} {v_rowsOf : Int32} {v_columnsOf : Int32} {v_folded : Int32} {v_wronged : Int32} {v_tapeMany : Int32} {v_textMany : Int32} {v_base : Int32} {v_at : Int32} {v_ends : Int32} {v_fault : Int32} {v_opened : Int32} {v_bentMany : Int32} {v_bentWrong : Int32} {v_moreWorn : Int32} {v_allWrong : Int32} {v_allWorn : Int32} {v_z : Int32} {v_wishedField : Int32} {v_isFound : Bool} {v_bestWrong : Int32} {v_bestWorn : Int32} {v_bestMany : Int32} {v_soughtBy : Int32} {v_sought : Int32} {v_soughtAt : Int32} {v_foundMany : Int32} {v_foundOrder : Int32} {v_isKept : Bool} {v_imageRows : Int32} {v_imageColumns : Int32} {v_imageFolded : Int32} {v_imageWronged : Int32} {v_bodies : Int32} {v_ran : Int32} {v_ownKind : Int32} {v_ownNumber : Int32} {v_limit : List Int32} {v_changeWas : List Int32} {v_changeIs : List Int32} {v_shapeRows : List Int32} {v_shapeColumns : List Int32} {v_row : List Int32} {v_column : List Int32} {v_below : List Int32} {v_face : List Int32} {v_worn : List Int32} {v_lastBend : List Int32} {v_tape : List Int32} {v_text : List Int32} {v_names : List Int32} {v_bends : List Int32} {v_high : List Int32} {v_to : List Int32} {v_pileSize : List Int32} {v_way1 : List Int32} {v_bestWay : List Int32} {v_order1 : List Int32} {v_placeIn : List Int32} {v_bodyKind : List Int32} {v_trace : List Int32} {v_carried : List Int64} {r : Int32} {w_planned : Int32} {w_planLine : List Int32} {w_planWay : List Int32} (N : Nat)  : ∀ (x1 : Int32) (x2 : Int32) (x3 : Int32) (x4 : Int32) (s0 : Int32) (v_planned : Int32) (v_planLine : List Int32) (v_planWay : List Int32) (v_shelf : List Int32) (v_many : List Int32) (v_items : List Int64) (H : Heap) (locs : List Loc) (ls : Array Slot), fX9_plans_67 N x1 x2 x3 x4 s0 v_planned v_planLine v_planWay v_shelf v_many v_items = some (r, w_planned, w_planLine, w_planWay) → va_P D mm_cl (wd_X9 cI cL cS cH a v_keptMany v_done v_rowsOf v_columnsOf v_folded v_wronged v_tapeMany v_textMany v_base v_at v_ends v_fault v_opened v_bentMany v_bentWrong v_moreWorn v_planned v_allWrong v_allWorn v_z v_wishedField v_isFound v_bestWrong v_bestWorn v_bestMany v_soughtBy v_sought v_soughtAt v_foundMany v_foundOrder v_isKept v_imageRows v_imageColumns v_imageFolded v_imageWronged v_bodies v_ran v_ownKind v_ownNumber v_limit v_changeWas v_changeIs v_shapeRows v_shapeColumns v_row v_column v_below v_face v_worn v_lastBend v_tape v_text v_names v_bends v_high v_to v_pileSize v_planLine v_planWay v_way1 v_bestWay v_order1 v_placeIn v_bodyKind v_trace v_shelf v_many v_items v_carried) H → va_D A (wd_X9 cI cL cS cH a v_keptMany v_done v_rowsOf v_columnsOf v_folded v_wronged v_tapeMany v_textMany v_base v_at v_ends v_fault v_opened v_bentMany v_bentWrong v_moreWorn v_planned v_allWrong v_allWorn v_z v_wishedField v_isFound v_bestWrong v_bestWorn v_bestMany v_soughtBy v_sought v_soughtAt v_foundMany v_foundOrder v_isKept v_imageRows v_imageColumns v_imageFolded v_imageWronged v_bodies v_ran v_ownKind v_ownNumber v_limit v_changeWas v_changeIs v_shapeRows v_shapeColumns v_row v_column v_below v_face v_worn v_lastBend v_tape v_text v_names v_bends v_high v_to v_pileSize v_planLine v_planWay v_way1 v_bestWay v_order1 v_placeIn v_bodyKind v_trace v_shelf v_many v_items v_carried) → va_S A s.heap H locs → lv_has ls 7 [(0, .ref (a 0)), (1, .int x1), (2, .int x2), (3, .int x3), (4, .int x4)] → W p l e (mm_rr d) s m args below meth c H locs 0 0 (mm_Z below D A (wd_X9 cI cL cS cH a v_keptMany v_done v_rowsOf v_columnsOf v_folded v_wronged v_tapeMany v_textMany v_base v_at v_ends v_fault v_opened v_bentMany v_bentWrong v_moreWorn w_planned v_allWrong v_allWorn v_z v_wishedField v_isFound v_bestWrong v_bestWorn v_bestMany v_soughtBy v_sought v_soughtAt v_foundMany v_foundOrder v_isKept v_imageRows v_imageColumns v_imageFolded v_imageWronged v_bodies v_ran v_ownKind v_ownNumber v_limit v_changeWas v_changeIs v_shapeRows v_shapeColumns v_row v_column v_below v_face v_worn v_lastBend v_tape v_text v_names v_bends v_high v_to v_pileSize w_planLine w_planWay v_way1 v_bestWay v_order1 v_placeIn v_bodyKind v_trace v_shelf v_many v_items v_carried) (some (.int r)) args s) (F0 m 67 ls [.int s0]) := by
  obtain ⟨hx, hb, hml, hown, hts, hr, hlocks, hK, hSt⟩ := id C0
  intro x1 x2 x3 x4 s0 v_planned v_planLine v_planWay v_shelf v_many v_items H locs ls hf hP hD hS hl
  unfold fX9_plans_67 at hf
  refine lv_istore (lv' := [(5, .int s0), (0, .ref (a 0)), (1, .int x1), (2, .int x2), (3, .int x3), (4, .int x4)]) hx hb dX9_plans_67 hl (by decide) rfl (fun ls hl => ?_)
  exact tX9_plans_69 hd C0 hA N  N _ _ _ _ _ _ _ _ _ _ _ H locs ls hf hP hD hS (lv_sub hl [1, 2, 3, 4, 5, 0] rfl)

def fX9_plans_66 (N : Nat)  (x1 : Int32) (x2 : Int32) (x3 : Int32) (x4 : Int32) (v_planned : Int32) (v_planLine : List Int32) (v_planWay : List Int32) (v_shelf : List Int32) (v_many : List Int32) (v_items : List Int64) : Option (Int32 × Int32 × List Int32 × List Int32) :=
    fX9_plans_67 N x1 x2 x3 x4 (0 : Int32) v_planned v_planLine v_planWay v_shelf v_many v_items

set_option maxHeartbeats 4000000 in
set_option maxRecDepth 100000 in
theorem tX9_plans_66 {p : Program} {l : Launch} {e : Env} {s : State} {m : MethodId} {args : Array Value} {below : List Frame} {meth : Method} {c : Code} {D : va_G} {cI cL cS cH : ClassId} {A : Nat → Prop} {d : Nat} {a : Nat → Nat} (hd : 3 ≤ d) (C0 : mm_Cx p s m args meth c RX9 cX9_plans 7 (some .int) D (mm_T cI cL cS cH) A) (hA : ∀ q, s.heap.size ≤ q → A q) {v_keptMany : Int32} {v_done : Int32} {v_rowsOf : Int32} {v_columnsOf : Int32} {v_folded : Int32} {v_wronged : Int32} {v_tapeMany : Int32} {v_textMany : Int32} {v_base : Int32} {v_at : Int32} {v_ends : Int32} {v_fault : Int32} {v_opened : Int32} {v_bentMany : Int32} {v_bentWrong : Int32} {v_moreWorn : Int32} {v_allWrong : Int32} {v_allWorn : Int32} {v_z : Int32} {v_wishedField : Int32} {v_isFound : Bool} {v_bestWrong : Int32} {v_bestWorn : Int32} {v_bestMany : Int32} {v_soughtBy : Int32} {v_sought : Int32} {v_soughtAt : Int32} {v_foundMany : Int32} {v_foundOrder : Int32} {v_isKept : Bool} {v_imageRows : Int32} {v_imageColumns : Int32} {v_imageFolded : Int32} {v_imageWronged : Int32} {v_bodies : Int32} {v_ran : Int32} {v_ownKind : Int32} {v_ownNumber : Int32} {v_limit : List Int32} {v_changeWas : List Int32} {v_changeIs : List Int32} {v_shapeRows : List Int32} {v_shapeColumns : List Int32} {v_row : List Int32} {v_column : List Int32} {v_below : List Int32} {v_face : List Int32} {v_worn : List Int32} {v_lastBend : List Int32} {v_tape : List Int32} {v_text : List Int32} {v_names : List Int32} {v_bends : List Int32} {v_high : List Int32} {v_to : List Int32} {v_pileSize : List Int32} {v_way1 : List Int32} {v_bestWay : List Int32} {v_order1 : List Int32} {v_placeIn : List Int32} {v_bodyKind : List Int32} {v_trace : List Int32} {v_carried : List Int64} {r : Int32} {w_planned : Int32} {w_planLine : List Int32} {w_planWay : List Int32} (N : Nat)  : ∀ (x1 : Int32) (x2 : Int32) (x3 : Int32) (x4 : Int32) (v_planned : Int32) (v_planLine : List Int32) (v_planWay : List Int32) (v_shelf : List Int32) (v_many : List Int32) (v_items : List Int64) (H : Heap) (locs : List Loc) (ls : Array Slot), fX9_plans_66 N x1 x2 x3 x4 v_planned v_planLine v_planWay v_shelf v_many v_items = some (r, w_planned, w_planLine, w_planWay) → va_P D mm_cl (wd_X9 cI cL cS cH a v_keptMany v_done v_rowsOf v_columnsOf v_folded v_wronged v_tapeMany v_textMany v_base v_at v_ends v_fault v_opened v_bentMany v_bentWrong v_moreWorn v_planned v_allWrong v_allWorn v_z v_wishedField v_isFound v_bestWrong v_bestWorn v_bestMany v_soughtBy v_sought v_soughtAt v_foundMany v_foundOrder v_isKept v_imageRows v_imageColumns v_imageFolded v_imageWronged v_bodies v_ran v_ownKind v_ownNumber v_limit v_changeWas v_changeIs v_shapeRows v_shapeColumns v_row v_column v_below v_face v_worn v_lastBend v_tape v_text v_names v_bends v_high v_to v_pileSize v_planLine v_planWay v_way1 v_bestWay v_order1 v_placeIn v_bodyKind v_trace v_shelf v_many v_items v_carried) H → va_D A (wd_X9 cI cL cS cH a v_keptMany v_done v_rowsOf v_columnsOf v_folded v_wronged v_tapeMany v_textMany v_base v_at v_ends v_fault v_opened v_bentMany v_bentWrong v_moreWorn v_planned v_allWrong v_allWorn v_z v_wishedField v_isFound v_bestWrong v_bestWorn v_bestMany v_soughtBy v_sought v_soughtAt v_foundMany v_foundOrder v_isKept v_imageRows v_imageColumns v_imageFolded v_imageWronged v_bodies v_ran v_ownKind v_ownNumber v_limit v_changeWas v_changeIs v_shapeRows v_shapeColumns v_row v_column v_below v_face v_worn v_lastBend v_tape v_text v_names v_bends v_high v_to v_pileSize v_planLine v_planWay v_way1 v_bestWay v_order1 v_placeIn v_bodyKind v_trace v_shelf v_many v_items v_carried) → va_S A s.heap H locs → lv_has ls 7 [(0, .ref (a 0)), (1, .int x1), (2, .int x2), (3, .int x3), (4, .int x4)] → W p l e (mm_rr d) s m args below meth c H locs 0 0 (mm_Z below D A (wd_X9 cI cL cS cH a v_keptMany v_done v_rowsOf v_columnsOf v_folded v_wronged v_tapeMany v_textMany v_base v_at v_ends v_fault v_opened v_bentMany v_bentWrong v_moreWorn w_planned v_allWrong v_allWorn v_z v_wishedField v_isFound v_bestWrong v_bestWorn v_bestMany v_soughtBy v_sought v_soughtAt v_foundMany v_foundOrder v_isKept v_imageRows v_imageColumns v_imageFolded v_imageWronged v_bodies v_ran v_ownKind v_ownNumber v_limit v_changeWas v_changeIs v_shapeRows v_shapeColumns v_row v_column v_below v_face v_worn v_lastBend v_tape v_text v_names v_bends v_high v_to v_pileSize w_planLine w_planWay v_way1 v_bestWay v_order1 v_placeIn v_bodyKind v_trace v_shelf v_many v_items v_carried) (some (.int r)) args s) (F0 m 66 ls []) := by
  obtain ⟨hx, hb, hml, hown, hts, hr, hlocks, hK, hSt⟩ := id C0
  intro x1 x2 x3 x4 v_planned v_planLine v_planWay v_shelf v_many v_items H locs ls hf hP hD hS hl
  unfold fX9_plans_66 at hf
  refine lv_iconst (v := 0) hx hb dX9_plans_66 (by decide) ?_
  exact tX9_plans_67 hd C0 hA N  _ _ _ _ _ _ _ _ _ _ _ H locs ls hf hP hD hS (lv_sub hl [0, 1, 2, 3, 4] rfl)

def fX9_plans_44 (N : Nat)  (x1 : Int32) (x2 : Int32) (x3 : Int32) (v_planned : Int32) (v_planLine : List Int32) (v_planWay : List Int32) (v_shelf : List Int32) (v_many : List Int32) (v_items : List Int64) : Option (Int32 × Int32 × List Int32 × List Int32) :=
    mm_ck (mm_inb x1 v_shelf.length) (if (mm_ig v_shelf x1) = (50 : Int32) then
    (if x2 < 0 then
    (fX9_plans_66 N x1 x2 x3 (0 : Int32) v_planned v_planLine v_planWay v_shelf v_many v_items)
    else (fX9_plans_67 N x1 x2 x3 (0 : Int32) (1 : Int32) v_planned v_planLine v_planWay v_shelf v_many v_items))
    else (fX9_plans_66 N x1 x2 x3 (0 : Int32) v_planned v_planLine v_planWay v_shelf v_many v_items))

set_option maxHeartbeats 4000000 in
set_option maxRecDepth 100000 in
theorem tX9_plans_44 {p : Program} {l : Launch} {e : Env} {s : State} {m : MethodId} {args : Array Value} {below : List Frame} {meth : Method} {c : Code} {D : va_G} {cI cL cS cH : ClassId} {A : Nat → Prop} {d : Nat} {a : Nat → Nat} (hd : 3 ≤ d) (C0 : mm_Cx p s m args meth c RX9 cX9_plans 7 (some .int) D (mm_T cI cL cS cH) A) (hA : ∀ q, s.heap.size ≤ q → A q) {v_keptMany : Int32} {v_done : Int32} {v_rowsOf : Int32} {v_columnsOf : Int32} {v_folded : Int32} {v_wronged : Int32} {v_tapeMany : Int32} {v_textMany : Int32} {v_base : Int32} {v_at : Int32} {v_ends : Int32} {v_fault : Int32} {v_opened : Int32} {v_bentMany : Int32} {v_bentWrong : Int32} {v_moreWorn : Int32} {v_allWrong : Int32} {v_allWorn : Int32} {v_z : Int32} {v_wishedField : Int32} {v_isFound : Bool} {v_bestWrong : Int32} {v_bestWorn : Int32} {v_bestMany : Int32} {v_soughtBy : Int32} {v_sought : Int32} {v_soughtAt : Int32} {v_foundMany : Int32} {v_foundOrder : Int32} {v_isKept : Bool} {v_imageRows : Int32} {v_imageColumns : Int32} {v_imageFolded : Int32} {v_imageWronged : Int32} {v_bodies : Int32} {v_ran : Int32} {v_ownKind : Int32} {v_ownNumber : Int32} {v_limit : List Int32} {v_changeWas : List Int32} {v_changeIs : List Int32} {v_shapeRows : List Int32} {v_shapeColumns : List Int32} {v_row : List Int32} {v_column : List Int32} {v_below : List Int32} {v_face : List Int32} {v_worn : List Int32} {v_lastBend : List Int32} {v_tape : List Int32} {v_text : List Int32} {v_names : List Int32} {v_bends : List Int32} {v_high : List Int32} {v_to : List Int32} {v_pileSize : List Int32} {v_way1 : List Int32} {v_bestWay : List Int32} {v_order1 : List Int32} {v_placeIn : List Int32} {v_bodyKind : List Int32} {v_trace : List Int32} {v_carried : List Int64} {r : Int32} {w_planned : Int32} {w_planLine : List Int32} {w_planWay : List Int32} (N : Nat)  : ∀ (x1 : Int32) (x2 : Int32) (x3 : Int32) (v_planned : Int32) (v_planLine : List Int32) (v_planWay : List Int32) (v_shelf : List Int32) (v_many : List Int32) (v_items : List Int64) (H : Heap) (locs : List Loc) (ls : Array Slot), fX9_plans_44 N x1 x2 x3 v_planned v_planLine v_planWay v_shelf v_many v_items = some (r, w_planned, w_planLine, w_planWay) → va_P D mm_cl (wd_X9 cI cL cS cH a v_keptMany v_done v_rowsOf v_columnsOf v_folded v_wronged v_tapeMany v_textMany v_base v_at v_ends v_fault v_opened v_bentMany v_bentWrong v_moreWorn v_planned v_allWrong v_allWorn v_z v_wishedField v_isFound v_bestWrong v_bestWorn v_bestMany v_soughtBy v_sought v_soughtAt v_foundMany v_foundOrder v_isKept v_imageRows v_imageColumns v_imageFolded v_imageWronged v_bodies v_ran v_ownKind v_ownNumber v_limit v_changeWas v_changeIs v_shapeRows v_shapeColumns v_row v_column v_below v_face v_worn v_lastBend v_tape v_text v_names v_bends v_high v_to v_pileSize v_planLine v_planWay v_way1 v_bestWay v_order1 v_placeIn v_bodyKind v_trace v_shelf v_many v_items v_carried) H → va_D A (wd_X9 cI cL cS cH a v_keptMany v_done v_rowsOf v_columnsOf v_folded v_wronged v_tapeMany v_textMany v_base v_at v_ends v_fault v_opened v_bentMany v_bentWrong v_moreWorn v_planned v_allWrong v_allWorn v_z v_wishedField v_isFound v_bestWrong v_bestWorn v_bestMany v_soughtBy v_sought v_soughtAt v_foundMany v_foundOrder v_isKept v_imageRows v_imageColumns v_imageFolded v_imageWronged v_bodies v_ran v_ownKind v_ownNumber v_limit v_changeWas v_changeIs v_shapeRows v_shapeColumns v_row v_column v_below v_face v_worn v_lastBend v_tape v_text v_names v_bends v_high v_to v_pileSize v_planLine v_planWay v_way1 v_bestWay v_order1 v_placeIn v_bodyKind v_trace v_shelf v_many v_items v_carried) → va_S A s.heap H locs → lv_has ls 7 [(0, .ref (a 0)), (1, .int x1), (2, .int x2), (3, .int x3)] → W p l e (mm_rr d) s m args below meth c H locs 0 0 (mm_Z below D A (wd_X9 cI cL cS cH a v_keptMany v_done v_rowsOf v_columnsOf v_folded v_wronged v_tapeMany v_textMany v_base v_at v_ends v_fault v_opened v_bentMany v_bentWrong v_moreWorn w_planned v_allWrong v_allWorn v_z v_wishedField v_isFound v_bestWrong v_bestWorn v_bestMany v_soughtBy v_sought v_soughtAt v_foundMany v_foundOrder v_isKept v_imageRows v_imageColumns v_imageFolded v_imageWronged v_bodies v_ran v_ownKind v_ownNumber v_limit v_changeWas v_changeIs v_shapeRows v_shapeColumns v_row v_column v_below v_face v_worn v_lastBend v_tape v_text v_names v_bends v_high v_to v_pileSize w_planLine w_planWay v_way1 v_bestWay v_order1 v_placeIn v_bodyKind v_trace v_shelf v_many v_items v_carried) (some (.int r)) args s) (F0 m 44 ls []) := by
  obtain ⟨hx, hb, hml, hown, hts, hr, hlocks, hK, hSt⟩ := id C0
  intro x1 x2 x3 v_planned v_planLine v_planWay v_shelf v_many v_items H locs ls hf hP hD hS hl
  unfold fX9_plans_44 at hf
  refine lv_iconst (v := 0) hx hb dX9_plans_44 (by decide) ?_
  refine lv_istore (lv' := [(4, .int (0 : Int32)), (0, .ref (a 0)), (1, .int x1), (2, .int x2), (3, .int x3)]) hx hb dX9_plans_45 hl (by decide) rfl (fun ls hl => ?_)
  refine lv_aload_n hx hb dX9_plans_47 rfl (lv_at hl 1 rfl) ?_
  refine mm_get C0 hP iw_X9 0 rfl rfl 65 (by decide) fl_X9_88 rfl dX9_plans_48 ?_
  refine lv_iload_n hx hb dX9_plans_51 rfl (lv_at hl 2 rfl) ?_
  obtain ⟨h_11, hf⟩ := mm_cks hf
  refine mm_iald C0 hP 27 rfl h_11 dX9_plans_52 ?_
  refine lv_bipush (v := 50) hx hb dX9_plans_53 (by decide) ?_
  refine lv_icmp_ne (tgt := 66) hx hb dX9_plans_55 (by decide) (fun c_12 => ?_) (fun c_12 => ?_)
  · have hf := mm_in hf c_12
    exact tX9_plans_66 hd C0 hA N  _ _ _ _ _ _ _ _ _ _ H locs ls hf hP hD hS (lv_sub hl [1, 2, 3, 4, 0] rfl)
  · have hf := mm_ip hf c_12
    refine lv_iload_n hx hb dX9_plans_58 rfl (lv_at hl 3 rfl) ?_
    refine lv_if_lt (tgt := 66) hx hb dX9_plans_59 (by decide) (fun c_13 => ?_) (fun c_13 => ?_)
    · have hf := mm_ip hf c_13
      exact tX9_plans_66 hd C0 hA N  _ _ _ _ _ _ _ _ _ _ H locs ls hf hP hD hS (lv_sub hl [1, 2, 3, 4, 0] rfl)
    · have hf := mm_in hf c_13
      refine lv_iconst (v := 1) hx hb dX9_plans_62 (by decide) ?_
      refine lv_goto (tgt := 67) hx hb dX9_plans_63 (by decide) ?_
      exact tX9_plans_67 hd C0 hA N  _ _ _ _ _ _ _ _ _ _ _ H locs ls hf hP hD hS (lv_sub hl [1, 2, 3, 4, 0] rfl)

def fX9_plans (N : Nat) (x1 : Int32) (x2 : Int32) (x3 : Int32) (v_planned : Int32) (v_planLine : List Int32) (v_planWay : List Int32) (v_shelf : List Int32) (v_many : List Int32) (v_items : List Int64) : Option (Int32 × Int32 × List Int32 × List Int32) :=
    mm_bd1 (fX9_isShelf N x1) (fun (r_1 : Bool) =>
    if r_1 = false then
    (some ((-1 : Int32), v_planned, v_planLine, v_planWay))
    else (mm_bd1 (fX9_within N ((x3).toInt64) (1 : Int64) (12 : Int64)) (fun (r_4 : Bool) =>
    if r_4 = false then
    (some ((-1 : Int32), v_planned, v_planLine, v_planWay))
    else (mm_ck (mm_inb x1 v_shelf.length) (if (mm_ig v_shelf x1) < 0 then
    (fX9_plans_44 N x1 x2 x3 v_planned v_planLine v_planWay v_shelf v_many v_items)
    else (mm_ck (mm_inb x1 v_shelf.length) (if (mm_ig v_shelf x1) = (50 : Int32) then
    (fX9_plans_44 N x1 x2 x3 v_planned v_planLine v_planWay v_shelf v_many v_items)
    else (some ((-12 : Int32), v_planned, v_planLine, v_planWay)))))))))

set_option maxHeartbeats 4000000 in
set_option maxRecDepth 100000 in
theorem ctX9_plans {l : Launch} {D : va_G} {cI cL cS cH : ClassId} {a : Nat → Nat} {x1 : Int32} {x2 : Int32} {x3 : Int32} {v_keptMany : Int32} {v_done : Int32} {v_rowsOf : Int32} {v_columnsOf : Int32} {v_folded : Int32} {v_wronged : Int32} {v_tapeMany : Int32} {v_textMany : Int32} {v_base : Int32} {v_at : Int32} {v_ends : Int32} {v_fault : Int32} {v_opened : Int32} {v_bentMany : Int32} {v_bentWrong : Int32} {v_moreWorn : Int32} {v_planned : Int32} {v_allWrong : Int32} {v_allWorn : Int32} {v_z : Int32} {v_wishedField : Int32} {v_isFound : Bool} {v_bestWrong : Int32} {v_bestWorn : Int32} {v_bestMany : Int32} {v_soughtBy : Int32} {v_sought : Int32} {v_soughtAt : Int32} {v_foundMany : Int32} {v_foundOrder : Int32} {v_isKept : Bool} {v_imageRows : Int32} {v_imageColumns : Int32} {v_imageFolded : Int32} {v_imageWronged : Int32} {v_bodies : Int32} {v_ran : Int32} {v_ownKind : Int32} {v_ownNumber : Int32} {v_limit : List Int32} {v_changeWas : List Int32} {v_changeIs : List Int32} {v_shapeRows : List Int32} {v_shapeColumns : List Int32} {v_row : List Int32} {v_column : List Int32} {v_below : List Int32} {v_face : List Int32} {v_worn : List Int32} {v_lastBend : List Int32} {v_tape : List Int32} {v_text : List Int32} {v_names : List Int32} {v_bends : List Int32} {v_high : List Int32} {v_to : List Int32} {v_pileSize : List Int32} {v_planLine : List Int32} {v_planWay : List Int32} {v_way1 : List Int32} {v_bestWay : List Int32} {v_order1 : List Int32} {v_placeIn : List Int32} {v_bodyKind : List Int32} {v_trace : List Int32} {v_shelf : List Int32} {v_many : List Int32} {v_items : List Int64} {v_carried : List Int64} {r : Int32} {w_planned : Int32} {w_planLine : List Int32} {w_planWay : List Int32} {N d : Nat} (hd : 3 ≤ d) (hf : fX9_plans N x1 x2 x3 v_planned v_planLine v_planWay v_shelf v_many v_items = some (r, w_planned, w_planLine, w_planWay)) : mm_Ct l yX9_plans cX9_plans 7 (some .int) d D (mm_T cI cL cS cH) [.ref (a 0), .int x1, .int x2, .int x3] (wd_X9 cI cL cS cH a v_keptMany v_done v_rowsOf v_columnsOf v_folded v_wronged v_tapeMany v_textMany v_base v_at v_ends v_fault v_opened v_bentMany v_bentWrong v_moreWorn v_planned v_allWrong v_allWorn v_z v_wishedField v_isFound v_bestWrong v_bestWorn v_bestMany v_soughtBy v_sought v_soughtAt v_foundMany v_foundOrder v_isKept v_imageRows v_imageColumns v_imageFolded v_imageWronged v_bodies v_ran v_ownKind v_ownNumber v_limit v_changeWas v_changeIs v_shapeRows v_shapeColumns v_row v_column v_below v_face v_worn v_lastBend v_tape v_text v_names v_bends v_high v_to v_pileSize v_planLine v_planWay v_way1 v_bestWay v_order1 v_placeIn v_bodyKind v_trace v_shelf v_many v_items v_carried) (wd_X9 cI cL cS cH a v_keptMany v_done v_rowsOf v_columnsOf v_folded v_wronged v_tapeMany v_textMany v_base v_at v_ends v_fault v_opened v_bentMany v_bentWrong v_moreWorn w_planned v_allWrong v_allWorn v_z v_wishedField v_isFound v_bestWrong v_bestWorn v_bestMany v_soughtBy v_sought v_soughtAt v_foundMany v_foundOrder v_isKept v_imageRows v_imageColumns v_imageFolded v_imageWronged v_bodies v_ran v_ownKind v_ownNumber v_limit v_changeWas v_changeIs v_shapeRows v_shapeColumns v_row v_column v_below v_face v_worn v_lastBend v_tape v_text v_names v_bends v_high v_to v_pileSize w_planLine w_planWay v_way1 v_bestWay v_order1 v_placeIn v_bodyKind v_trace v_shelf v_many v_items v_carried) (some (.int r)) := by
  refine mm_of (by decide) (Nat.le_of_ble_eq_true rfl) ?_
  intro p e s m args below meth c A H locs ls C0 hP hD hA hS hl
  have C0 : mm_Cx p s m args meth c RX9 cX9_plans 7 (some .int) D (mm_T cI cL cS cH) A := C0
  obtain ⟨hx, hb, hml, hown, hts, hr, hlocks, hK, hSt⟩ := id C0
  have hl : lv_has ls 7 [(0, .ref (a 0)), (1, .int x1), (2, .int x2), (3, .int x3)] := hl
  unfold fX9_plans at hf
  refine lv_iload_n hx hb dX9_plans_0 rfl (lv_at hl 1 rfl) ?_
  obtain ⟨r_1, hc_2, hf⟩ := mm_bd1s hf
  refine mm_callS0 (rest := []) C0 lk_X9_274 (ctX9_isShelf (d := d - 1) (by omega) hc_2) (by omega) rfl hl.1 rfl (mm_cat rfl) dX9_plans_1 hP hD hA hS (fun H locs hP hS => ?_)
  refine W.eq (g2 := F0 m 4 ls [.int (mm_b r_1)]) rfl ?_
  refine lv_if_eq (tgt := 19) hx hb dX9_plans_4 (by decide) (fun c_3 => ?_) (fun c_3 => ?_)
  · have hf := mm_ip hf (mm_b0 c_3)
    refine lv_iconst (v := -1) hx hb dX9_plans_19 (by decide) ?_
    apply mm_sub4 hf
    exact mm_iret C0 hP hD hS dX9_plans_20
  · have hf := mm_in hf (mm_b1 c_3)
    refine lv_iload_n hx hb dX9_plans_7 rfl (lv_at hl 3 rfl) ?_
    refine lv_i2l hx hb dX9_plans_8 rfl ?_
    refine lv_lconst (v := 1) hx hb dX9_plans_9 (by decide) ?_
    refine lv_ldc2 hx hb hown (hts _ kc_X9_277) dX9_plans_10 ?_
    obtain ⟨r_4, hc_5, hf⟩ := mm_bd1s hf
    refine mm_callS0 (rest := []) C0 lk_X9_111 (ctX9_within (d := d - 1) (by omega) hc_5) (by omega) rfl hl.1 rfl (mm_cat rfl) dX9_plans_13 hP hD hA hS (fun H locs hP hS => ?_)
    refine W.eq (g2 := F0 m 16 ls [.int (mm_b r_4)]) rfl ?_
    refine lv_if_ne (tgt := 21) hx hb dX9_plans_16 (by decide) (fun c_6 => ?_) (fun c_6 => ?_)
    · have hf := mm_in hf (mm_b1 c_6)
      refine lv_aload_n hx hb dX9_plans_21 rfl (lv_at hl 0 rfl) ?_
      refine mm_get C0 hP iw_X9 0 rfl rfl 65 (by decide) fl_X9_88 rfl dX9_plans_22 ?_
      refine lv_iload_n hx hb dX9_plans_25 rfl (lv_at hl 1 rfl) ?_
      obtain ⟨h_7, hf⟩ := mm_cks hf
      refine mm_iald C0 hP 27 rfl h_7 dX9_plans_26 ?_
      refine lv_if_lt (tgt := 44) hx hb dX9_plans_27 (by decide) (fun c_8 => ?_) (fun c_8 => ?_)
      · have hf := mm_ip hf c_8
        exact tX9_plans_44 hd C0 hA N  _ _ _ _ _ _ _ _ _ H locs ls hf hP hD hS (lv_sub hl [0, 1, 2, 3] rfl)
      · have hf := mm_in hf c_8
        refine lv_aload_n hx hb dX9_plans_30 rfl (lv_at hl 0 rfl) ?_
        refine mm_get C0 hP iw_X9 0 rfl rfl 65 (by decide) fl_X9_88 rfl dX9_plans_31 ?_
        refine lv_iload_n hx hb dX9_plans_34 rfl (lv_at hl 1 rfl) ?_
        obtain ⟨h_9, hf⟩ := mm_cks hf
        refine mm_iald C0 hP 27 rfl h_9 dX9_plans_35 ?_
        refine lv_bipush (v := 50) hx hb dX9_plans_36 (by decide) ?_
        refine lv_icmp_eq (tgt := 44) hx hb dX9_plans_38 (by decide) (fun c_10 => ?_) (fun c_10 => ?_)
        · have hf := mm_ip hf c_10
          exact tX9_plans_44 hd C0 hA N  _ _ _ _ _ _ _ _ _ H locs ls hf hP hD hS (lv_sub hl [0, 1, 2, 3] rfl)
        · have hf := mm_in hf c_10
          refine lv_bipush (v := -12) hx hb dX9_plans_41 (by decide) ?_
          apply mm_sub4 hf
          exact mm_iret C0 hP hD hS dX9_plans_43
    · have hf := mm_ip hf (mm_b0 c_6)
      refine lv_iconst (v := -1) hx hb dX9_plans_19 (by decide) ?_
      apply mm_sub4 hf
      exact mm_iret C0 hP hD hS dX9_plans_20

theorem nb_dX9_startsAt_0 : bls_w cX9_startsAt [(0, [42]), (1, [27]), (2, [182, 0, 131]), (5, [3]), (6, [61]), (7, [28]), (8, [16, 64]), (10, [162, 0, 43]), (13, [42]), (14, [180, 0, 37]), (17, [16, 64]), (19, [27])] := bls_of (by decide +kernel)
theorem dX9_startsAt_0 : decode cX9_startsAt 0 = .ok (.aload_n 0, 1) := op_42 nb_dX9_startsAt_0.1
theorem dX9_startsAt_1 : decode cX9_startsAt 1 = .ok (.iload_n 1, 1) := op_27 nb_dX9_startsAt_0.2.1
set_option maxRecDepth 100000 in
theorem dX9_startsAt_2 : decode cX9_startsAt 2 = .ok (.invokevirtual 131, 3) := (op_182 nb_dX9_startsAt_0.2.2.1).trans rfl
theorem dX9_startsAt_5 : decode cX9_startsAt 5 = .ok (.iconst 0, 1) := op_3 nb_dX9_startsAt_0.2.2.2.1
theorem dX9_startsAt_6 : decode cX9_startsAt 6 = .ok (.istore_n 2, 1) := op_61 nb_dX9_startsAt_0.2.2.2.2.1
theorem dX9_startsAt_7 : decode cX9_startsAt 7 = .ok (.iload_n 2, 1) := op_28 nb_dX9_startsAt_0.2.2.2.2.2.1
set_option maxRecDepth 100000 in
theorem dX9_startsAt_8 : decode cX9_startsAt 8 = .ok (.bipush 64, 2) := (op_16 nb_dX9_startsAt_0.2.2.2.2.2.2.1).trans rfl
set_option maxRecDepth 100000 in
theorem dX9_startsAt_10 : decode cX9_startsAt 10 = .ok (.if_icmp .ge 43, 3) := (op_162 nb_dX9_startsAt_0.2.2.2.2.2.2.2.1).trans rfl
theorem dX9_startsAt_13 : decode cX9_startsAt 13 = .ok (.aload_n 0, 1) := op_42 nb_dX9_startsAt_0.2.2.2.2.2.2.2.2.1
set_option maxRecDepth 100000 in
theorem dX9_startsAt_14 : decode cX9_startsAt 14 = .ok (.getfield 37, 3) := (op_180 nb_dX9_startsAt_0.2.2.2.2.2.2.2.2.2.1).trans rfl
set_option maxRecDepth 100000 in
theorem dX9_startsAt_17 : decode cX9_startsAt 17 = .ok (.bipush 64, 2) := (op_16 nb_dX9_startsAt_0.2.2.2.2.2.2.2.2.2.2.1).trans rfl
theorem dX9_startsAt_19 : decode cX9_startsAt 19 = .ok (.iload_n 1, 1) := op_27 nb_dX9_startsAt_0.2.2.2.2.2.2.2.2.2.2.2.1
theorem nb_dX9_startsAt_20 : bls_w cX9_startsAt [(20, [104]), (21, [28]), (22, [96]), (23, [42]), (24, [180, 0, 37]), (27, [28]), (28, [46]), (29, [79]), (30, [42]), (31, [180, 0, 40]), (34, [16, 64]), (36, [27])] := bls_of (by decide +kernel)
theorem dX9_startsAt_20 : decode cX9_startsAt 20 = .ok (.imul, 1) := op_104 nb_dX9_startsAt_20.1
theorem dX9_startsAt_21 : decode cX9_startsAt 21 = .ok (.iload_n 2, 1) := op_28 nb_dX9_startsAt_20.2.1
theorem dX9_startsAt_22 : decode cX9_startsAt 22 = .ok (.iadd, 1) := op_96 nb_dX9_startsAt_20.2.2.1
theorem dX9_startsAt_23 : decode cX9_startsAt 23 = .ok (.aload_n 0, 1) := op_42 nb_dX9_startsAt_20.2.2.2.1
set_option maxRecDepth 100000 in
theorem dX9_startsAt_24 : decode cX9_startsAt 24 = .ok (.getfield 37, 3) := (op_180 nb_dX9_startsAt_20.2.2.2.2.1).trans rfl
theorem dX9_startsAt_27 : decode cX9_startsAt 27 = .ok (.iload_n 2, 1) := op_28 nb_dX9_startsAt_20.2.2.2.2.2.1
theorem dX9_startsAt_28 : decode cX9_startsAt 28 = .ok (.iaload, 1) := op_46 nb_dX9_startsAt_20.2.2.2.2.2.2.1
theorem dX9_startsAt_29 : decode cX9_startsAt 29 = .ok (.iastore, 1) := op_79 nb_dX9_startsAt_20.2.2.2.2.2.2.2.1
theorem dX9_startsAt_30 : decode cX9_startsAt 30 = .ok (.aload_n 0, 1) := op_42 nb_dX9_startsAt_20.2.2.2.2.2.2.2.2.1
set_option maxRecDepth 100000 in
theorem dX9_startsAt_31 : decode cX9_startsAt 31 = .ok (.getfield 40, 3) := (op_180 nb_dX9_startsAt_20.2.2.2.2.2.2.2.2.2.1).trans rfl
set_option maxRecDepth 100000 in
theorem dX9_startsAt_34 : decode cX9_startsAt 34 = .ok (.bipush 64, 2) := (op_16 nb_dX9_startsAt_20.2.2.2.2.2.2.2.2.2.2.1).trans rfl
theorem dX9_startsAt_36 : decode cX9_startsAt 36 = .ok (.iload_n 1, 1) := op_27 nb_dX9_startsAt_20.2.2.2.2.2.2.2.2.2.2.2.1
theorem nb_dX9_startsAt_37 : bls_w cX9_startsAt [(37, [104]), (38, [28]), (39, [96]), (40, [42]), (41, [180, 0, 40]), (44, [28]), (45, [46]), (46, [79]), (47, [132, 2, 1]), (50, [167, 255, 213]), (53, [177])] := bls_of (by decide +kernel)
theorem dX9_startsAt_37 : decode cX9_startsAt 37 = .ok (.imul, 1) := op_104 nb_dX9_startsAt_37.1
theorem dX9_startsAt_38 : decode cX9_startsAt 38 = .ok (.iload_n 2, 1) := op_28 nb_dX9_startsAt_37.2.1
theorem dX9_startsAt_39 : decode cX9_startsAt 39 = .ok (.iadd, 1) := op_96 nb_dX9_startsAt_37.2.2.1
theorem dX9_startsAt_40 : decode cX9_startsAt 40 = .ok (.aload_n 0, 1) := op_42 nb_dX9_startsAt_37.2.2.2.1
set_option maxRecDepth 100000 in
theorem dX9_startsAt_41 : decode cX9_startsAt 41 = .ok (.getfield 40, 3) := (op_180 nb_dX9_startsAt_37.2.2.2.2.1).trans rfl
theorem dX9_startsAt_44 : decode cX9_startsAt 44 = .ok (.iload_n 2, 1) := op_28 nb_dX9_startsAt_37.2.2.2.2.2.1
theorem dX9_startsAt_45 : decode cX9_startsAt 45 = .ok (.iaload, 1) := op_46 nb_dX9_startsAt_37.2.2.2.2.2.2.1
theorem dX9_startsAt_46 : decode cX9_startsAt 46 = .ok (.iastore, 1) := op_79 nb_dX9_startsAt_37.2.2.2.2.2.2.2.1
set_option maxRecDepth 100000 in
theorem dX9_startsAt_47 : decode cX9_startsAt 47 = .ok (.iinc 2 1, 3) := (op_132 nb_dX9_startsAt_37.2.2.2.2.2.2.2.2.1).trans rfl
set_option maxRecDepth 100000 in
theorem dX9_startsAt_50 : decode cX9_startsAt 50 = .ok (.goto (-43), 3) := (op_167 nb_dX9_startsAt_37.2.2.2.2.2.2.2.2.2.1).trans rfl
theorem dX9_startsAt_53 : decode cX9_startsAt 53 = .ok (.return_, 1) := op_177 nb_dX9_startsAt_37.2.2.2.2.2.2.2.2.2.2.1
def fX9_startsAt_7 (N : Nat)  : Nat → Int32 → Int32 → Int32 → Int32 → List Int32 → List Int32 → List Int32 → List Int32 → List Int32 → List Int32 → List Int32 → List Int32 → Option (List Int32 × List Int32 × List Int32 × List Int32 × List Int32 × List Int32 × List Int32 × List Int32)
  | 0 => fun _ _ _ _ _ _ _ _ _ _ _ _ => none
  | n + 1 => fun x1 x2 v_rowsOf v_columnsOf v_shapeRows v_shapeColumns v_row v_column v_below v_face v_worn v_lastBend =>
    if (64 : Int32) ≤ x2 then
    (some (v_shapeRows, v_shapeColumns, v_row, v_column, v_below, v_face, v_worn, v_lastBend))
    else (mm_ck (mm_inb x2 v_worn.length) (mm_nm ((mm_ig v_worn x2)) (fun (y_10 : Int32) =>
    mm_ck (mm_inb (((64 : Int32) * x1) + x2) v_worn.length) (mm_nm (mm_is v_worn (((64 : Int32) * x1) + x2) y_10) (fun (l_12 : List Int32) =>
    mm_ck (mm_inb x2 v_lastBend.length) (mm_nm ((mm_ig v_lastBend x2)) (fun (y_14 : Int32) =>
    mm_ck (mm_inb (((64 : Int32) * x1) + x2) v_lastBend.length) (mm_nm (mm_is v_lastBend (((64 : Int32) * x1) + x2) y_14) (fun (l_16 : List Int32) =>
    mm_nm (x2 + (1 : Int32)) (fun (y_17 : Int32) =>
    fX9_startsAt_7 N n x1 y_17 v_rowsOf v_columnsOf v_shapeRows v_shapeColumns v_row v_column v_below v_face l_12 l_16))))))))))

set_option maxHeartbeats 4000000 in
set_option maxRecDepth 100000 in
theorem tX9_startsAt_7 {p : Program} {l : Launch} {e : Env} {s : State} {m : MethodId} {args : Array Value} {below : List Frame} {meth : Method} {c : Code} {D : va_G} {cI cL cS cH : ClassId} {A : Nat → Prop} {d : Nat} {a : Nat → Nat} (hd : 3 ≤ d) (C0 : mm_Cx p s m args meth c RX9 cX9_startsAt 3 none D (mm_T cI cL cS cH) A) (hA : ∀ q, s.heap.size ≤ q → A q) {v_keptMany : Int32} {v_done : Int32} {v_folded : Int32} {v_wronged : Int32} {v_tapeMany : Int32} {v_textMany : Int32} {v_base : Int32} {v_at : Int32} {v_ends : Int32} {v_fault : Int32} {v_opened : Int32} {v_bentMany : Int32} {v_bentWrong : Int32} {v_moreWorn : Int32} {v_planned : Int32} {v_allWrong : Int32} {v_allWorn : Int32} {v_z : Int32} {v_wishedField : Int32} {v_isFound : Bool} {v_bestWrong : Int32} {v_bestWorn : Int32} {v_bestMany : Int32} {v_soughtBy : Int32} {v_sought : Int32} {v_soughtAt : Int32} {v_foundMany : Int32} {v_foundOrder : Int32} {v_isKept : Bool} {v_imageRows : Int32} {v_imageColumns : Int32} {v_imageFolded : Int32} {v_imageWronged : Int32} {v_bodies : Int32} {v_ran : Int32} {v_ownKind : Int32} {v_ownNumber : Int32} {v_limit : List Int32} {v_changeWas : List Int32} {v_changeIs : List Int32} {v_tape : List Int32} {v_text : List Int32} {v_names : List Int32} {v_bends : List Int32} {v_high : List Int32} {v_to : List Int32} {v_pileSize : List Int32} {v_planLine : List Int32} {v_planWay : List Int32} {v_way1 : List Int32} {v_bestWay : List Int32} {v_order1 : List Int32} {v_placeIn : List Int32} {v_bodyKind : List Int32} {v_trace : List Int32} {v_shelf : List Int32} {v_many : List Int32} {v_items : List Int64} {v_carried : List Int64} {w_shapeRows : List Int32} {w_shapeColumns : List Int32} {w_row : List Int32} {w_column : List Int32} {w_below : List Int32} {w_face : List Int32} {w_worn : List Int32} {w_lastBend : List Int32} (N : Nat)  : ∀ (n : Nat), ∀ (x1 : Int32) (x2 : Int32) (v_rowsOf : Int32) (v_columnsOf : Int32) (v_shapeRows : List Int32) (v_shapeColumns : List Int32) (v_row : List Int32) (v_column : List Int32) (v_below : List Int32) (v_face : List Int32) (v_worn : List Int32) (v_lastBend : List Int32) (H : Heap) (locs : List Loc) (ls : Array Slot), fX9_startsAt_7 N n x1 x2 v_rowsOf v_columnsOf v_shapeRows v_shapeColumns v_row v_column v_below v_face v_worn v_lastBend = some (w_shapeRows, w_shapeColumns, w_row, w_column, w_below, w_face, w_worn, w_lastBend) → va_P D mm_cl (wd_X9 cI cL cS cH a v_keptMany v_done v_rowsOf v_columnsOf v_folded v_wronged v_tapeMany v_textMany v_base v_at v_ends v_fault v_opened v_bentMany v_bentWrong v_moreWorn v_planned v_allWrong v_allWorn v_z v_wishedField v_isFound v_bestWrong v_bestWorn v_bestMany v_soughtBy v_sought v_soughtAt v_foundMany v_foundOrder v_isKept v_imageRows v_imageColumns v_imageFolded v_imageWronged v_bodies v_ran v_ownKind v_ownNumber v_limit v_changeWas v_changeIs v_shapeRows v_shapeColumns v_row v_column v_below v_face v_worn v_lastBend v_tape v_text v_names v_bends v_high v_to v_pileSize v_planLine v_planWay v_way1 v_bestWay v_order1 v_placeIn v_bodyKind v_trace v_shelf v_many v_items v_carried) H → va_D A (wd_X9 cI cL cS cH a v_keptMany v_done v_rowsOf v_columnsOf v_folded v_wronged v_tapeMany v_textMany v_base v_at v_ends v_fault v_opened v_bentMany v_bentWrong v_moreWorn v_planned v_allWrong v_allWorn v_z v_wishedField v_isFound v_bestWrong v_bestWorn v_bestMany v_soughtBy v_sought v_soughtAt v_foundMany v_foundOrder v_isKept v_imageRows v_imageColumns v_imageFolded v_imageWronged v_bodies v_ran v_ownKind v_ownNumber v_limit v_changeWas v_changeIs v_shapeRows v_shapeColumns v_row v_column v_below v_face v_worn v_lastBend v_tape v_text v_names v_bends v_high v_to v_pileSize v_planLine v_planWay v_way1 v_bestWay v_order1 v_placeIn v_bodyKind v_trace v_shelf v_many v_items v_carried) → va_S A s.heap H locs → lv_has ls 3 [(0, .ref (a 0)), (1, .int x1), (2, .int x2)] → W p l e (mm_rr d) s m args below meth c H locs 0 0 (mm_Z below D A (wd_X9 cI cL cS cH a v_keptMany v_done v_rowsOf v_columnsOf v_folded v_wronged v_tapeMany v_textMany v_base v_at v_ends v_fault v_opened v_bentMany v_bentWrong v_moreWorn v_planned v_allWrong v_allWorn v_z v_wishedField v_isFound v_bestWrong v_bestWorn v_bestMany v_soughtBy v_sought v_soughtAt v_foundMany v_foundOrder v_isKept v_imageRows v_imageColumns v_imageFolded v_imageWronged v_bodies v_ran v_ownKind v_ownNumber v_limit v_changeWas v_changeIs w_shapeRows w_shapeColumns w_row w_column w_below w_face w_worn w_lastBend v_tape v_text v_names v_bends v_high v_to v_pileSize v_planLine v_planWay v_way1 v_bestWay v_order1 v_placeIn v_bodyKind v_trace v_shelf v_many v_items v_carried) none args s) (F0 m 7 ls []) := by
  obtain ⟨hx, hb, hml, hown, hts, hr, hlocks, hK, hSt⟩ := id C0
  intro n
  induction n with
  | zero =>
    intro x1 x2 v_rowsOf v_columnsOf v_shapeRows v_shapeColumns v_row v_column v_below v_face v_worn v_lastBend H locs ls hf
    cases (show none = some _ from hf)
  | succ n ih =>
    intro x1 x2 v_rowsOf v_columnsOf v_shapeRows v_shapeColumns v_row v_column v_below v_face v_worn v_lastBend H locs ls hf hP hD hS hl
    unfold fX9_startsAt_7 at hf
    refine lv_iload_n hx hb dX9_startsAt_7 rfl (lv_at hl 2 rfl) ?_
    refine lv_bipush (v := 64) hx hb dX9_startsAt_8 (by decide) ?_
    refine lv_icmp_ge (tgt := 53) hx hb dX9_startsAt_10 (by decide) (fun c_8 => ?_) (fun c_8 => ?_)
    · have hf := mm_ip hf c_8
      apply mm_sub8 hf
      exact mm_vret C0 hP hD hS dX9_startsAt_53
    · have hf := mm_in hf c_8
      refine lv_aload_n hx hb dX9_startsAt_13 rfl (lv_at hl 0 rfl) ?_
      refine mm_get C0 hP iw_X9 0 rfl rfl 13 (by decide) fl_X9_37 rfl dX9_startsAt_14 ?_
      refine lv_bipush (v := 64) hx hb dX9_startsAt_17 (by decide) ?_
      refine lv_iload_n hx hb dX9_startsAt_19 rfl (lv_at hl 1 rfl) ?_
      refine lv_imul hx hb dX9_startsAt_20 ?_
      refine lv_iload_n hx hb dX9_startsAt_21 rfl (lv_at hl 2 rfl) ?_
      refine lv_iadd hx hb dX9_startsAt_22 ?_
      refine lv_aload_n hx hb dX9_startsAt_23 rfl (lv_at hl 0 rfl) ?_
      refine mm_get C0 hP iw_X9 0 rfl rfl 13 (by decide) fl_X9_37 rfl dX9_startsAt_24 ?_
      refine lv_iload_n hx hb dX9_startsAt_27 rfl (lv_at hl 2 rfl) ?_
      obtain ⟨h_9, hf⟩ := mm_cks hf
      refine mm_iald C0 hP 10 rfl h_9 dX9_startsAt_28 ?_
      refine lv_topi (fun y_10 ey_10 => ?_)
      have hf := mm_nms hf ey_10
      obtain ⟨h_11, hf⟩ := mm_cks hf
      refine mm_iast C0 hP hD hS 10 rfl h_11 dX9_startsAt_29 (w2 := (wd_X9 cI cL cS cH a v_keptMany v_done v_rowsOf v_columnsOf v_folded v_wronged v_tapeMany v_textMany v_base v_at v_ends v_fault v_opened v_bentMany v_bentWrong v_moreWorn v_planned v_allWrong v_allWorn v_z v_wishedField v_isFound v_bestWrong v_bestWorn v_bestMany v_soughtBy v_sought v_soughtAt v_foundMany v_foundOrder v_isKept v_imageRows v_imageColumns v_imageFolded v_imageWronged v_bodies v_ran v_ownKind v_ownNumber v_limit v_changeWas v_changeIs v_shapeRows v_shapeColumns v_row v_column v_below v_face (mm_is v_worn (((64 : Int32) * x1) + x2) y_10) v_lastBend v_tape v_text v_names v_bends v_high v_to v_pileSize v_planLine v_planWay v_way1 v_bestWay v_order1 v_placeIn v_bodyKind v_trace v_shelf v_many v_items v_carried)) rfl (fun H locs hP hD hS => ?_)
      generalize el_12 : (mm_is v_worn (((64 : Int32) * x1) + x2) y_10) = l_12 at hP hD
      have hf := mm_nms hf el_12.symm
      refine lv_aload_n hx hb dX9_startsAt_30 rfl (lv_at hl 0 rfl) ?_
      refine mm_get C0 hP iw_X9 0 rfl rfl 14 (by decide) fl_X9_40 rfl dX9_startsAt_31 ?_
      refine lv_bipush (v := 64) hx hb dX9_startsAt_34 (by decide) ?_
      refine lv_iload_n hx hb dX9_startsAt_36 rfl (lv_at hl 1 rfl) ?_
      refine lv_imul hx hb dX9_startsAt_37 ?_
      refine lv_iload_n hx hb dX9_startsAt_38 rfl (lv_at hl 2 rfl) ?_
      refine lv_iadd hx hb dX9_startsAt_39 ?_
      refine lv_aload_n hx hb dX9_startsAt_40 rfl (lv_at hl 0 rfl) ?_
      refine mm_get C0 hP iw_X9 0 rfl rfl 14 (by decide) fl_X9_40 rfl dX9_startsAt_41 ?_
      refine lv_iload_n hx hb dX9_startsAt_44 rfl (lv_at hl 2 rfl) ?_
      obtain ⟨h_13, hf⟩ := mm_cks hf
      refine mm_iald C0 hP 11 rfl h_13 dX9_startsAt_45 ?_
      refine lv_topi (fun y_14 ey_14 => ?_)
      have hf := mm_nms hf ey_14
      obtain ⟨h_15, hf⟩ := mm_cks hf
      refine mm_iast C0 hP hD hS 11 rfl h_15 dX9_startsAt_46 (w2 := (wd_X9 cI cL cS cH a v_keptMany v_done v_rowsOf v_columnsOf v_folded v_wronged v_tapeMany v_textMany v_base v_at v_ends v_fault v_opened v_bentMany v_bentWrong v_moreWorn v_planned v_allWrong v_allWorn v_z v_wishedField v_isFound v_bestWrong v_bestWorn v_bestMany v_soughtBy v_sought v_soughtAt v_foundMany v_foundOrder v_isKept v_imageRows v_imageColumns v_imageFolded v_imageWronged v_bodies v_ran v_ownKind v_ownNumber v_limit v_changeWas v_changeIs v_shapeRows v_shapeColumns v_row v_column v_below v_face l_12 (mm_is v_lastBend (((64 : Int32) * x1) + x2) y_14) v_tape v_text v_names v_bends v_high v_to v_pileSize v_planLine v_planWay v_way1 v_bestWay v_order1 v_placeIn v_bodyKind v_trace v_shelf v_many v_items v_carried)) rfl (fun H locs hP hD hS => ?_)
      generalize el_16 : (mm_is v_lastBend (((64 : Int32) * x1) + x2) y_14) = l_16 at hP hD
      have hf := mm_nms hf el_16.symm
      obtain ⟨y_17, ey_17⟩ : ∃ z : Int32, z = x2 + (1 : Int32) := ⟨_, rfl⟩
      have hf := mm_nms hf ey_17
      refine lv_iinc (v := y_17) (lv' := [(2, .int y_17), (0, .ref (a 0)), (1, .int x1)]) hx hb dX9_startsAt_47 hl (k := 2) rfl (by rw [ey_17]; rfl) (by decide) rfl (fun ls hl => ?_)
      refine lv_goto (tgt := 7) hx hb dX9_startsAt_50 (by decide) ?_
      exact ih _ _ _ _ _ _ _ _ _ _ _ _ H locs ls hf hP hD hS (lv_sub hl [1, 2, 0] rfl)

def fX9_startsAt (N : Nat) (x1 : Int32) (v_rowsOf : Int32) (v_columnsOf : Int32) (v_shapeRows : List Int32) (v_shapeColumns : List Int32) (v_row : List Int32) (v_column : List Int32) (v_below : List Int32) (v_face : List Int32) (v_worn : List Int32) (v_lastBend : List Int32) : Option (List Int32 × List Int32 × List Int32 × List Int32 × List Int32 × List Int32 × List Int32 × List Int32) :=
    mm_bd6 (fX9_liesFlat N x1 v_rowsOf v_columnsOf v_shapeRows v_shapeColumns v_row v_column v_below v_face) (fun (w_1 : List Int32) (w_2 : List Int32) (w_3 : List Int32) (w_4 : List Int32) (w_5 : List Int32) (w_6 : List Int32) =>
    fX9_startsAt_7 N N x1 (0 : Int32) v_rowsOf v_columnsOf w_1 w_2 w_3 w_4 w_5 w_6 v_worn v_lastBend)

set_option maxHeartbeats 4000000 in
set_option maxRecDepth 100000 in
theorem ctX9_startsAt {l : Launch} {D : va_G} {cI cL cS cH : ClassId} {a : Nat → Nat} {x1 : Int32} {v_keptMany : Int32} {v_done : Int32} {v_rowsOf : Int32} {v_columnsOf : Int32} {v_folded : Int32} {v_wronged : Int32} {v_tapeMany : Int32} {v_textMany : Int32} {v_base : Int32} {v_at : Int32} {v_ends : Int32} {v_fault : Int32} {v_opened : Int32} {v_bentMany : Int32} {v_bentWrong : Int32} {v_moreWorn : Int32} {v_planned : Int32} {v_allWrong : Int32} {v_allWorn : Int32} {v_z : Int32} {v_wishedField : Int32} {v_isFound : Bool} {v_bestWrong : Int32} {v_bestWorn : Int32} {v_bestMany : Int32} {v_soughtBy : Int32} {v_sought : Int32} {v_soughtAt : Int32} {v_foundMany : Int32} {v_foundOrder : Int32} {v_isKept : Bool} {v_imageRows : Int32} {v_imageColumns : Int32} {v_imageFolded : Int32} {v_imageWronged : Int32} {v_bodies : Int32} {v_ran : Int32} {v_ownKind : Int32} {v_ownNumber : Int32} {v_limit : List Int32} {v_changeWas : List Int32} {v_changeIs : List Int32} {v_shapeRows : List Int32} {v_shapeColumns : List Int32} {v_row : List Int32} {v_column : List Int32} {v_below : List Int32} {v_face : List Int32} {v_worn : List Int32} {v_lastBend : List Int32} {v_tape : List Int32} {v_text : List Int32} {v_names : List Int32} {v_bends : List Int32} {v_high : List Int32} {v_to : List Int32} {v_pileSize : List Int32} {v_planLine : List Int32} {v_planWay : List Int32} {v_way1 : List Int32} {v_bestWay : List Int32} {v_order1 : List Int32} {v_placeIn : List Int32} {v_bodyKind : List Int32} {v_trace : List Int32} {v_shelf : List Int32} {v_many : List Int32} {v_items : List Int64} {v_carried : List Int64} {w_shapeRows : List Int32} {w_shapeColumns : List Int32} {w_row : List Int32} {w_column : List Int32} {w_below : List Int32} {w_face : List Int32} {w_worn : List Int32} {w_lastBend : List Int32} {N d : Nat} (hd : 3 ≤ d) (hf : fX9_startsAt N x1 v_rowsOf v_columnsOf v_shapeRows v_shapeColumns v_row v_column v_below v_face v_worn v_lastBend = some (w_shapeRows, w_shapeColumns, w_row, w_column, w_below, w_face, w_worn, w_lastBend)) : mm_Ct l yX9_startsAt cX9_startsAt 3 none d D (mm_T cI cL cS cH) [.ref (a 0), .int x1] (wd_X9 cI cL cS cH a v_keptMany v_done v_rowsOf v_columnsOf v_folded v_wronged v_tapeMany v_textMany v_base v_at v_ends v_fault v_opened v_bentMany v_bentWrong v_moreWorn v_planned v_allWrong v_allWorn v_z v_wishedField v_isFound v_bestWrong v_bestWorn v_bestMany v_soughtBy v_sought v_soughtAt v_foundMany v_foundOrder v_isKept v_imageRows v_imageColumns v_imageFolded v_imageWronged v_bodies v_ran v_ownKind v_ownNumber v_limit v_changeWas v_changeIs v_shapeRows v_shapeColumns v_row v_column v_below v_face v_worn v_lastBend v_tape v_text v_names v_bends v_high v_to v_pileSize v_planLine v_planWay v_way1 v_bestWay v_order1 v_placeIn v_bodyKind v_trace v_shelf v_many v_items v_carried) (wd_X9 cI cL cS cH a v_keptMany v_done v_rowsOf v_columnsOf v_folded v_wronged v_tapeMany v_textMany v_base v_at v_ends v_fault v_opened v_bentMany v_bentWrong v_moreWorn v_planned v_allWrong v_allWorn v_z v_wishedField v_isFound v_bestWrong v_bestWorn v_bestMany v_soughtBy v_sought v_soughtAt v_foundMany v_foundOrder v_isKept v_imageRows v_imageColumns v_imageFolded v_imageWronged v_bodies v_ran v_ownKind v_ownNumber v_limit v_changeWas v_changeIs w_shapeRows w_shapeColumns w_row w_column w_below w_face w_worn w_lastBend v_tape v_text v_names v_bends v_high v_to v_pileSize v_planLine v_planWay v_way1 v_bestWay v_order1 v_placeIn v_bodyKind v_trace v_shelf v_many v_items v_carried) none := by
  refine mm_of (by decide) (Nat.le_of_ble_eq_true rfl) ?_
  intro p e s m args below meth c A H locs ls C0 hP hD hA hS hl
  have C0 : mm_Cx p s m args meth c RX9 cX9_startsAt 3 none D (mm_T cI cL cS cH) A := C0
  obtain ⟨hx, hb, hml, hown, hts, hr, hlocks, hK, hSt⟩ := id C0
  have hl : lv_has ls 3 [(0, .ref (a 0)), (1, .int x1)] := hl
  unfold fX9_startsAt at hf
  refine lv_aload_n hx hb dX9_startsAt_0 rfl (lv_at hl 0 rfl) ?_
  refine lv_iload_n hx hb dX9_startsAt_1 rfl (lv_at hl 1 rfl) ?_
  refine mm_ct6 hf (fun w_1 w_2 w_3 w_4 w_5 w_6 hc_7 hf => ?_)
  refine mm_callVF (q0 := 0) (ci := 9) (rest := []) C0 lk_X9_131 (ctX9_liesFlat (a := a) (d := d - 1) (by omega) hc_7) (by omega) rfl hl.1 rfl (mm_cat rfl) dX9_startsAt_2 hP hD hA hS rfl rfl (fun H locs hP hD hS => ?_)
  refine W.eq (g2 := F0 m 5 ls []) rfl ?_
  refine lv_iconst (v := 0) hx hb dX9_startsAt_5 (by decide) ?_
  refine lv_istore_n (lv' := [(2, .int (0 : Int32)), (0, .ref (a 0)), (1, .int x1)]) hx hb dX9_startsAt_6 rfl hl (by decide) rfl (fun ls hl => ?_)
  exact tX9_startsAt_7 hd C0 hA N  N _ _ _ _ _ _ _ _ _ _ _ _ H locs ls hf hP hD hS (lv_sub hl [1, 2, 0] rfl)
end
section
/-! reference: X9_goesPlan, X9_cost, X9_isBehind, X9_lies, X9_topOf, X9_top, X9_isOnTop -/
theorem nb_dX9_goesPlan_0 : bls_w cX9_goesPlan [(0, [42]), (1, [4]), (2, [182, 1, 23]), (5, [42]), (6, [3]), (7, [181, 1, 26]), (10, [42]), (11, [3]), (12, [181, 1, 29]), (15, [3]), (16, [62]), (17, [29])] := bls_of (by decide +kernel)
theorem dX9_goesPlan_0 : decode cX9_goesPlan 0 = .ok (.aload_n 0, 1) := op_42 nb_dX9_goesPlan_0.1
theorem dX9_goesPlan_1 : decode cX9_goesPlan 1 = .ok (.iconst 1, 1) := op_4 nb_dX9_goesPlan_0.2.1
set_option maxRecDepth 100000 in
theorem dX9_goesPlan_2 : decode cX9_goesPlan 2 = .ok (.invokevirtual 279, 3) := (op_182 nb_dX9_goesPlan_0.2.2.1).trans rfl
theorem dX9_goesPlan_5 : decode cX9_goesPlan 5 = .ok (.aload_n 0, 1) := op_42 nb_dX9_goesPlan_0.2.2.2.1
theorem dX9_goesPlan_6 : decode cX9_goesPlan 6 = .ok (.iconst 0, 1) := op_3 nb_dX9_goesPlan_0.2.2.2.2.1
set_option maxRecDepth 100000 in
theorem dX9_goesPlan_7 : decode cX9_goesPlan 7 = .ok (.putfield 282, 3) := (op_181 nb_dX9_goesPlan_0.2.2.2.2.2.1).trans rfl
theorem dX9_goesPlan_10 : decode cX9_goesPlan 10 = .ok (.aload_n 0, 1) := op_42 nb_dX9_goesPlan_0.2.2.2.2.2.2.1
theorem dX9_goesPlan_11 : decode cX9_goesPlan 11 = .ok (.iconst 0, 1) := op_3 nb_dX9_goesPlan_0.2.2.2.2.2.2.2.1
set_option maxRecDepth 100000 in
theorem dX9_goesPlan_12 : decode cX9_goesPlan 12 = .ok (.putfield 285, 3) := (op_181 nb_dX9_goesPlan_0.2.2.2.2.2.2.2.2.1).trans rfl
theorem dX9_goesPlan_15 : decode cX9_goesPlan 15 = .ok (.iconst 0, 1) := op_3 nb_dX9_goesPlan_0.2.2.2.2.2.2.2.2.2.1
theorem dX9_goesPlan_16 : decode cX9_goesPlan 16 = .ok (.istore_n 3, 1) := op_62 nb_dX9_goesPlan_0.2.2.2.2.2.2.2.2.2.2.1
theorem dX9_goesPlan_17 : decode cX9_goesPlan 17 = .ok (.iload_n 3, 1) := op_29 nb_dX9_goesPlan_0.2.2.2.2.2.2.2.2.2.2.2.1
theorem nb_dX9_goesPlan_18 : bls_w cX9_goesPlan [(18, [42]), (19, [180, 1, 15]), (22, [162, 0, 126]), (25, [29]), (26, [27]), (27, [162, 0, 121]), (30, [42]), (31, [4]), (32, [42]), (33, [180, 0, 64]), (36, [29]), (37, [46])] := bls_of (by decide +kernel)
theorem dX9_goesPlan_18 : decode cX9_goesPlan 18 = .ok (.aload_n 0, 1) := op_42 nb_dX9_goesPlan_18.1
set_option maxRecDepth 100000 in
theorem dX9_goesPlan_19 : decode cX9_goesPlan 19 = .ok (.getfield 271, 3) := (op_180 nb_dX9_goesPlan_18.2.1).trans rfl
set_option maxRecDepth 100000 in
theorem dX9_goesPlan_22 : decode cX9_goesPlan 22 = .ok (.if_icmp .ge 126, 3) := (op_162 nb_dX9_goesPlan_18.2.2.1).trans rfl
theorem dX9_goesPlan_25 : decode cX9_goesPlan 25 = .ok (.iload_n 3, 1) := op_29 nb_dX9_goesPlan_18.2.2.2.1
theorem dX9_goesPlan_26 : decode cX9_goesPlan 26 = .ok (.iload_n 1, 1) := op_27 nb_dX9_goesPlan_18.2.2.2.2.1
set_option maxRecDepth 100000 in
theorem dX9_goesPlan_27 : decode cX9_goesPlan 27 = .ok (.if_icmp .ge 121, 3) := (op_162 nb_dX9_goesPlan_18.2.2.2.2.2.1).trans rfl
theorem dX9_goesPlan_30 : decode cX9_goesPlan 30 = .ok (.aload_n 0, 1) := op_42 nb_dX9_goesPlan_18.2.2.2.2.2.2.1
theorem dX9_goesPlan_31 : decode cX9_goesPlan 31 = .ok (.iconst 1, 1) := op_4 nb_dX9_goesPlan_18.2.2.2.2.2.2.2.1
theorem dX9_goesPlan_32 : decode cX9_goesPlan 32 = .ok (.aload_n 0, 1) := op_42 nb_dX9_goesPlan_18.2.2.2.2.2.2.2.2.1
set_option maxRecDepth 100000 in
theorem dX9_goesPlan_33 : decode cX9_goesPlan 33 = .ok (.getfield 64, 3) := (op_180 nb_dX9_goesPlan_18.2.2.2.2.2.2.2.2.2.1).trans rfl
theorem dX9_goesPlan_36 : decode cX9_goesPlan 36 = .ok (.iload_n 3, 1) := op_29 nb_dX9_goesPlan_18.2.2.2.2.2.2.2.2.2.2.1
theorem dX9_goesPlan_37 : decode cX9_goesPlan 37 = .ok (.iaload, 1) := op_46 nb_dX9_goesPlan_18.2.2.2.2.2.2.2.2.2.2.2.1
theorem nb_dX9_goesPlan_38 : bls_w cX9_goesPlan [(38, [42]), (39, [180, 0, 67]), (42, [29]), (43, [46]), (44, [182, 0, 240]), (47, [153, 0, 101]), (50, [42]), (51, [180, 0, 67]), (54, [29]), (55, [46]), (56, [54, 4]), (58, [28])] := bls_of (by decide +kernel)
theorem dX9_goesPlan_38 : decode cX9_goesPlan 38 = .ok (.aload_n 0, 1) := op_42 nb_dX9_goesPlan_38.1
set_option maxRecDepth 100000 in
theorem dX9_goesPlan_39 : decode cX9_goesPlan 39 = .ok (.getfield 67, 3) := (op_180 nb_dX9_goesPlan_38.2.1).trans rfl
theorem dX9_goesPlan_42 : decode cX9_goesPlan 42 = .ok (.iload_n 3, 1) := op_29 nb_dX9_goesPlan_38.2.2.1
theorem dX9_goesPlan_43 : decode cX9_goesPlan 43 = .ok (.iaload, 1) := op_46 nb_dX9_goesPlan_38.2.2.2.1
set_option maxRecDepth 100000 in
theorem dX9_goesPlan_44 : decode cX9_goesPlan 44 = .ok (.invokevirtual 240, 3) := (op_182 nb_dX9_goesPlan_38.2.2.2.2.1).trans rfl
set_option maxRecDepth 100000 in
theorem dX9_goesPlan_47 : decode cX9_goesPlan 47 = .ok (.ifCond .eq 101, 3) := (op_153 nb_dX9_goesPlan_38.2.2.2.2.2.1).trans rfl
theorem dX9_goesPlan_50 : decode cX9_goesPlan 50 = .ok (.aload_n 0, 1) := op_42 nb_dX9_goesPlan_38.2.2.2.2.2.2.1
set_option maxRecDepth 100000 in
theorem dX9_goesPlan_51 : decode cX9_goesPlan 51 = .ok (.getfield 67, 3) := (op_180 nb_dX9_goesPlan_38.2.2.2.2.2.2.2.1).trans rfl
theorem dX9_goesPlan_54 : decode cX9_goesPlan 54 = .ok (.iload_n 3, 1) := op_29 nb_dX9_goesPlan_38.2.2.2.2.2.2.2.2.1
theorem dX9_goesPlan_55 : decode cX9_goesPlan 55 = .ok (.iaload, 1) := op_46 nb_dX9_goesPlan_38.2.2.2.2.2.2.2.2.2.1
set_option maxRecDepth 100000 in
theorem dX9_goesPlan_56 : decode cX9_goesPlan 56 = .ok (.istore 4, 2) := (op_54 nb_dX9_goesPlan_38.2.2.2.2.2.2.2.2.2.2.1).trans rfl
theorem dX9_goesPlan_58 : decode cX9_goesPlan 58 = .ok (.iload_n 2, 1) := op_28 nb_dX9_goesPlan_38.2.2.2.2.2.2.2.2.2.2.2.1
theorem nb_dX9_goesPlan_59 : bls_w cX9_goesPlan [(59, [155, 0, 44]), (62, [42]), (63, [42]), (64, [180, 1, 32]), (67, [19, 1, 35]), (70, [104]), (71, [17, 48, 57]), (74, [96]), (75, [181, 1, 32]), (78, [42]), (79, [180, 1, 32]), (82, [16, 8])] := bls_of (by decide +kernel)
set_option maxRecDepth 100000 in
theorem dX9_goesPlan_59 : decode cX9_goesPlan 59 = .ok (.ifCond .lt 44, 3) := (op_155 nb_dX9_goesPlan_59.1).trans rfl
theorem dX9_goesPlan_62 : decode cX9_goesPlan 62 = .ok (.aload_n 0, 1) := op_42 nb_dX9_goesPlan_59.2.1
theorem dX9_goesPlan_63 : decode cX9_goesPlan 63 = .ok (.aload_n 0, 1) := op_42 nb_dX9_goesPlan_59.2.2.1
set_option maxRecDepth 100000 in
theorem dX9_goesPlan_64 : decode cX9_goesPlan 64 = .ok (.getfield 288, 3) := (op_180 nb_dX9_goesPlan_59.2.2.2.1).trans rfl
set_option maxRecDepth 100000 in
theorem dX9_goesPlan_67 : decode cX9_goesPlan 67 = .ok (.ldc_w 291, 3) := (op_19 nb_dX9_goesPlan_59.2.2.2.2.1).trans rfl
theorem dX9_goesPlan_70 : decode cX9_goesPlan 70 = .ok (.imul, 1) := op_104 nb_dX9_goesPlan_59.2.2.2.2.2.1
set_option maxRecDepth 100000 in
theorem dX9_goesPlan_71 : decode cX9_goesPlan 71 = .ok (.sipush 12345, 3) := (op_17 nb_dX9_goesPlan_59.2.2.2.2.2.2.1).trans rfl
theorem dX9_goesPlan_74 : decode cX9_goesPlan 74 = .ok (.iadd, 1) := op_96 nb_dX9_goesPlan_59.2.2.2.2.2.2.2.1
set_option maxRecDepth 100000 in
theorem dX9_goesPlan_75 : decode cX9_goesPlan 75 = .ok (.putfield 288, 3) := (op_181 nb_dX9_goesPlan_59.2.2.2.2.2.2.2.2.1).trans rfl
theorem dX9_goesPlan_78 : decode cX9_goesPlan 78 = .ok (.aload_n 0, 1) := op_42 nb_dX9_goesPlan_59.2.2.2.2.2.2.2.2.2.1
set_option maxRecDepth 100000 in
theorem dX9_goesPlan_79 : decode cX9_goesPlan 79 = .ok (.getfield 288, 3) := (op_180 nb_dX9_goesPlan_59.2.2.2.2.2.2.2.2.2.2.1).trans rfl
set_option maxRecDepth 100000 in
theorem dX9_goesPlan_82 : decode cX9_goesPlan 82 = .ok (.bipush 8, 2) := (op_16 nb_dX9_goesPlan_59.2.2.2.2.2.2.2.2.2.2.2.1).trans rfl
theorem nb_dX9_goesPlan_84 : bls_w cX9_goesPlan [(84, [124]), (85, [16, 100]), (87, [112]), (88, [28]), (89, [162, 0, 10]), (92, [21, 4]), (94, [4]), (95, [130]), (96, [167, 0, 5]), (99, [21, 4]), (101, [54, 4]), (103, [42])] := bls_of (by decide +kernel)
theorem dX9_goesPlan_84 : decode cX9_goesPlan 84 = .ok (.iushr, 1) := op_124 nb_dX9_goesPlan_84.1
set_option maxRecDepth 100000 in
theorem dX9_goesPlan_85 : decode cX9_goesPlan 85 = .ok (.bipush 100, 2) := (op_16 nb_dX9_goesPlan_84.2.1).trans rfl
theorem dX9_goesPlan_87 : decode cX9_goesPlan 87 = .ok (.irem, 1) := op_112 nb_dX9_goesPlan_84.2.2.1
theorem dX9_goesPlan_88 : decode cX9_goesPlan 88 = .ok (.iload_n 2, 1) := op_28 nb_dX9_goesPlan_84.2.2.2.1
set_option maxRecDepth 100000 in
theorem dX9_goesPlan_89 : decode cX9_goesPlan 89 = .ok (.if_icmp .ge 10, 3) := (op_162 nb_dX9_goesPlan_84.2.2.2.2.1).trans rfl
set_option maxRecDepth 100000 in
theorem dX9_goesPlan_92 : decode cX9_goesPlan 92 = .ok (.iload 4, 2) := (op_21 nb_dX9_goesPlan_84.2.2.2.2.2.1).trans rfl
theorem dX9_goesPlan_94 : decode cX9_goesPlan 94 = .ok (.iconst 1, 1) := op_4 nb_dX9_goesPlan_84.2.2.2.2.2.2.1
theorem dX9_goesPlan_95 : decode cX9_goesPlan 95 = .ok (.ixor, 1) := op_130 nb_dX9_goesPlan_84.2.2.2.2.2.2.2.1
set_option maxRecDepth 100000 in
theorem dX9_goesPlan_96 : decode cX9_goesPlan 96 = .ok (.goto 5, 3) := (op_167 nb_dX9_goesPlan_84.2.2.2.2.2.2.2.2.1).trans rfl
set_option maxRecDepth 100000 in
theorem dX9_goesPlan_99 : decode cX9_goesPlan 99 = .ok (.iload 4, 2) := (op_21 nb_dX9_goesPlan_84.2.2.2.2.2.2.2.2.2.1).trans rfl
set_option maxRecDepth 100000 in
theorem dX9_goesPlan_101 : decode cX9_goesPlan 101 = .ok (.istore 4, 2) := (op_54 nb_dX9_goesPlan_84.2.2.2.2.2.2.2.2.2.2.1).trans rfl
theorem dX9_goesPlan_103 : decode cX9_goesPlan 103 = .ok (.aload_n 0, 1) := op_42 nb_dX9_goesPlan_84.2.2.2.2.2.2.2.2.2.2.2.1
theorem nb_dX9_goesPlan_104 : bls_w cX9_goesPlan [(104, [4]), (105, [42]), (106, [180, 0, 64]), (109, [29]), (110, [46]), (111, [21, 4]), (113, [182, 0, 244]), (116, [42]), (117, [89]), (118, [180, 1, 26]), (121, [42]), (122, [180, 0, 211])] := bls_of (by decide +kernel)
theorem dX9_goesPlan_104 : decode cX9_goesPlan 104 = .ok (.iconst 1, 1) := op_4 nb_dX9_goesPlan_104.1
theorem dX9_goesPlan_105 : decode cX9_goesPlan 105 = .ok (.aload_n 0, 1) := op_42 nb_dX9_goesPlan_104.2.1
set_option maxRecDepth 100000 in
theorem dX9_goesPlan_106 : decode cX9_goesPlan 106 = .ok (.getfield 64, 3) := (op_180 nb_dX9_goesPlan_104.2.2.1).trans rfl
theorem dX9_goesPlan_109 : decode cX9_goesPlan 109 = .ok (.iload_n 3, 1) := op_29 nb_dX9_goesPlan_104.2.2.2.1
theorem dX9_goesPlan_110 : decode cX9_goesPlan 110 = .ok (.iaload, 1) := op_46 nb_dX9_goesPlan_104.2.2.2.2.1
set_option maxRecDepth 100000 in
theorem dX9_goesPlan_111 : decode cX9_goesPlan 111 = .ok (.iload 4, 2) := (op_21 nb_dX9_goesPlan_104.2.2.2.2.2.1).trans rfl
set_option maxRecDepth 100000 in
theorem dX9_goesPlan_113 : decode cX9_goesPlan 113 = .ok (.invokevirtual 244, 3) := (op_182 nb_dX9_goesPlan_104.2.2.2.2.2.2.1).trans rfl
theorem dX9_goesPlan_116 : decode cX9_goesPlan 116 = .ok (.aload_n 0, 1) := op_42 nb_dX9_goesPlan_104.2.2.2.2.2.2.2.1
theorem dX9_goesPlan_117 : decode cX9_goesPlan 117 = .ok (.dup, 1) := op_89 nb_dX9_goesPlan_104.2.2.2.2.2.2.2.2.1
set_option maxRecDepth 100000 in
theorem dX9_goesPlan_118 : decode cX9_goesPlan 118 = .ok (.getfield 282, 3) := (op_180 nb_dX9_goesPlan_104.2.2.2.2.2.2.2.2.2.1).trans rfl
theorem dX9_goesPlan_121 : decode cX9_goesPlan 121 = .ok (.aload_n 0, 1) := op_42 nb_dX9_goesPlan_104.2.2.2.2.2.2.2.2.2.2.1
set_option maxRecDepth 100000 in
theorem dX9_goesPlan_122 : decode cX9_goesPlan 122 = .ok (.getfield 211, 3) := (op_180 nb_dX9_goesPlan_104.2.2.2.2.2.2.2.2.2.2.2.1).trans rfl
theorem nb_dX9_goesPlan_125 : bls_w cX9_goesPlan [(125, [96]), (126, [181, 1, 26]), (129, [42]), (130, [89]), (131, [180, 1, 29]), (134, [42]), (135, [180, 0, 214]), (138, [96]), (139, [181, 1, 29]), (142, [132, 3, 1]), (145, [167, 255, 128]), (148, [29])] := bls_of (by decide +kernel)
theorem dX9_goesPlan_125 : decode cX9_goesPlan 125 = .ok (.iadd, 1) := op_96 nb_dX9_goesPlan_125.1
set_option maxRecDepth 100000 in
theorem dX9_goesPlan_126 : decode cX9_goesPlan 126 = .ok (.putfield 282, 3) := (op_181 nb_dX9_goesPlan_125.2.1).trans rfl
theorem dX9_goesPlan_129 : decode cX9_goesPlan 129 = .ok (.aload_n 0, 1) := op_42 nb_dX9_goesPlan_125.2.2.1
theorem dX9_goesPlan_130 : decode cX9_goesPlan 130 = .ok (.dup, 1) := op_89 nb_dX9_goesPlan_125.2.2.2.1
set_option maxRecDepth 100000 in
theorem dX9_goesPlan_131 : decode cX9_goesPlan 131 = .ok (.getfield 285, 3) := (op_180 nb_dX9_goesPlan_125.2.2.2.2.1).trans rfl
theorem dX9_goesPlan_134 : decode cX9_goesPlan 134 = .ok (.aload_n 0, 1) := op_42 nb_dX9_goesPlan_125.2.2.2.2.2.1
set_option maxRecDepth 100000 in
theorem dX9_goesPlan_135 : decode cX9_goesPlan 135 = .ok (.getfield 214, 3) := (op_180 nb_dX9_goesPlan_125.2.2.2.2.2.2.1).trans rfl
theorem dX9_goesPlan_138 : decode cX9_goesPlan 138 = .ok (.iadd, 1) := op_96 nb_dX9_goesPlan_125.2.2.2.2.2.2.2.1
set_option maxRecDepth 100000 in
theorem dX9_goesPlan_139 : decode cX9_goesPlan 139 = .ok (.putfield 285, 3) := (op_181 nb_dX9_goesPlan_125.2.2.2.2.2.2.2.2.1).trans rfl
set_option maxRecDepth 100000 in
theorem dX9_goesPlan_142 : decode cX9_goesPlan 142 = .ok (.iinc 3 1, 3) := (op_132 nb_dX9_goesPlan_125.2.2.2.2.2.2.2.2.2.1).trans rfl
set_option maxRecDepth 100000 in
theorem dX9_goesPlan_145 : decode cX9_goesPlan 145 = .ok (.goto (-128), 3) := (op_167 nb_dX9_goesPlan_125.2.2.2.2.2.2.2.2.2.2.1).trans rfl
theorem dX9_goesPlan_148 : decode cX9_goesPlan 148 = .ok (.iload_n 3, 1) := op_29 nb_dX9_goesPlan_125.2.2.2.2.2.2.2.2.2.2.2.1
theorem nb_dX9_goesPlan_149 : bls_w cX9_goesPlan [(149, [172])] := bls_of (by decide +kernel)
theorem dX9_goesPlan_149 : decode cX9_goesPlan 149 = .ok (.ireturn, 1) := op_172 nb_dX9_goesPlan_149.1
def fX9_goesPlan_103 (N : Nat) (k_17 : Int32 → Int32 → Int32 → Int32 → Int32 → Int32 → Int32 → Int32 → Int32 → Int32 → Int32 → Int32 → Int32 → Int32 → Int32 → Int32 → Int32 → Int32 → List Int32 → List Int32 → List Int32 → List Int32 → List Int32 → List Int32 → List Int32 → List Int32 → List Int32 → List Int32 → List Int32 → List Int32 → List Int32 → List Int32 → List Int32 → List Int32 → List Int32 → List Int32 → Option (Int32 × Int32 × Int32 × Int32 × Int32 × Int32 × Int32 × Int32 × Int32 × Int32 × Int32 × Int32 × List Int32 × List Int32 × List Int32 × List Int32 × List Int32 × List Int32 × List Int32 × List Int32 × List Int32 × List Int32 × List Int32 × List Int32 × List Int32)) (x1 : Int32) (x2 : Int32) (x3 : Int32) (x4 : Int32) (v_rowsOf : Int32) (v_columnsOf : Int32) (v_textMany : Int32) (v_base : Int32) (v_at : Int32) (v_ends : Int32) (v_fault : Int32) (v_opened : Int32) (v_bentMany : Int32) (v_bentWrong : Int32) (v_moreWorn : Int32) (v_planned : Int32) (v_allWrong : Int32) (v_allWorn : Int32) (v_z : Int32) (v_limit : List Int32) (v_shapeRows : List Int32) (v_shapeColumns : List Int32) (v_row : List Int32) (v_column : List Int32) (v_below : List Int32) (v_face : List Int32) (v_worn : List Int32) (v_lastBend : List Int32) (v_tape : List Int32) (v_text : List Int32) (v_names : List Int32) (v_bends : List Int32) (v_high : List Int32) (v_to : List Int32) (v_pileSize : List Int32) (v_planLine : List Int32) (v_planWay : List Int32) : Option (Int32 × Int32 × Int32 × Int32 × Int32 × Int32 × Int32 × Int32 × Int32 × Int32 × Int32 × Int32 × List Int32 × List Int32 × List Int32 × List Int32 × List Int32 × List Int32 × List Int32 × List Int32 × List Int32 × List Int32 × List Int32 × List Int32 × List Int32) :=
    mm_ck (mm_inb x3 v_planLine.length) (mm_bd21 (fX9_foldsOn N (1 : Int32) (mm_ig v_planLine x3) x4 v_rowsOf v_columnsOf v_textMany v_base v_at v_ends v_fault v_opened v_bentMany v_bentWrong v_moreWorn v_limit v_shapeRows v_shapeColumns v_row v_column v_below v_face v_worn v_lastBend v_tape v_text v_names v_bends v_high v_to v_pileSize) (fun (w_24 : Int32) (w_25 : Int32) (w_26 : Int32) (w_27 : Int32) (w_28 : Int32) (w_29 : Int32) (w_30 : Int32) (w_31 : Int32) (w_32 : List Int32) (w_33 : List Int32) (w_34 : List Int32) (w_35 : List Int32) (w_36 : List Int32) (w_37 : List Int32) (w_38 : List Int32) (w_39 : List Int32) (w_40 : List Int32) (w_41 : List Int32) (w_42 : List Int32) (w_43 : List Int32) (w_44 : List Int32) =>
    mm_nm ((v_allWrong + w_30)) (fun (y_46 : Int32) =>
    mm_nm ((v_allWorn + w_31)) (fun (y_47 : Int32) =>
    mm_nm (x3 + (1 : Int32)) (fun (y_48 : Int32) =>
    k_17 x1 x2 y_48 v_rowsOf v_columnsOf v_textMany w_24 w_25 w_26 w_27 w_28 w_29 w_30 w_31 v_planned y_46 y_47 v_z v_limit w_32 w_33 w_34 w_35 w_36 w_37 w_38 w_39 v_tape v_text w_40 w_41 w_42 w_43 w_44 v_planLine v_planWay)))))

set_option maxHeartbeats 4000000 in
set_option maxRecDepth 100000 in
theorem tX9_goesPlan_103 {p : Program} {l : Launch} {e : Env} {s : State} {m : MethodId} {args : Array Value} {below : List Frame} {meth : Method} {c : Code} {D : va_G} {cI cL cS cH : ClassId} {A : Nat → Prop} {d : Nat} {a : Nat → Nat} (hd : 60 ≤ d) (C0 : mm_Cx p s m args meth c RX9 cX9_goesPlan 5 (some .int) D (mm_T cI cL cS cH) A) (hA : ∀ q, s.heap.size ≤ q → A q) {v_keptMany : Int32} {v_done : Int32} {v_folded : Int32} {v_wronged : Int32} {v_tapeMany : Int32} {v_wishedField : Int32} {v_isFound : Bool} {v_bestWrong : Int32} {v_bestWorn : Int32} {v_bestMany : Int32} {v_soughtBy : Int32} {v_sought : Int32} {v_soughtAt : Int32} {v_foundMany : Int32} {v_foundOrder : Int32} {v_isKept : Bool} {v_imageRows : Int32} {v_imageColumns : Int32} {v_imageFolded : Int32} {v_imageWronged : Int32} {v_bodies : Int32} {v_ran : Int32} {v_ownKind : Int32} {v_ownNumber : Int32} {v_changeWas : List Int32} {v_changeIs : List Int32} {v_way1 : List Int32} {v_bestWay : List Int32} {v_order1 : List Int32} {v_placeIn : List Int32} {v_bodyKind : List Int32} {v_trace : List Int32} {v_shelf : List Int32} {v_many : List Int32} {v_items : List Int64} {v_carried : List Int64} {r : Int32} {w_base : Int32} {w_at : Int32} {w_ends : Int32} {w_fault : Int32} {w_opened : Int32} {w_bentMany : Int32} {w_bentWrong : Int32} {w_moreWorn : Int32} {w_allWrong : Int32} {w_allWorn : Int32} {w_z : Int32} {w_shapeRows : List Int32} {w_shapeColumns : List Int32} {w_row : List Int32} {w_column : List Int32} {w_below : List Int32} {w_face : List Int32} {w_worn : List Int32} {w_lastBend : List Int32} {w_names : List Int32} {w_bends : List Int32} {w_high : List Int32} {w_to : List Int32} {w_pileSize : List Int32} (N : Nat) {k_17 : Int32 → Int32 → Int32 → Int32 → Int32 → Int32 → Int32 → Int32 → Int32 → Int32 → Int32 → Int32 → Int32 → Int32 → Int32 → Int32 → Int32 → Int32 → List Int32 → List Int32 → List Int32 → List Int32 → List Int32 → List Int32 → List Int32 → List Int32 → List Int32 → List Int32 → List Int32 → List Int32 → List Int32 → List Int32 → List Int32 → List Int32 → List Int32 → List Int32 → Option (Int32 × Int32 × Int32 × Int32 × Int32 × Int32 × Int32 × Int32 × Int32 × Int32 × Int32 × Int32 × List Int32 × List Int32 × List Int32 × List Int32 × List Int32 × List Int32 × List Int32 × List Int32 × List Int32 × List Int32 × List Int32 × List Int32 × List Int32)} (hk_17 : ∀ (x1 : Int32) (x2 : Int32) (x3 : Int32) (v_rowsOf : Int32) (v_columnsOf : Int32) (v_textMany : Int32) (v_base : Int32) (v_at : Int32) (v_ends : Int32) (v_fault : Int32) (v_opened : Int32) (v_bentMany : Int32) (v_bentWrong : Int32) (v_moreWorn : Int32) (v_planned : Int32) (v_allWrong : Int32) (v_allWorn : Int32) (v_z : Int32) (v_limit : List Int32) (v_shapeRows : List Int32) (v_shapeColumns : List Int32) (v_row : List Int32) (v_column : List Int32) (v_below : List Int32) (v_face : List Int32) (v_worn : List Int32) (v_lastBend : List Int32) (v_tape : List Int32) (v_text : List Int32) (v_names : List Int32) (v_bends : List Int32) (v_high : List Int32) (v_to : List Int32) (v_pileSize : List Int32) (v_planLine : List Int32) (v_planWay : List Int32) (H : Heap) (locs : List Loc) (ls : Array Slot), k_17 x1 x2 x3 v_rowsOf v_columnsOf v_textMany v_base v_at v_ends v_fault v_opened v_bentMany v_bentWrong v_moreWorn v_planned v_allWrong v_allWorn v_z v_limit v_shapeRows v_shapeColumns v_row v_column v_below v_face v_worn v_lastBend v_tape v_text v_names v_bends v_high v_to v_pileSize v_planLine v_planWay = some (r, w_base, w_at, w_ends, w_fault, w_opened, w_bentMany, w_bentWrong, w_moreWorn, w_allWrong, w_allWorn, w_z, w_shapeRows, w_shapeColumns, w_row, w_column, w_below, w_face, w_worn, w_lastBend, w_names, w_bends, w_high, w_to, w_pileSize) → va_P D mm_cl (wd_X9 cI cL cS cH a v_keptMany v_done v_rowsOf v_columnsOf v_folded v_wronged v_tapeMany v_textMany v_base v_at v_ends v_fault v_opened v_bentMany v_bentWrong v_moreWorn v_planned v_allWrong v_allWorn v_z v_wishedField v_isFound v_bestWrong v_bestWorn v_bestMany v_soughtBy v_sought v_soughtAt v_foundMany v_foundOrder v_isKept v_imageRows v_imageColumns v_imageFolded v_imageWronged v_bodies v_ran v_ownKind v_ownNumber v_limit v_changeWas v_changeIs v_shapeRows v_shapeColumns v_row v_column v_below v_face v_worn v_lastBend v_tape v_text v_names v_bends v_high v_to v_pileSize v_planLine v_planWay v_way1 v_bestWay v_order1 v_placeIn v_bodyKind v_trace v_shelf v_many v_items v_carried) H → va_D A (wd_X9 cI cL cS cH a v_keptMany v_done v_rowsOf v_columnsOf v_folded v_wronged v_tapeMany v_textMany v_base v_at v_ends v_fault v_opened v_bentMany v_bentWrong v_moreWorn v_planned v_allWrong v_allWorn v_z v_wishedField v_isFound v_bestWrong v_bestWorn v_bestMany v_soughtBy v_sought v_soughtAt v_foundMany v_foundOrder v_isKept v_imageRows v_imageColumns v_imageFolded v_imageWronged v_bodies v_ran v_ownKind v_ownNumber v_limit v_changeWas v_changeIs v_shapeRows v_shapeColumns v_row v_column v_below v_face v_worn v_lastBend v_tape v_text v_names v_bends v_high v_to v_pileSize v_planLine v_planWay v_way1 v_bestWay v_order1 v_placeIn v_bodyKind v_trace v_shelf v_many v_items v_carried) → va_S A s.heap H locs → lv_has ls 5 [(0, .ref (a 0)), (1, .int x1), (2, .int x2), (3, .int x3)] → W p l e (mm_rr d) s m args below meth c H locs 0 0 (mm_Z below D A (wd_X9 cI cL cS cH a v_keptMany v_done v_rowsOf v_columnsOf v_folded v_wronged v_tapeMany v_textMany w_base w_at w_ends w_fault w_opened w_bentMany w_bentWrong w_moreWorn v_planned w_allWrong w_allWorn w_z v_wishedField v_isFound v_bestWrong v_bestWorn v_bestMany v_soughtBy v_sought v_soughtAt v_foundMany v_foundOrder v_isKept v_imageRows v_imageColumns v_imageFolded v_imageWronged v_bodies v_ran v_ownKind v_ownNumber v_limit v_changeWas v_changeIs w_shapeRows w_shapeColumns w_row w_column w_below w_face w_worn w_lastBend v_tape v_text w_names w_bends w_high w_to w_pileSize v_planLine v_planWay v_way1 v_bestWay v_order1 v_placeIn v_bodyKind v_trace v_shelf v_many v_items v_carried) (some (.int r)) args s) (F0 m 17 ls [])) : ∀ (x1 : Int32) (x2 : Int32) (x3 : Int32) (x4 : Int32) (v_rowsOf : Int32) (v_columnsOf : Int32) (v_textMany : Int32) (v_base : Int32) (v_at : Int32) (v_ends : Int32) (v_fault : Int32) (v_opened : Int32) (v_bentMany : Int32) (v_bentWrong : Int32) (v_moreWorn : Int32) (v_planned : Int32) (v_allWrong : Int32) (v_allWorn : Int32) (v_z : Int32) (v_limit : List Int32) (v_shapeRows : List Int32) (v_shapeColumns : List Int32) (v_row : List Int32) (v_column : List Int32) (v_below : List Int32) (v_face : List Int32) (v_worn : List Int32) (v_lastBend : List Int32) (v_tape : List Int32) (v_text : List Int32) (v_names : List Int32) (v_bends : List Int32) (v_high : List Int32) (v_to : List Int32) (v_pileSize : List Int32) (v_planLine : List Int32) (v_planWay : List Int32) (H : Heap) (locs : List Loc) (ls : Array Slot), fX9_goesPlan_103 N k_17 x1 x2 x3 x4 v_rowsOf v_columnsOf v_textMany v_base v_at v_ends v_fault v_opened v_bentMany v_bentWrong v_moreWorn v_planned v_allWrong v_allWorn v_z v_limit v_shapeRows v_shapeColumns v_row v_column v_below v_face v_worn v_lastBend v_tape v_text v_names v_bends v_high v_to v_pileSize v_planLine v_planWay = some (r, w_base, w_at, w_ends, w_fault, w_opened, w_bentMany, w_bentWrong, w_moreWorn, w_allWrong, w_allWorn, w_z, w_shapeRows, w_shapeColumns, w_row, w_column, w_below, w_face, w_worn, w_lastBend, w_names, w_bends, w_high, w_to, w_pileSize) → va_P D mm_cl (wd_X9 cI cL cS cH a v_keptMany v_done v_rowsOf v_columnsOf v_folded v_wronged v_tapeMany v_textMany v_base v_at v_ends v_fault v_opened v_bentMany v_bentWrong v_moreWorn v_planned v_allWrong v_allWorn v_z v_wishedField v_isFound v_bestWrong v_bestWorn v_bestMany v_soughtBy v_sought v_soughtAt v_foundMany v_foundOrder v_isKept v_imageRows v_imageColumns v_imageFolded v_imageWronged v_bodies v_ran v_ownKind v_ownNumber v_limit v_changeWas v_changeIs v_shapeRows v_shapeColumns v_row v_column v_below v_face v_worn v_lastBend v_tape v_text v_names v_bends v_high v_to v_pileSize v_planLine v_planWay v_way1 v_bestWay v_order1 v_placeIn v_bodyKind v_trace v_shelf v_many v_items v_carried) H → va_D A (wd_X9 cI cL cS cH a v_keptMany v_done v_rowsOf v_columnsOf v_folded v_wronged v_tapeMany v_textMany v_base v_at v_ends v_fault v_opened v_bentMany v_bentWrong v_moreWorn v_planned v_allWrong v_allWorn v_z v_wishedField v_isFound v_bestWrong v_bestWorn v_bestMany v_soughtBy v_sought v_soughtAt v_foundMany v_foundOrder v_isKept v_imageRows v_imageColumns v_imageFolded v_imageWronged v_bodies v_ran v_ownKind v_ownNumber v_limit v_changeWas v_changeIs v_shapeRows v_shapeColumns v_row v_column v_below v_face v_worn v_lastBend v_tape v_text v_names v_bends v_high v_to v_pileSize v_planLine v_planWay v_way1 v_bestWay v_order1 v_placeIn v_bodyKind v_trace v_shelf v_many v_items v_carried) → va_S A s.heap H locs → lv_has ls 5 [(0, .ref (a 0)), (1, .int x1), (2, .int x2), (3, .int x3), (4, .int x4)] → W p l e (mm_rr d) s m args below meth c H locs 0 0 (mm_Z below D A (wd_X9 cI cL cS cH a v_keptMany v_done v_rowsOf v_columnsOf v_folded v_wronged v_tapeMany v_textMany w_base w_at w_ends w_fault w_opened w_bentMany w_bentWrong w_moreWorn v_planned w_allWrong w_allWorn w_z v_wishedField v_isFound v_bestWrong v_bestWorn v_bestMany v_soughtBy v_sought v_soughtAt v_foundMany v_foundOrder v_isKept v_imageRows v_imageColumns v_imageFolded v_imageWronged v_bodies v_ran v_ownKind v_ownNumber v_limit v_changeWas v_changeIs w_shapeRows w_shapeColumns w_row w_column w_below w_face w_worn w_lastBend v_tape v_text w_names w_bends w_high w_to w_pileSize v_planLine v_planWay v_way1 v_bestWay v_order1 v_placeIn v_bodyKind v_trace v_shelf v_many v_items v_carried) (some (.int r)) args s) (F0 m 103 ls []) := by
  obtain ⟨hx, hb, hml, hown, hts, hr, hlocks, hK, hSt⟩ := id C0
  intro x1 x2 x3 x4 v_rowsOf v_columnsOf v_textMany v_base v_at v_ends v_fault v_opened v_bentMany v_bentWrong v_moreWorn v_planned v_allWrong v_allWorn v_z v_limit v_shapeRows v_shapeColumns v_row v_column v_below v_face v_worn v_lastBend v_tape v_text v_names v_bends v_high v_to v_pileSize v_planLine v_planWay H locs ls hf hP hD hS hl
  unfold fX9_goesPlan_103 at hf
  refine lv_aload_n hx hb dX9_goesPlan_103 rfl (lv_at hl 0 rfl) ?_
  refine lv_iconst (v := 1) hx hb dX9_goesPlan_104 (by decide) ?_
  refine lv_aload_n hx hb dX9_goesPlan_105 rfl (lv_at hl 0 rfl) ?_
  refine mm_get C0 hP iw_X9 0 rfl rfl 34 (by decide) fl_X9_64 rfl dX9_goesPlan_106 ?_
  refine lv_iload_n hx hb dX9_goesPlan_109 rfl (lv_at hl 3 rfl) ?_
  obtain ⟨h_23, hf⟩ := mm_cks hf
  refine mm_iald C0 hP 19 rfl h_23 dX9_goesPlan_110 ?_
  refine lv_iload hx hb dX9_goesPlan_111 (lv_at hl 4 rfl) ?_
  refine mm_ct21 hf (fun w_24 w_25 w_26 w_27 w_28 w_29 w_30 w_31 w_32 w_33 w_34 w_35 w_36 w_37 w_38 w_39 w_40 w_41 w_42 w_43 w_44 hc_45 hf => ?_)
  refine mm_callVF (q0 := 0) (ci := 9) (rest := []) C0 lk_X9_244 (ctX9_foldsOn (a := a) (d := d - 1) (by omega) hc_45) (by omega) rfl hl.1 rfl (mm_cat rfl) dX9_goesPlan_113 hP hD hA hS rfl rfl (fun H locs hP hD hS => ?_)
  refine W.eq (g2 := F0 m 116 ls []) rfl ?_
  refine lv_aload_n hx hb dX9_goesPlan_116 rfl (lv_at hl 0 rfl) ?_
  refine lv_dup hx hb dX9_goesPlan_117 rfl ?_
  refine mm_get C0 hP iw_X9 0 rfl rfl 37 (by decide) fl_X9_282 rfl dX9_goesPlan_118 ?_
  refine lv_aload_n hx hb dX9_goesPlan_121 rfl (lv_at hl 0 rfl) ?_
  refine mm_get C0 hP iw_X9 0 rfl rfl 29 (by decide) fl_X9_211 rfl dX9_goesPlan_122 ?_
  refine lv_iadd hx hb dX9_goesPlan_125 ?_
  refine lv_topi (fun y_46 ey_46 => ?_)
  have hf := mm_nms hf ey_46
  refine mm_put C0 hP hD hS iw_X9 tyX9 tyX9_ok nmX9 0 rfl rfl 37 (by decide) fl_X9_282 rfl rfl rfl (Nat.le_of_ble_eq_true rfl) dX9_goesPlan_126 (w2 := (wd_X9 cI cL cS cH a v_keptMany v_done v_rowsOf v_columnsOf v_folded v_wronged v_tapeMany v_textMany w_24 w_25 w_26 w_27 w_28 w_29 w_30 w_31 v_planned y_46 v_allWorn v_z v_wishedField v_isFound v_bestWrong v_bestWorn v_bestMany v_soughtBy v_sought v_soughtAt v_foundMany v_foundOrder v_isKept v_imageRows v_imageColumns v_imageFolded v_imageWronged v_bodies v_ran v_ownKind v_ownNumber v_limit v_changeWas v_changeIs w_32 w_33 w_34 w_35 w_36 w_37 w_38 w_39 v_tape v_text w_40 w_41 w_42 w_43 w_44 v_planLine v_planWay v_way1 v_bestWay v_order1 v_placeIn v_bodyKind v_trace v_shelf v_many v_items v_carried)) rfl (fun H locs hP hD hS => ?_)
  refine lv_aload_n hx hb dX9_goesPlan_129 rfl (lv_at hl 0 rfl) ?_
  refine lv_dup hx hb dX9_goesPlan_130 rfl ?_
  refine mm_get C0 hP iw_X9 0 rfl rfl 38 (by decide) fl_X9_285 rfl dX9_goesPlan_131 ?_
  refine lv_aload_n hx hb dX9_goesPlan_134 rfl (lv_at hl 0 rfl) ?_
  refine mm_get C0 hP iw_X9 0 rfl rfl 30 (by decide) fl_X9_214 rfl dX9_goesPlan_135 ?_
  refine lv_iadd hx hb dX9_goesPlan_138 ?_
  refine lv_topi (fun y_47 ey_47 => ?_)
  have hf := mm_nms hf ey_47
  refine mm_put C0 hP hD hS iw_X9 tyX9 tyX9_ok nmX9 0 rfl rfl 38 (by decide) fl_X9_285 rfl rfl rfl (Nat.le_of_ble_eq_true rfl) dX9_goesPlan_139 (w2 := (wd_X9 cI cL cS cH a v_keptMany v_done v_rowsOf v_columnsOf v_folded v_wronged v_tapeMany v_textMany w_24 w_25 w_26 w_27 w_28 w_29 w_30 w_31 v_planned y_46 y_47 v_z v_wishedField v_isFound v_bestWrong v_bestWorn v_bestMany v_soughtBy v_sought v_soughtAt v_foundMany v_foundOrder v_isKept v_imageRows v_imageColumns v_imageFolded v_imageWronged v_bodies v_ran v_ownKind v_ownNumber v_limit v_changeWas v_changeIs w_32 w_33 w_34 w_35 w_36 w_37 w_38 w_39 v_tape v_text w_40 w_41 w_42 w_43 w_44 v_planLine v_planWay v_way1 v_bestWay v_order1 v_placeIn v_bodyKind v_trace v_shelf v_many v_items v_carried)) rfl (fun H locs hP hD hS => ?_)
  obtain ⟨y_48, ey_48⟩ : ∃ z : Int32, z = x3 + (1 : Int32) := ⟨_, rfl⟩
  have hf := mm_nms hf ey_48
  refine lv_iinc (v := y_48) (lv' := [(3, .int y_48), (0, .ref (a 0)), (1, .int x1), (2, .int x2), (4, .int x4)]) hx hb dX9_goesPlan_142 hl (k := 3) rfl (by rw [ey_48]; rfl) (by decide) rfl (fun ls hl => ?_)
  refine lv_goto (tgt := 17) hx hb dX9_goesPlan_145 (by decide) ?_
  exact hk_17 _ _ _ _ _ _ _ _ _ _ _ _ _ _ _ _ _ _ _ _ _ _ _ _ _ _ _ _ _ _ _ _ _ _ _ _ H locs ls hf hP hD hS (lv_sub hl [1, 2, 3, 0] rfl)

def fX9_goesPlan_101 (N : Nat) (k_17 : Int32 → Int32 → Int32 → Int32 → Int32 → Int32 → Int32 → Int32 → Int32 → Int32 → Int32 → Int32 → Int32 → Int32 → Int32 → Int32 → Int32 → Int32 → List Int32 → List Int32 → List Int32 → List Int32 → List Int32 → List Int32 → List Int32 → List Int32 → List Int32 → List Int32 → List Int32 → List Int32 → List Int32 → List Int32 → List Int32 → List Int32 → List Int32 → List Int32 → Option (Int32 × Int32 × Int32 × Int32 × Int32 × Int32 × Int32 × Int32 × Int32 × Int32 × Int32 × Int32 × List Int32 × List Int32 × List Int32 × List Int32 × List Int32 × List Int32 × List Int32 × List Int32 × List Int32 × List Int32 × List Int32 × List Int32 × List Int32)) (x1 : Int32) (x2 : Int32) (x3 : Int32) (s0 : Int32) (v_rowsOf : Int32) (v_columnsOf : Int32) (v_textMany : Int32) (v_base : Int32) (v_at : Int32) (v_ends : Int32) (v_fault : Int32) (v_opened : Int32) (v_bentMany : Int32) (v_bentWrong : Int32) (v_moreWorn : Int32) (v_planned : Int32) (v_allWrong : Int32) (v_allWorn : Int32) (v_z : Int32) (v_limit : List Int32) (v_shapeRows : List Int32) (v_shapeColumns : List Int32) (v_row : List Int32) (v_column : List Int32) (v_below : List Int32) (v_face : List Int32) (v_worn : List Int32) (v_lastBend : List Int32) (v_tape : List Int32) (v_text : List Int32) (v_names : List Int32) (v_bends : List Int32) (v_high : List Int32) (v_to : List Int32) (v_pileSize : List Int32) (v_planLine : List Int32) (v_planWay : List Int32) : Option (Int32 × Int32 × Int32 × Int32 × Int32 × Int32 × Int32 × Int32 × Int32 × Int32 × Int32 × Int32 × List Int32 × List Int32 × List Int32 × List Int32 × List Int32 × List Int32 × List Int32 × List Int32 × List Int32 × List Int32 × List Int32 × List Int32 × List Int32) :=
    fX9_goesPlan_103 N k_17 x1 x2 x3 s0 v_rowsOf v_columnsOf v_textMany v_base v_at v_ends v_fault v_opened v_bentMany v_bentWrong v_moreWorn v_planned v_allWrong v_allWorn v_z v_limit v_shapeRows v_shapeColumns v_row v_column v_below v_face v_worn v_lastBend v_tape v_text v_names v_bends v_high v_to v_pileSize v_planLine v_planWay

set_option maxHeartbeats 4000000 in
set_option maxRecDepth 100000 in
theorem tX9_goesPlan_101 {p : Program} {l : Launch} {e : Env} {s : State} {m : MethodId} {args : Array Value} {below : List Frame} {meth : Method} {c : Code} {D : va_G} {cI cL cS cH : ClassId} {A : Nat → Prop} {d : Nat} {a : Nat → Nat} (hd : 60 ≤ d) (C0 : mm_Cx p s m args meth c RX9 cX9_goesPlan 5 (some .int) D (mm_T cI cL cS cH) A) (hA : ∀ q, s.heap.size ≤ q → A q) {v_keptMany : Int32} {v_done : Int32} {v_folded : Int32} {v_wronged : Int32} {v_tapeMany : Int32} {v_wishedField : Int32} {v_isFound : Bool} {v_bestWrong : Int32} {v_bestWorn : Int32} {v_bestMany : Int32} {v_soughtBy : Int32} {v_sought : Int32} {v_soughtAt : Int32} {v_foundMany : Int32} {v_foundOrder : Int32} {v_isKept : Bool} {v_imageRows : Int32} {v_imageColumns : Int32} {v_imageFolded : Int32} {v_imageWronged : Int32} {v_bodies : Int32} {v_ran : Int32} {v_ownKind : Int32} {v_ownNumber : Int32} {v_changeWas : List Int32} {v_changeIs : List Int32} {v_way1 : List Int32} {v_bestWay : List Int32} {v_order1 : List Int32} {v_placeIn : List Int32} {v_bodyKind : List Int32} {v_trace : List Int32} {v_shelf : List Int32} {v_many : List Int32} {v_items : List Int64} {v_carried : List Int64} {r : Int32} {w_base : Int32} {w_at : Int32} {w_ends : Int32} {w_fault : Int32} {w_opened : Int32} {w_bentMany : Int32} {w_bentWrong : Int32} {w_moreWorn : Int32} {w_allWrong : Int32} {w_allWorn : Int32} {w_z : Int32} {w_shapeRows : List Int32} {w_shapeColumns : List Int32} {w_row : List Int32} {w_column : List Int32} {w_below : List Int32} {w_face : List Int32} {w_worn : List Int32} {w_lastBend : List Int32} {w_names : List Int32} {w_bends : List Int32} {w_high : List Int32} {w_to : List Int32} {w_pileSize : List Int32} (N : Nat) {k_17 : Int32 → Int32 → Int32 → Int32 → Int32 → Int32 → Int32 → Int32 → Int32 → Int32 → Int32 → Int32 → Int32 → Int32 → Int32 → Int32 → Int32 → Int32 → List Int32 → List Int32 → List Int32 → List Int32 → List Int32 → List Int32 → List Int32 → List Int32 → List Int32 → List Int32 → List Int32 → List Int32 → List Int32 → List Int32 → List Int32 → List Int32 → List Int32 → List Int32 → Option (Int32 × Int32 × Int32 × Int32 × Int32 × Int32 × Int32 × Int32 × Int32 × Int32 × Int32 × Int32 × List Int32 × List Int32 × List Int32 × List Int32 × List Int32 × List Int32 × List Int32 × List Int32 × List Int32 × List Int32 × List Int32 × List Int32 × List Int32)} (hk_17 : ∀ (x1 : Int32) (x2 : Int32) (x3 : Int32) (v_rowsOf : Int32) (v_columnsOf : Int32) (v_textMany : Int32) (v_base : Int32) (v_at : Int32) (v_ends : Int32) (v_fault : Int32) (v_opened : Int32) (v_bentMany : Int32) (v_bentWrong : Int32) (v_moreWorn : Int32) (v_planned : Int32) (v_allWrong : Int32) (v_allWorn : Int32) (v_z : Int32) (v_limit : List Int32) (v_shapeRows : List Int32) (v_shapeColumns : List Int32) (v_row : List Int32) (v_column : List Int32) (v_below : List Int32) (v_face : List Int32) (v_worn : List Int32) (v_lastBend : List Int32) (v_tape : List Int32) (v_text : List Int32) (v_names : List Int32) (v_bends : List Int32) (v_high : List Int32) (v_to : List Int32) (v_pileSize : List Int32) (v_planLine : List Int32) (v_planWay : List Int32) (H : Heap) (locs : List Loc) (ls : Array Slot), k_17 x1 x2 x3 v_rowsOf v_columnsOf v_textMany v_base v_at v_ends v_fault v_opened v_bentMany v_bentWrong v_moreWorn v_planned v_allWrong v_allWorn v_z v_limit v_shapeRows v_shapeColumns v_row v_column v_below v_face v_worn v_lastBend v_tape v_text v_names v_bends v_high v_to v_pileSize v_planLine v_planWay = some (r, w_base, w_at, w_ends, w_fault, w_opened, w_bentMany, w_bentWrong, w_moreWorn, w_allWrong, w_allWorn, w_z, w_shapeRows, w_shapeColumns, w_row, w_column, w_below, w_face, w_worn, w_lastBend, w_names, w_bends, w_high, w_to, w_pileSize) → va_P D mm_cl (wd_X9 cI cL cS cH a v_keptMany v_done v_rowsOf v_columnsOf v_folded v_wronged v_tapeMany v_textMany v_base v_at v_ends v_fault v_opened v_bentMany v_bentWrong v_moreWorn v_planned v_allWrong v_allWorn v_z v_wishedField v_isFound v_bestWrong v_bestWorn v_bestMany v_soughtBy v_sought v_soughtAt v_foundMany v_foundOrder v_isKept v_imageRows v_imageColumns v_imageFolded v_imageWronged v_bodies v_ran v_ownKind v_ownNumber v_limit v_changeWas v_changeIs v_shapeRows v_shapeColumns v_row v_column v_below v_face v_worn v_lastBend v_tape v_text v_names v_bends v_high v_to v_pileSize v_planLine v_planWay v_way1 v_bestWay v_order1 v_placeIn v_bodyKind v_trace v_shelf v_many v_items v_carried) H → va_D A (wd_X9 cI cL cS cH a v_keptMany v_done v_rowsOf v_columnsOf v_folded v_wronged v_tapeMany v_textMany v_base v_at v_ends v_fault v_opened v_bentMany v_bentWrong v_moreWorn v_planned v_allWrong v_allWorn v_z v_wishedField v_isFound v_bestWrong v_bestWorn v_bestMany v_soughtBy v_sought v_soughtAt v_foundMany v_foundOrder v_isKept v_imageRows v_imageColumns v_imageFolded v_imageWronged v_bodies v_ran v_ownKind v_ownNumber v_limit v_changeWas v_changeIs v_shapeRows v_shapeColumns v_row v_column v_below v_face v_worn v_lastBend v_tape v_text v_names v_bends v_high v_to v_pileSize v_planLine v_planWay v_way1 v_bestWay v_order1 v_placeIn v_bodyKind v_trace v_shelf v_many v_items v_carried) → va_S A s.heap H locs → lv_has ls 5 [(0, .ref (a 0)), (1, .int x1), (2, .int x2), (3, .int x3)] → W p l e (mm_rr d) s m args below meth c H locs 0 0 (mm_Z below D A (wd_X9 cI cL cS cH a v_keptMany v_done v_rowsOf v_columnsOf v_folded v_wronged v_tapeMany v_textMany w_base w_at w_ends w_fault w_opened w_bentMany w_bentWrong w_moreWorn v_planned w_allWrong w_allWorn w_z v_wishedField v_isFound v_bestWrong v_bestWorn v_bestMany v_soughtBy v_sought v_soughtAt v_foundMany v_foundOrder v_isKept v_imageRows v_imageColumns v_imageFolded v_imageWronged v_bodies v_ran v_ownKind v_ownNumber v_limit v_changeWas v_changeIs w_shapeRows w_shapeColumns w_row w_column w_below w_face w_worn w_lastBend v_tape v_text w_names w_bends w_high w_to w_pileSize v_planLine v_planWay v_way1 v_bestWay v_order1 v_placeIn v_bodyKind v_trace v_shelf v_many v_items v_carried) (some (.int r)) args s) (F0 m 17 ls [])) : ∀ (x1 : Int32) (x2 : Int32) (x3 : Int32) (s0 : Int32) (v_rowsOf : Int32) (v_columnsOf : Int32) (v_textMany : Int32) (v_base : Int32) (v_at : Int32) (v_ends : Int32) (v_fault : Int32) (v_opened : Int32) (v_bentMany : Int32) (v_bentWrong : Int32) (v_moreWorn : Int32) (v_planned : Int32) (v_allWrong : Int32) (v_allWorn : Int32) (v_z : Int32) (v_limit : List Int32) (v_shapeRows : List Int32) (v_shapeColumns : List Int32) (v_row : List Int32) (v_column : List Int32) (v_below : List Int32) (v_face : List Int32) (v_worn : List Int32) (v_lastBend : List Int32) (v_tape : List Int32) (v_text : List Int32) (v_names : List Int32) (v_bends : List Int32) (v_high : List Int32) (v_to : List Int32) (v_pileSize : List Int32) (v_planLine : List Int32) (v_planWay : List Int32) (H : Heap) (locs : List Loc) (ls : Array Slot), fX9_goesPlan_101 N k_17 x1 x2 x3 s0 v_rowsOf v_columnsOf v_textMany v_base v_at v_ends v_fault v_opened v_bentMany v_bentWrong v_moreWorn v_planned v_allWrong v_allWorn v_z v_limit v_shapeRows v_shapeColumns v_row v_column v_below v_face v_worn v_lastBend v_tape v_text v_names v_bends v_high v_to v_pileSize v_planLine v_planWay = some (r, w_base, w_at, w_ends, w_fault, w_opened, w_bentMany, w_bentWrong, w_moreWorn, w_allWrong, w_allWorn, w_z, w_shapeRows, w_shapeColumns, w_row, w_column, w_below, w_face, w_worn, w_lastBend, w_names, w_bends, w_high, w_to, w_pileSize) → va_P D mm_cl (wd_X9 cI cL cS cH a v_keptMany v_done v_rowsOf v_columnsOf v_folded v_wronged v_tapeMany v_textMany v_base v_at v_ends v_fault v_opened v_bentMany v_bentWrong v_moreWorn v_planned v_allWrong v_allWorn v_z v_wishedField v_isFound v_bestWrong v_bestWorn v_bestMany v_soughtBy v_sought v_soughtAt v_foundMany v_foundOrder v_isKept v_imageRows v_imageColumns v_imageFolded v_imageWronged v_bodies v_ran v_ownKind v_ownNumber v_limit v_changeWas v_changeIs v_shapeRows v_shapeColumns v_row v_column v_below v_face v_worn v_lastBend v_tape v_text v_names v_bends v_high v_to v_pileSize v_planLine v_planWay v_way1 v_bestWay v_order1 v_placeIn v_bodyKind v_trace v_shelf v_many v_items v_carried) H → va_D A (wd_X9 cI cL cS cH a v_keptMany v_done v_rowsOf v_columnsOf v_folded v_wronged v_tapeMany v_textMany v_base v_at v_ends v_fault v_opened v_bentMany v_bentWrong v_moreWorn v_planned v_allWrong v_allWorn v_z v_wishedField v_isFound v_bestWrong v_bestWorn v_bestMany v_soughtBy v_sought v_soughtAt v_foundMany v_foundOrder v_isKept v_imageRows v_imageColumns v_imageFolded v_imageWronged v_bodies v_ran v_ownKind v_ownNumber v_limit v_changeWas v_changeIs v_shapeRows v_shapeColumns v_row v_column v_below v_face v_worn v_lastBend v_tape v_text v_names v_bends v_high v_to v_pileSize v_planLine v_planWay v_way1 v_bestWay v_order1 v_placeIn v_bodyKind v_trace v_shelf v_many v_items v_carried) → va_S A s.heap H locs → lv_has ls 5 [(0, .ref (a 0)), (1, .int x1), (2, .int x2), (3, .int x3)] → W p l e (mm_rr d) s m args below meth c H locs 0 0 (mm_Z below D A (wd_X9 cI cL cS cH a v_keptMany v_done v_rowsOf v_columnsOf v_folded v_wronged v_tapeMany v_textMany w_base w_at w_ends w_fault w_opened w_bentMany w_bentWrong w_moreWorn v_planned w_allWrong w_allWorn w_z v_wishedField v_isFound v_bestWrong v_bestWorn v_bestMany v_soughtBy v_sought v_soughtAt v_foundMany v_foundOrder v_isKept v_imageRows v_imageColumns v_imageFolded v_imageWronged v_bodies v_ran v_ownKind v_ownNumber v_limit v_changeWas v_changeIs w_shapeRows w_shapeColumns w_row w_column w_below w_face w_worn w_lastBend v_tape v_text w_names w_bends w_high w_to w_pileSize v_planLine v_planWay v_way1 v_bestWay v_order1 v_placeIn v_bodyKind v_trace v_shelf v_many v_items v_carried) (some (.int r)) args s) (F0 m 101 ls [.int s0]) := by
  obtain ⟨hx, hb, hml, hown, hts, hr, hlocks, hK, hSt⟩ := id C0
  intro x1 x2 x3 s0 v_rowsOf v_columnsOf v_textMany v_base v_at v_ends v_fault v_opened v_bentMany v_bentWrong v_moreWorn v_planned v_allWrong v_allWorn v_z v_limit v_shapeRows v_shapeColumns v_row v_column v_below v_face v_worn v_lastBend v_tape v_text v_names v_bends v_high v_to v_pileSize v_planLine v_planWay H locs ls hf hP hD hS hl
  unfold fX9_goesPlan_101 at hf
  refine lv_istore (lv' := [(4, .int s0), (0, .ref (a 0)), (1, .int x1), (2, .int x2), (3, .int x3)]) hx hb dX9_goesPlan_101 hl (by decide) rfl (fun ls hl => ?_)
  exact tX9_goesPlan_103 hd C0 hA N hk_17 _ _ _ _ _ _ _ _ _ _ _ _ _ _ _ _ _ _ _ _ _ _ _ _ _ _ _ _ _ _ _ _ _ _ _ _ _ H locs ls hf hP hD hS (lv_sub hl [1, 2, 3, 4, 0] rfl)

def fX9_goesPlan_17 (N : Nat)  : Nat → Int32 → Int32 → Int32 → Int32 → Int32 → Int32 → Int32 → Int32 → Int32 → Int32 → Int32 → Int32 → Int32 → Int32 → Int32 → Int32 → Int32 → Int32 → List Int32 → List Int32 → List Int32 → List Int32 → List Int32 → List Int32 → List Int32 → List Int32 → List Int32 → List Int32 → List Int32 → List Int32 → List Int32 → List Int32 → List Int32 → List Int32 → List Int32 → List Int32 → Option (Int32 × Int32 × Int32 × Int32 × Int32 × Int32 × Int32 × Int32 × Int32 × Int32 × Int32 × Int32 × List Int32 × List Int32 × List Int32 × List Int32 × List Int32 × List Int32 × List Int32 × List Int32 × List Int32 × List Int32 × List Int32 × List Int32 × List Int32)
  | 0 => fun _ _ _ _ _ _ _ _ _ _ _ _ _ _ _ _ _ _ _ _ _ _ _ _ _ _ _ _ _ _ _ _ _ _ _ _ => none
  | n + 1 => fun x1 x2 x3 v_rowsOf v_columnsOf v_textMany v_base v_at v_ends v_fault v_opened v_bentMany v_bentWrong v_moreWorn v_planned v_allWrong v_allWorn v_z v_limit v_shapeRows v_shapeColumns v_row v_column v_below v_face v_worn v_lastBend v_tape v_text v_names v_bends v_high v_to v_pileSize v_planLine v_planWay =>
    if v_planned ≤ x3 then
    (some (x3, v_base, v_at, v_ends, v_fault, v_opened, v_bentMany, v_bentWrong, v_moreWorn, v_allWrong, v_allWorn, v_z, v_shapeRows, v_shapeColumns, v_row, v_column, v_below, v_face, v_worn, v_lastBend, v_names, v_bends, v_high, v_to, v_pileSize))
    else (if x1 ≤ x3 then
    (some (x3, v_base, v_at, v_ends, v_fault, v_opened, v_bentMany, v_bentWrong, v_moreWorn, v_allWrong, v_allWorn, v_z, v_shapeRows, v_shapeColumns, v_row, v_column, v_below, v_face, v_worn, v_lastBend, v_names, v_bends, v_high, v_to, v_pileSize))
    else (mm_ck (mm_inb x3 v_planLine.length) (mm_ck (mm_inb x3 v_planWay.length) (mm_bd1 (fX9_isLine N (1 : Int32) (mm_ig v_planLine x3) (mm_ig v_planWay x3) v_shapeRows v_shapeColumns) (fun (r_14 : Bool) =>
    if r_14 = false then
    (some (x3, v_base, v_at, v_ends, v_fault, v_opened, v_bentMany, v_bentWrong, v_moreWorn, v_allWrong, v_allWorn, v_z, v_shapeRows, v_shapeColumns, v_row, v_column, v_below, v_face, v_worn, v_lastBend, v_names, v_bends, v_high, v_to, v_pileSize))
    else (mm_ck (mm_inb x3 v_planWay.length) (mm_nm ((mm_ig v_planWay x3)) (fun (y_18 : Int32) =>
    if x2 < 0 then
    (fX9_goesPlan_103 N (fX9_goesPlan_17 N n) x1 x2 x3 y_18 v_rowsOf v_columnsOf v_textMany v_base v_at v_ends v_fault v_opened v_bentMany v_bentWrong v_moreWorn v_planned v_allWrong v_allWorn v_z v_limit v_shapeRows v_shapeColumns v_row v_column v_below v_face v_worn v_lastBend v_tape v_text v_names v_bends v_high v_to v_pileSize v_planLine v_planWay)
    else (mm_nm (((v_z * (1103515245 : Int32)) + (12345 : Int32))) (fun (y_20 : Int32) =>
    mm_ck (mm_nz (100 : Int32)) (if x2 ≤ (mm_rem ((y_20.toUInt32 >>> ((8 : Int32).toUInt32 &&& Int32.toUInt32 31)).toInt32) (100 : Int32)) then
    (fX9_goesPlan_101 N (fX9_goesPlan_17 N n) x1 x2 x3 y_18 v_rowsOf v_columnsOf v_textMany v_base v_at v_ends v_fault v_opened v_bentMany v_bentWrong v_moreWorn v_planned v_allWrong v_allWorn y_20 v_limit v_shapeRows v_shapeColumns v_row v_column v_below v_face v_worn v_lastBend v_tape v_text v_names v_bends v_high v_to v_pileSize v_planLine v_planWay)
    else (fX9_goesPlan_101 N (fX9_goesPlan_17 N n) x1 x2 x3 (y_18 ^^^ (1 : Int32)) v_rowsOf v_columnsOf v_textMany v_base v_at v_ends v_fault v_opened v_bentMany v_bentWrong v_moreWorn v_planned v_allWrong v_allWorn y_20 v_limit v_shapeRows v_shapeColumns v_row v_column v_below v_face v_worn v_lastBend v_tape v_text v_names v_bends v_high v_to v_pileSize v_planLine v_planWay))))))))))))

set_option maxHeartbeats 4000000 in
set_option maxRecDepth 100000 in
theorem tX9_goesPlan_17 {p : Program} {l : Launch} {e : Env} {s : State} {m : MethodId} {args : Array Value} {below : List Frame} {meth : Method} {c : Code} {D : va_G} {cI cL cS cH : ClassId} {A : Nat → Prop} {d : Nat} {a : Nat → Nat} (hd : 60 ≤ d) (C0 : mm_Cx p s m args meth c RX9 cX9_goesPlan 5 (some .int) D (mm_T cI cL cS cH) A) (hA : ∀ q, s.heap.size ≤ q → A q) {v_keptMany : Int32} {v_done : Int32} {v_folded : Int32} {v_wronged : Int32} {v_tapeMany : Int32} {v_wishedField : Int32} {v_isFound : Bool} {v_bestWrong : Int32} {v_bestWorn : Int32} {v_bestMany : Int32} {v_soughtBy : Int32} {v_sought : Int32} {v_soughtAt : Int32} {v_foundMany : Int32} {v_foundOrder : Int32} {v_isKept : Bool} {v_imageRows : Int32} {v_imageColumns : Int32} {v_imageFolded : Int32} {v_imageWronged : Int32} {v_bodies : Int32} {v_ran : Int32} {v_ownKind : Int32} {v_ownNumber : Int32} {v_changeWas : List Int32} {v_changeIs : List Int32} {v_way1 : List Int32} {v_bestWay : List Int32} {v_order1 : List Int32} {v_placeIn : List Int32} {v_bodyKind : List Int32} {v_trace : List Int32} {v_shelf : List Int32} {v_many : List Int32} {v_items : List Int64} {v_carried : List Int64} {r : Int32} {w_base : Int32} {w_at : Int32} {w_ends : Int32} {w_fault : Int32} {w_opened : Int32} {w_bentMany : Int32} {w_bentWrong : Int32} {w_moreWorn : Int32} {w_allWrong : Int32} {w_allWorn : Int32} {w_z : Int32} {w_shapeRows : List Int32} {w_shapeColumns : List Int32} {w_row : List Int32} {w_column : List Int32} {w_below : List Int32} {w_face : List Int32} {w_worn : List Int32} {w_lastBend : List Int32} {w_names : List Int32} {w_bends : List Int32} {w_high : List Int32} {w_to : List Int32} {w_pileSize : List Int32} (N : Nat)  : ∀ (n : Nat), ∀ (x1 : Int32) (x2 : Int32) (x3 : Int32) (v_rowsOf : Int32) (v_columnsOf : Int32) (v_textMany : Int32) (v_base : Int32) (v_at : Int32) (v_ends : Int32) (v_fault : Int32) (v_opened : Int32) (v_bentMany : Int32) (v_bentWrong : Int32) (v_moreWorn : Int32) (v_planned : Int32) (v_allWrong : Int32) (v_allWorn : Int32) (v_z : Int32) (v_limit : List Int32) (v_shapeRows : List Int32) (v_shapeColumns : List Int32) (v_row : List Int32) (v_column : List Int32) (v_below : List Int32) (v_face : List Int32) (v_worn : List Int32) (v_lastBend : List Int32) (v_tape : List Int32) (v_text : List Int32) (v_names : List Int32) (v_bends : List Int32) (v_high : List Int32) (v_to : List Int32) (v_pileSize : List Int32) (v_planLine : List Int32) (v_planWay : List Int32) (H : Heap) (locs : List Loc) (ls : Array Slot), fX9_goesPlan_17 N n x1 x2 x3 v_rowsOf v_columnsOf v_textMany v_base v_at v_ends v_fault v_opened v_bentMany v_bentWrong v_moreWorn v_planned v_allWrong v_allWorn v_z v_limit v_shapeRows v_shapeColumns v_row v_column v_below v_face v_worn v_lastBend v_tape v_text v_names v_bends v_high v_to v_pileSize v_planLine v_planWay = some (r, w_base, w_at, w_ends, w_fault, w_opened, w_bentMany, w_bentWrong, w_moreWorn, w_allWrong, w_allWorn, w_z, w_shapeRows, w_shapeColumns, w_row, w_column, w_below, w_face, w_worn, w_lastBend, w_names, w_bends, w_high, w_to, w_pileSize) → va_P D mm_cl (wd_X9 cI cL cS cH a v_keptMany v_done v_rowsOf v_columnsOf v_folded v_wronged v_tapeMany v_textMany v_base v_at v_ends v_fault v_opened v_bentMany v_bentWrong v_moreWorn v_planned v_allWrong v_allWorn v_z v_wishedField v_isFound v_bestWrong v_bestWorn v_bestMany v_soughtBy v_sought v_soughtAt v_foundMany v_foundOrder v_isKept v_imageRows v_imageColumns v_imageFolded v_imageWronged v_bodies v_ran v_ownKind v_ownNumber v_limit v_changeWas v_changeIs v_shapeRows v_shapeColumns v_row v_column v_below v_face v_worn v_lastBend v_tape v_text v_names v_bends v_high v_to v_pileSize v_planLine v_planWay v_way1 v_bestWay v_order1 v_placeIn v_bodyKind v_trace v_shelf v_many v_items v_carried) H → va_D A (wd_X9 cI cL cS cH a v_keptMany v_done v_rowsOf v_columnsOf v_folded v_wronged v_tapeMany v_textMany v_base v_at v_ends v_fault v_opened v_bentMany v_bentWrong v_moreWorn v_planned v_allWrong v_allWorn v_z v_wishedField v_isFound v_bestWrong v_bestWorn v_bestMany v_soughtBy v_sought v_soughtAt v_foundMany v_foundOrder v_isKept v_imageRows v_imageColumns v_imageFolded v_imageWronged v_bodies v_ran v_ownKind v_ownNumber v_limit v_changeWas v_changeIs v_shapeRows v_shapeColumns v_row v_column v_below v_face v_worn v_lastBend v_tape v_text v_names v_bends v_high v_to v_pileSize v_planLine v_planWay v_way1 v_bestWay v_order1 v_placeIn v_bodyKind v_trace v_shelf v_many v_items v_carried) → va_S A s.heap H locs → lv_has ls 5 [(0, .ref (a 0)), (1, .int x1), (2, .int x2), (3, .int x3)] → W p l e (mm_rr d) s m args below meth c H locs 0 0 (mm_Z below D A (wd_X9 cI cL cS cH a v_keptMany v_done v_rowsOf v_columnsOf v_folded v_wronged v_tapeMany v_textMany w_base w_at w_ends w_fault w_opened w_bentMany w_bentWrong w_moreWorn v_planned w_allWrong w_allWorn w_z v_wishedField v_isFound v_bestWrong v_bestWorn v_bestMany v_soughtBy v_sought v_soughtAt v_foundMany v_foundOrder v_isKept v_imageRows v_imageColumns v_imageFolded v_imageWronged v_bodies v_ran v_ownKind v_ownNumber v_limit v_changeWas v_changeIs w_shapeRows w_shapeColumns w_row w_column w_below w_face w_worn w_lastBend v_tape v_text w_names w_bends w_high w_to w_pileSize v_planLine v_planWay v_way1 v_bestWay v_order1 v_placeIn v_bodyKind v_trace v_shelf v_many v_items v_carried) (some (.int r)) args s) (F0 m 17 ls []) := by
  obtain ⟨hx, hb, hml, hown, hts, hr, hlocks, hK, hSt⟩ := id C0
  intro n
  induction n with
  | zero =>
    intro x1 x2 x3 v_rowsOf v_columnsOf v_textMany v_base v_at v_ends v_fault v_opened v_bentMany v_bentWrong v_moreWorn v_planned v_allWrong v_allWorn v_z v_limit v_shapeRows v_shapeColumns v_row v_column v_below v_face v_worn v_lastBend v_tape v_text v_names v_bends v_high v_to v_pileSize v_planLine v_planWay H locs ls hf
    cases (show none = some _ from hf)
  | succ n ih =>
    intro x1 x2 x3 v_rowsOf v_columnsOf v_textMany v_base v_at v_ends v_fault v_opened v_bentMany v_bentWrong v_moreWorn v_planned v_allWrong v_allWorn v_z v_limit v_shapeRows v_shapeColumns v_row v_column v_below v_face v_worn v_lastBend v_tape v_text v_names v_bends v_high v_to v_pileSize v_planLine v_planWay H locs ls hf hP hD hS hl
    unfold fX9_goesPlan_17 at hf
    refine lv_iload_n hx hb dX9_goesPlan_17 rfl (lv_at hl 3 rfl) ?_
    refine lv_aload_n hx hb dX9_goesPlan_18 rfl (lv_at hl 0 rfl) ?_
    refine mm_get C0 hP iw_X9 0 rfl rfl 36 (by decide) fl_X9_271 rfl dX9_goesPlan_19 ?_
    refine lv_icmp_ge (tgt := 148) hx hb dX9_goesPlan_22 (by decide) (fun c_10 => ?_) (fun c_10 => ?_)
    · have hf := mm_ip hf c_10
      refine lv_iload_n hx hb dX9_goesPlan_148 rfl (lv_at hl 3 rfl) ?_
      apply mm_sub25 hf
      exact mm_iret C0 hP hD hS dX9_goesPlan_149
    · have hf := mm_in hf c_10
      refine lv_iload_n hx hb dX9_goesPlan_25 rfl (lv_at hl 3 rfl) ?_
      refine lv_iload_n hx hb dX9_goesPlan_26 rfl (lv_at hl 1 rfl) ?_
      refine lv_icmp_ge (tgt := 148) hx hb dX9_goesPlan_27 (by decide) (fun c_11 => ?_) (fun c_11 => ?_)
      · have hf := mm_ip hf c_11
        refine lv_iload_n hx hb dX9_goesPlan_148 rfl (lv_at hl 3 rfl) ?_
        apply mm_sub25 hf
        exact mm_iret C0 hP hD hS dX9_goesPlan_149
      · have hf := mm_in hf c_11
        refine lv_aload_n hx hb dX9_goesPlan_30 rfl (lv_at hl 0 rfl) ?_
        refine lv_iconst (v := 1) hx hb dX9_goesPlan_31 (by decide) ?_
        refine lv_aload_n hx hb dX9_goesPlan_32 rfl (lv_at hl 0 rfl) ?_
        refine mm_get C0 hP iw_X9 0 rfl rfl 34 (by decide) fl_X9_64 rfl dX9_goesPlan_33 ?_
        refine lv_iload_n hx hb dX9_goesPlan_36 rfl (lv_at hl 3 rfl) ?_
        obtain ⟨h_12, hf⟩ := mm_cks hf
        refine mm_iald C0 hP 19 rfl h_12 dX9_goesPlan_37 ?_
        refine lv_aload_n hx hb dX9_goesPlan_38 rfl (lv_at hl 0 rfl) ?_
        refine mm_get C0 hP iw_X9 0 rfl rfl 35 (by decide) fl_X9_67 rfl dX9_goesPlan_39 ?_
        refine lv_iload_n hx hb dX9_goesPlan_42 rfl (lv_at hl 3 rfl) ?_
        obtain ⟨h_13, hf⟩ := mm_cks hf
        refine mm_iald C0 hP 20 rfl h_13 dX9_goesPlan_43 ?_
        obtain ⟨r_14, hc_15, hf⟩ := mm_bd1s hf
        refine mm_callVF (q0 := 0) (ci := 9) (rest := []) C0 lk_X9_240 (ctX9_isLine (a := a) (d := d - 1) (by omega) hc_15) (by omega) rfl hl.1 rfl (mm_cat rfl) dX9_goesPlan_44 hP hD hA hS rfl rfl (fun H locs hP hD hS => ?_)
        refine W.eq (g2 := F0 m 47 ls [.int (mm_b r_14)]) rfl ?_
        refine lv_if_eq (tgt := 148) hx hb dX9_goesPlan_47 (by decide) (fun c_16 => ?_) (fun c_16 => ?_)
        · have hf := mm_ip hf (mm_b0 c_16)
          refine lv_iload_n hx hb dX9_goesPlan_148 rfl (lv_at hl 3 rfl) ?_
          apply mm_sub25 hf
          exact mm_iret C0 hP hD hS dX9_goesPlan_149
        · have hf := mm_in hf (mm_b1 c_16)
          refine lv_aload_n hx hb dX9_goesPlan_50 rfl (lv_at hl 0 rfl) ?_
          refine mm_get C0 hP iw_X9 0 rfl rfl 35 (by decide) fl_X9_67 rfl dX9_goesPlan_51 ?_
          refine lv_iload_n hx hb dX9_goesPlan_54 rfl (lv_at hl 3 rfl) ?_
          obtain ⟨h_17, hf⟩ := mm_cks hf
          refine mm_iald C0 hP 20 rfl h_17 dX9_goesPlan_55 ?_
          refine lv_topi (fun y_18 ey_18 => ?_)
          have hf := mm_nms hf ey_18
          refine lv_istore (lv' := [(4, .int y_18), (0, .ref (a 0)), (1, .int x1), (2, .int x2), (3, .int x3)]) hx hb dX9_goesPlan_56 hl (by decide) rfl (fun ls hl => ?_)
          refine lv_iload_n hx hb dX9_goesPlan_58 rfl (lv_at hl 3 rfl) ?_
          refine lv_if_lt (tgt := 103) hx hb dX9_goesPlan_59 (by decide) (fun c_19 => ?_) (fun c_19 => ?_)
          · have hf := mm_ip hf c_19
            exact tX9_goesPlan_103 hd C0 hA N ih _ _ _ _ _ _ _ _ _ _ _ _ _ _ _ _ _ _ _ _ _ _ _ _ _ _ _ _ _ _ _ _ _ _ _ _ _ H locs ls hf hP hD hS (lv_sub hl [1, 2, 3, 4, 0] rfl)
          · have hf := mm_in hf c_19
            refine lv_aload_n hx hb dX9_goesPlan_62 rfl (lv_at hl 1 rfl) ?_
            refine lv_aload_n hx hb dX9_goesPlan_63 rfl (lv_at hl 1 rfl) ?_
            refine mm_get C0 hP iw_X9 0 rfl rfl 39 (by decide) fl_X9_288 rfl dX9_goesPlan_64 ?_
            refine lv_ldcw hx hb hown (hts _ kc_X9_291) dX9_goesPlan_67 ?_
            refine lv_imul hx hb dX9_goesPlan_70 ?_
            refine lv_sipush (v := 12345) hx hb dX9_goesPlan_71 (by decide) ?_
            refine lv_iadd hx hb dX9_goesPlan_74 ?_
            refine lv_topi (fun y_20 ey_20 => ?_)
            have hf := mm_nms hf ey_20
            refine mm_put C0 hP hD hS iw_X9 tyX9 tyX9_ok nmX9 0 rfl rfl 39 (by decide) fl_X9_288 rfl rfl rfl (Nat.le_of_ble_eq_true rfl) dX9_goesPlan_75 (w2 := (wd_X9 cI cL cS cH a v_keptMany v_done v_rowsOf v_columnsOf v_folded v_wronged v_tapeMany v_textMany v_base v_at v_ends v_fault v_opened v_bentMany v_bentWrong v_moreWorn v_planned v_allWrong v_allWorn y_20 v_wishedField v_isFound v_bestWrong v_bestWorn v_bestMany v_soughtBy v_sought v_soughtAt v_foundMany v_foundOrder v_isKept v_imageRows v_imageColumns v_imageFolded v_imageWronged v_bodies v_ran v_ownKind v_ownNumber v_limit v_changeWas v_changeIs v_shapeRows v_shapeColumns v_row v_column v_below v_face v_worn v_lastBend v_tape v_text v_names v_bends v_high v_to v_pileSize v_planLine v_planWay v_way1 v_bestWay v_order1 v_placeIn v_bodyKind v_trace v_shelf v_many v_items v_carried)) rfl (fun H locs hP hD hS => ?_)
            refine lv_aload_n hx hb dX9_goesPlan_78 rfl (lv_at hl 1 rfl) ?_
            refine mm_get C0 hP iw_X9 0 rfl rfl 39 (by decide) fl_X9_288 rfl dX9_goesPlan_79 ?_
            refine lv_bipush (v := 8) hx hb dX9_goesPlan_82 (by decide) ?_
            refine lv_iushr hx hb dX9_goesPlan_84 rfl ?_
            refine lv_bipush (v := 100) hx hb dX9_goesPlan_85 (by decide) ?_
            obtain ⟨h_21, hf⟩ := mm_cks hf
            refine lv_irem hx hb dX9_goesPlan_87 (mm_nzs h_21) ?_
            refine lv_iload_n hx hb dX9_goesPlan_88 rfl (lv_at hl 3 rfl) ?_
            refine lv_icmp_ge (tgt := 99) hx hb dX9_goesPlan_89 (by decide) (fun c_22 => ?_) (fun c_22 => ?_)
            · have hf := mm_ip hf c_22
              refine lv_iload hx hb dX9_goesPlan_99 (lv_at hl 0 rfl) ?_
              exact tX9_goesPlan_101 hd C0 hA N ih _ _ _ _ _ _ _ _ _ _ _ _ _ _ _ _ _ _ _ _ _ _ _ _ _ _ _ _ _ _ _ _ _ _ _ _ _ H locs ls hf hP hD hS (lv_sub hl [1, 2, 3, 4] rfl)
            · have hf := mm_in hf c_22
              refine lv_iload hx hb dX9_goesPlan_92 (lv_at hl 0 rfl) ?_
              refine lv_iconst (v := 1) hx hb dX9_goesPlan_94 (by decide) ?_
              refine lv_ixor hx hb dX9_goesPlan_95 ?_
              refine lv_goto (tgt := 101) hx hb dX9_goesPlan_96 (by decide) ?_
              exact tX9_goesPlan_101 hd C0 hA N ih _ _ _ _ _ _ _ _ _ _ _ _ _ _ _ _ _ _ _ _ _ _ _ _ _ _ _ _ _ _ _ _ _ _ _ _ _ H locs ls hf hP hD hS (lv_sub hl [1, 2, 3, 4] rfl)

def fX9_goesPlan (N : Nat) (x1 : Int32) (x2 : Int32) (v_rowsOf : Int32) (v_columnsOf : Int32) (v_textMany : Int32) (v_base : Int32) (v_at : Int32) (v_ends : Int32) (v_fault : Int32) (v_opened : Int32) (v_bentMany : Int32) (v_bentWrong : Int32) (v_moreWorn : Int32) (v_planned : Int32) (v_allWrong : Int32) (v_allWorn : Int32) (v_z : Int32) (v_limit : List Int32) (v_shapeRows : List Int32) (v_shapeColumns : List Int32) (v_row : List Int32) (v_column : List Int32) (v_below : List Int32) (v_face : List Int32) (v_worn : List Int32) (v_lastBend : List Int32) (v_tape : List Int32) (v_text : List Int32) (v_names : List Int32) (v_bends : List Int32) (v_high : List Int32) (v_to : List Int32) (v_pileSize : List Int32) (v_planLine : List Int32) (v_planWay : List Int32) : Option (Int32 × Int32 × Int32 × Int32 × Int32 × Int32 × Int32 × Int32 × Int32 × Int32 × Int32 × Int32 × List Int32 × List Int32 × List Int32 × List Int32 × List Int32 × List Int32 × List Int32 × List Int32 × List Int32 × List Int32 × List Int32 × List Int32 × List Int32) :=
    mm_bd8 (fX9_startsAt N (1 : Int32) v_rowsOf v_columnsOf v_shapeRows v_shapeColumns v_row v_column v_below v_face v_worn v_lastBend) (fun (w_1 : List Int32) (w_2 : List Int32) (w_3 : List Int32) (w_4 : List Int32) (w_5 : List Int32) (w_6 : List Int32) (w_7 : List Int32) (w_8 : List Int32) =>
    fX9_goesPlan_17 N N x1 x2 (0 : Int32) v_rowsOf v_columnsOf v_textMany v_base v_at v_ends v_fault v_opened v_bentMany v_bentWrong v_moreWorn v_planned (0 : Int32) (0 : Int32) v_z v_limit w_1 w_2 w_3 w_4 w_5 w_6 w_7 w_8 v_tape v_text v_names v_bends v_high v_to v_pileSize v_planLine v_planWay)

set_option maxHeartbeats 4000000 in
set_option maxRecDepth 100000 in
theorem ctX9_goesPlan {l : Launch} {D : va_G} {cI cL cS cH : ClassId} {a : Nat → Nat} {x1 : Int32} {x2 : Int32} {v_keptMany : Int32} {v_done : Int32} {v_rowsOf : Int32} {v_columnsOf : Int32} {v_folded : Int32} {v_wronged : Int32} {v_tapeMany : Int32} {v_textMany : Int32} {v_base : Int32} {v_at : Int32} {v_ends : Int32} {v_fault : Int32} {v_opened : Int32} {v_bentMany : Int32} {v_bentWrong : Int32} {v_moreWorn : Int32} {v_planned : Int32} {v_allWrong : Int32} {v_allWorn : Int32} {v_z : Int32} {v_wishedField : Int32} {v_isFound : Bool} {v_bestWrong : Int32} {v_bestWorn : Int32} {v_bestMany : Int32} {v_soughtBy : Int32} {v_sought : Int32} {v_soughtAt : Int32} {v_foundMany : Int32} {v_foundOrder : Int32} {v_isKept : Bool} {v_imageRows : Int32} {v_imageColumns : Int32} {v_imageFolded : Int32} {v_imageWronged : Int32} {v_bodies : Int32} {v_ran : Int32} {v_ownKind : Int32} {v_ownNumber : Int32} {v_limit : List Int32} {v_changeWas : List Int32} {v_changeIs : List Int32} {v_shapeRows : List Int32} {v_shapeColumns : List Int32} {v_row : List Int32} {v_column : List Int32} {v_below : List Int32} {v_face : List Int32} {v_worn : List Int32} {v_lastBend : List Int32} {v_tape : List Int32} {v_text : List Int32} {v_names : List Int32} {v_bends : List Int32} {v_high : List Int32} {v_to : List Int32} {v_pileSize : List Int32} {v_planLine : List Int32} {v_planWay : List Int32} {v_way1 : List Int32} {v_bestWay : List Int32} {v_order1 : List Int32} {v_placeIn : List Int32} {v_bodyKind : List Int32} {v_trace : List Int32} {v_shelf : List Int32} {v_many : List Int32} {v_items : List Int64} {v_carried : List Int64} {r : Int32} {w_base : Int32} {w_at : Int32} {w_ends : Int32} {w_fault : Int32} {w_opened : Int32} {w_bentMany : Int32} {w_bentWrong : Int32} {w_moreWorn : Int32} {w_allWrong : Int32} {w_allWorn : Int32} {w_z : Int32} {w_shapeRows : List Int32} {w_shapeColumns : List Int32} {w_row : List Int32} {w_column : List Int32} {w_below : List Int32} {w_face : List Int32} {w_worn : List Int32} {w_lastBend : List Int32} {w_names : List Int32} {w_bends : List Int32} {w_high : List Int32} {w_to : List Int32} {w_pileSize : List Int32} {N d : Nat} (hd : 60 ≤ d) (hf : fX9_goesPlan N x1 x2 v_rowsOf v_columnsOf v_textMany v_base v_at v_ends v_fault v_opened v_bentMany v_bentWrong v_moreWorn v_planned v_allWrong v_allWorn v_z v_limit v_shapeRows v_shapeColumns v_row v_column v_below v_face v_worn v_lastBend v_tape v_text v_names v_bends v_high v_to v_pileSize v_planLine v_planWay = some (r, w_base, w_at, w_ends, w_fault, w_opened, w_bentMany, w_bentWrong, w_moreWorn, w_allWrong, w_allWorn, w_z, w_shapeRows, w_shapeColumns, w_row, w_column, w_below, w_face, w_worn, w_lastBend, w_names, w_bends, w_high, w_to, w_pileSize)) : mm_Ct l yX9_goesPlan cX9_goesPlan 5 (some .int) d D (mm_T cI cL cS cH) [.ref (a 0), .int x1, .int x2] (wd_X9 cI cL cS cH a v_keptMany v_done v_rowsOf v_columnsOf v_folded v_wronged v_tapeMany v_textMany v_base v_at v_ends v_fault v_opened v_bentMany v_bentWrong v_moreWorn v_planned v_allWrong v_allWorn v_z v_wishedField v_isFound v_bestWrong v_bestWorn v_bestMany v_soughtBy v_sought v_soughtAt v_foundMany v_foundOrder v_isKept v_imageRows v_imageColumns v_imageFolded v_imageWronged v_bodies v_ran v_ownKind v_ownNumber v_limit v_changeWas v_changeIs v_shapeRows v_shapeColumns v_row v_column v_below v_face v_worn v_lastBend v_tape v_text v_names v_bends v_high v_to v_pileSize v_planLine v_planWay v_way1 v_bestWay v_order1 v_placeIn v_bodyKind v_trace v_shelf v_many v_items v_carried) (wd_X9 cI cL cS cH a v_keptMany v_done v_rowsOf v_columnsOf v_folded v_wronged v_tapeMany v_textMany w_base w_at w_ends w_fault w_opened w_bentMany w_bentWrong w_moreWorn v_planned w_allWrong w_allWorn w_z v_wishedField v_isFound v_bestWrong v_bestWorn v_bestMany v_soughtBy v_sought v_soughtAt v_foundMany v_foundOrder v_isKept v_imageRows v_imageColumns v_imageFolded v_imageWronged v_bodies v_ran v_ownKind v_ownNumber v_limit v_changeWas v_changeIs w_shapeRows w_shapeColumns w_row w_column w_below w_face w_worn w_lastBend v_tape v_text w_names w_bends w_high w_to w_pileSize v_planLine v_planWay v_way1 v_bestWay v_order1 v_placeIn v_bodyKind v_trace v_shelf v_many v_items v_carried) (some (.int r)) := by
  refine mm_of (by decide) (Nat.le_of_ble_eq_true rfl) ?_
  intro p e s m args below meth c A H locs ls C0 hP hD hA hS hl
  have C0 : mm_Cx p s m args meth c RX9 cX9_goesPlan 5 (some .int) D (mm_T cI cL cS cH) A := C0
  obtain ⟨hx, hb, hml, hown, hts, hr, hlocks, hK, hSt⟩ := id C0
  have hl : lv_has ls 5 [(0, .ref (a 0)), (1, .int x1), (2, .int x2)] := hl
  unfold fX9_goesPlan at hf
  refine lv_aload_n hx hb dX9_goesPlan_0 rfl (lv_at hl 0 rfl) ?_
  refine lv_iconst (v := 1) hx hb dX9_goesPlan_1 (by decide) ?_
  refine mm_ct8 hf (fun w_1 w_2 w_3 w_4 w_5 w_6 w_7 w_8 hc_9 hf => ?_)
  refine mm_callVF (q0 := 0) (ci := 9) (rest := []) C0 lk_X9_279 (ctX9_startsAt (a := a) (d := d - 1) (by omega) hc_9) (by omega) rfl hl.1 rfl (mm_cat rfl) dX9_goesPlan_2 hP hD hA hS rfl rfl (fun H locs hP hD hS => ?_)
  refine W.eq (g2 := F0 m 5 ls []) rfl ?_
  refine lv_aload_n hx hb dX9_goesPlan_5 rfl (lv_at hl 0 rfl) ?_
  refine lv_iconst (v := 0) hx hb dX9_goesPlan_6 (by decide) ?_
  refine mm_put C0 hP hD hS iw_X9 tyX9 tyX9_ok nmX9 0 rfl rfl 37 (by decide) fl_X9_282 rfl rfl rfl (Nat.le_of_ble_eq_true rfl) dX9_goesPlan_7 (w2 := (wd_X9 cI cL cS cH a v_keptMany v_done v_rowsOf v_columnsOf v_folded v_wronged v_tapeMany v_textMany v_base v_at v_ends v_fault v_opened v_bentMany v_bentWrong v_moreWorn v_planned (0 : Int32) v_allWorn v_z v_wishedField v_isFound v_bestWrong v_bestWorn v_bestMany v_soughtBy v_sought v_soughtAt v_foundMany v_foundOrder v_isKept v_imageRows v_imageColumns v_imageFolded v_imageWronged v_bodies v_ran v_ownKind v_ownNumber v_limit v_changeWas v_changeIs w_1 w_2 w_3 w_4 w_5 w_6 w_7 w_8 v_tape v_text v_names v_bends v_high v_to v_pileSize v_planLine v_planWay v_way1 v_bestWay v_order1 v_placeIn v_bodyKind v_trace v_shelf v_many v_items v_carried)) rfl (fun H locs hP hD hS => ?_)
  refine lv_aload_n hx hb dX9_goesPlan_10 rfl (lv_at hl 0 rfl) ?_
  refine lv_iconst (v := 0) hx hb dX9_goesPlan_11 (by decide) ?_
  refine mm_put C0 hP hD hS iw_X9 tyX9 tyX9_ok nmX9 0 rfl rfl 38 (by decide) fl_X9_285 rfl rfl rfl (Nat.le_of_ble_eq_true rfl) dX9_goesPlan_12 (w2 := (wd_X9 cI cL cS cH a v_keptMany v_done v_rowsOf v_columnsOf v_folded v_wronged v_tapeMany v_textMany v_base v_at v_ends v_fault v_opened v_bentMany v_bentWrong v_moreWorn v_planned (0 : Int32) (0 : Int32) v_z v_wishedField v_isFound v_bestWrong v_bestWorn v_bestMany v_soughtBy v_sought v_soughtAt v_foundMany v_foundOrder v_isKept v_imageRows v_imageColumns v_imageFolded v_imageWronged v_bodies v_ran v_ownKind v_ownNumber v_limit v_changeWas v_changeIs w_1 w_2 w_3 w_4 w_5 w_6 w_7 w_8 v_tape v_text v_names v_bends v_high v_to v_pileSize v_planLine v_planWay v_way1 v_bestWay v_order1 v_placeIn v_bodyKind v_trace v_shelf v_many v_items v_carried)) rfl (fun H locs hP hD hS => ?_)
  refine lv_iconst (v := 0) hx hb dX9_goesPlan_15 (by decide) ?_
  refine lv_istore_n (lv' := [(3, .int (0 : Int32)), (0, .ref (a 0)), (1, .int x1), (2, .int x2)]) hx hb dX9_goesPlan_16 rfl hl (by decide) rfl (fun ls hl => ?_)
  exact tX9_goesPlan_17 hd C0 hA N  N _ _ _ _ _ _ _ _ _ _ _ _ _ _ _ _ _ _ _ _ _ _ _ _ _ _ _ _ _ _ _ _ _ _ _ _ H locs ls hf hP hD hS (lv_sub hl [1, 2, 3, 0] rfl)

theorem nb_dX9_cost_0 : bls_w cX9_cost [(0, [27]), (1, [133]), (2, [9]), (3, [20, 0, 252]), (6, [184, 0, 111]), (9, [154, 0, 5]), (12, [2]), (13, [172]), (14, [42]), (15, [16, 12]), (17, [2]), (18, [182, 1, 36])] := bls_of (by decide +kernel)
theorem dX9_cost_0 : decode cX9_cost 0 = .ok (.iload_n 1, 1) := op_27 nb_dX9_cost_0.1
theorem dX9_cost_1 : decode cX9_cost 1 = .ok (.i2l, 1) := op_133 nb_dX9_cost_0.2.1
theorem dX9_cost_2 : decode cX9_cost 2 = .ok (.lconst 0, 1) := op_9 nb_dX9_cost_0.2.2.1
set_option maxRecDepth 100000 in
theorem dX9_cost_3 : decode cX9_cost 3 = .ok (.ldc2_w 252, 3) := (op_20 nb_dX9_cost_0.2.2.2.1).trans rfl
set_option maxRecDepth 100000 in
theorem dX9_cost_6 : decode cX9_cost 6 = .ok (.invokestatic 111, 3) := (op_184 nb_dX9_cost_0.2.2.2.2.1).trans rfl
set_option maxRecDepth 100000 in
theorem dX9_cost_9 : decode cX9_cost 9 = .ok (.ifCond .ne 5, 3) := (op_154 nb_dX9_cost_0.2.2.2.2.2.1).trans rfl
theorem dX9_cost_12 : decode cX9_cost 12 = .ok (.iconst (-1), 1) := op_2 nb_dX9_cost_0.2.2.2.2.2.2.1
theorem dX9_cost_13 : decode cX9_cost 13 = .ok (.ireturn, 1) := op_172 nb_dX9_cost_0.2.2.2.2.2.2.2.1
theorem dX9_cost_14 : decode cX9_cost 14 = .ok (.aload_n 0, 1) := op_42 nb_dX9_cost_0.2.2.2.2.2.2.2.2.1
set_option maxRecDepth 100000 in
theorem dX9_cost_15 : decode cX9_cost 15 = .ok (.bipush 12, 2) := (op_16 nb_dX9_cost_0.2.2.2.2.2.2.2.2.2.1).trans rfl
theorem dX9_cost_17 : decode cX9_cost 17 = .ok (.iconst (-1), 1) := op_2 nb_dX9_cost_0.2.2.2.2.2.2.2.2.2.2.1
set_option maxRecDepth 100000 in
theorem dX9_cost_18 : decode cX9_cost 18 = .ok (.invokevirtual 292, 3) := (op_182 nb_dX9_cost_0.2.2.2.2.2.2.2.2.2.2.2.1).trans rfl
theorem nb_dX9_cost_21 : bls_w cX9_cost [(21, [61]), (22, [27]), (23, [154, 0, 7]), (26, [28]), (27, [167, 0, 38]), (30, [27]), (31, [4]), (32, [160, 0, 10]), (35, [42]), (36, [180, 1, 29]), (39, [167, 0, 26]), (42, [27])] := bls_of (by decide +kernel)
theorem dX9_cost_21 : decode cX9_cost 21 = .ok (.istore_n 2, 1) := op_61 nb_dX9_cost_21.1
theorem dX9_cost_22 : decode cX9_cost 22 = .ok (.iload_n 1, 1) := op_27 nb_dX9_cost_21.2.1
set_option maxRecDepth 100000 in
theorem dX9_cost_23 : decode cX9_cost 23 = .ok (.ifCond .ne 7, 3) := (op_154 nb_dX9_cost_21.2.2.1).trans rfl
theorem dX9_cost_26 : decode cX9_cost 26 = .ok (.iload_n 2, 1) := op_28 nb_dX9_cost_21.2.2.2.1
set_option maxRecDepth 100000 in
theorem dX9_cost_27 : decode cX9_cost 27 = .ok (.goto 38, 3) := (op_167 nb_dX9_cost_21.2.2.2.2.1).trans rfl
theorem dX9_cost_30 : decode cX9_cost 30 = .ok (.iload_n 1, 1) := op_27 nb_dX9_cost_21.2.2.2.2.2.1
theorem dX9_cost_31 : decode cX9_cost 31 = .ok (.iconst 1, 1) := op_4 nb_dX9_cost_21.2.2.2.2.2.2.1
set_option maxRecDepth 100000 in
theorem dX9_cost_32 : decode cX9_cost 32 = .ok (.if_icmp .ne 10, 3) := (op_160 nb_dX9_cost_21.2.2.2.2.2.2.2.1).trans rfl
theorem dX9_cost_35 : decode cX9_cost 35 = .ok (.aload_n 0, 1) := op_42 nb_dX9_cost_21.2.2.2.2.2.2.2.2.1
set_option maxRecDepth 100000 in
theorem dX9_cost_36 : decode cX9_cost 36 = .ok (.getfield 285, 3) := (op_180 nb_dX9_cost_21.2.2.2.2.2.2.2.2.2.1).trans rfl
set_option maxRecDepth 100000 in
theorem dX9_cost_39 : decode cX9_cost 39 = .ok (.goto 26, 3) := (op_167 nb_dX9_cost_21.2.2.2.2.2.2.2.2.2.2.1).trans rfl
theorem dX9_cost_42 : decode cX9_cost 42 = .ok (.iload_n 1, 1) := op_27 nb_dX9_cost_21.2.2.2.2.2.2.2.2.2.2.2.1
theorem nb_dX9_cost_43 : bls_w cX9_cost [(43, [5]), (44, [160, 0, 10]), (47, [42]), (48, [180, 1, 26]), (51, [167, 0, 14]), (54, [42]), (55, [4]), (56, [182, 1, 12]), (59, [42]), (60, [3]), (61, [182, 1, 12]), (64, [100])] := bls_of (by decide +kernel)
theorem dX9_cost_43 : decode cX9_cost 43 = .ok (.iconst 2, 1) := op_5 nb_dX9_cost_43.1
set_option maxRecDepth 100000 in
theorem dX9_cost_44 : decode cX9_cost 44 = .ok (.if_icmp .ne 10, 3) := (op_160 nb_dX9_cost_43.2.1).trans rfl
theorem dX9_cost_47 : decode cX9_cost 47 = .ok (.aload_n 0, 1) := op_42 nb_dX9_cost_43.2.2.1
set_option maxRecDepth 100000 in
theorem dX9_cost_48 : decode cX9_cost 48 = .ok (.getfield 282, 3) := (op_180 nb_dX9_cost_43.2.2.2.1).trans rfl
set_option maxRecDepth 100000 in
theorem dX9_cost_51 : decode cX9_cost 51 = .ok (.goto 14, 3) := (op_167 nb_dX9_cost_43.2.2.2.2.1).trans rfl
theorem dX9_cost_54 : decode cX9_cost 54 = .ok (.aload_n 0, 1) := op_42 nb_dX9_cost_43.2.2.2.2.2.1
theorem dX9_cost_55 : decode cX9_cost 55 = .ok (.iconst 1, 1) := op_4 nb_dX9_cost_43.2.2.2.2.2.2.1
set_option maxRecDepth 100000 in
theorem dX9_cost_56 : decode cX9_cost 56 = .ok (.invokevirtual 268, 3) := (op_182 nb_dX9_cost_43.2.2.2.2.2.2.2.1).trans rfl
theorem dX9_cost_59 : decode cX9_cost 59 = .ok (.aload_n 0, 1) := op_42 nb_dX9_cost_43.2.2.2.2.2.2.2.2.1
theorem dX9_cost_60 : decode cX9_cost 60 = .ok (.iconst 0, 1) := op_3 nb_dX9_cost_43.2.2.2.2.2.2.2.2.2.1
set_option maxRecDepth 100000 in
theorem dX9_cost_61 : decode cX9_cost 61 = .ok (.invokevirtual 268, 3) := (op_182 nb_dX9_cost_43.2.2.2.2.2.2.2.2.2.2.1).trans rfl
theorem dX9_cost_64 : decode cX9_cost 64 = .ok (.isub, 1) := op_100 nb_dX9_cost_43.2.2.2.2.2.2.2.2.2.2.2.1
theorem nb_dX9_cost_65 : bls_w cX9_cost [(65, [172])] := bls_of (by decide +kernel)
theorem dX9_cost_65 : decode cX9_cost 65 = .ok (.ireturn, 1) := op_172 nb_dX9_cost_65.1
def fX9_cost (N : Nat) (x1 : Int32) (v_rowsOf : Int32) (v_columnsOf : Int32) (v_textMany : Int32) (v_base : Int32) (v_at : Int32) (v_ends : Int32) (v_fault : Int32) (v_opened : Int32) (v_bentMany : Int32) (v_bentWrong : Int32) (v_moreWorn : Int32) (v_planned : Int32) (v_allWrong : Int32) (v_allWorn : Int32) (v_z : Int32) (v_limit : List Int32) (v_shapeRows : List Int32) (v_shapeColumns : List Int32) (v_row : List Int32) (v_column : List Int32) (v_below : List Int32) (v_face : List Int32) (v_worn : List Int32) (v_lastBend : List Int32) (v_tape : List Int32) (v_text : List Int32) (v_names : List Int32) (v_bends : List Int32) (v_high : List Int32) (v_to : List Int32) (v_pileSize : List Int32) (v_planLine : List Int32) (v_planWay : List Int32) : Option (Int32 × Int32 × Int32 × Int32 × Int32 × Int32 × Int32 × Int32 × Int32 × Int32 × Int32 × Int32 × List Int32 × List Int32 × List Int32 × List Int32 × List Int32 × List Int32 × List Int32 × List Int32 × List Int32 × List Int32 × List Int32 × List Int32 × List Int32) :=
    mm_bd1 (fX9_within N ((x1).toInt64) (0 : Int64) (3 : Int64)) (fun (r_1 : Bool) =>
    if r_1 = false then
    (some ((-1 : Int32), v_base, v_at, v_ends, v_fault, v_opened, v_bentMany, v_bentWrong, v_moreWorn, v_allWrong, v_allWorn, v_z, v_shapeRows, v_shapeColumns, v_row, v_column, v_below, v_face, v_worn, v_lastBend, v_names, v_bends, v_high, v_to, v_pileSize))
    else (mm_bd25 (fX9_goesPlan N (12 : Int32) (-1 : Int32) v_rowsOf v_columnsOf v_textMany v_base v_at v_ends v_fault v_opened v_bentMany v_bentWrong v_moreWorn v_planned v_allWrong v_allWorn v_z v_limit v_shapeRows v_shapeColumns v_row v_column v_below v_face v_worn v_lastBend v_tape v_text v_names v_bends v_high v_to v_pileSize v_planLine v_planWay) (fun (r_4 : Int32) (w_5 : Int32) (w_6 : Int32) (w_7 : Int32) (w_8 : Int32) (w_9 : Int32) (w_10 : Int32) (w_11 : Int32) (w_12 : Int32) (w_13 : Int32) (w_14 : Int32) (w_15 : Int32) (w_16 : List Int32) (w_17 : List Int32) (w_18 : List Int32) (w_19 : List Int32) (w_20 : List Int32) (w_21 : List Int32) (w_22 : List Int32) (w_23 : List Int32) (w_24 : List Int32) (w_25 : List Int32) (w_26 : List Int32) (w_27 : List Int32) (w_28 : List Int32) =>
    if x1 = 0 then
    (some (r_4, w_5, w_6, w_7, w_8, w_9, w_10, w_11, w_12, w_13, w_14, w_15, w_16, w_17, w_18, w_19, w_20, w_21, w_22, w_23, w_24, w_25, w_26, w_27, w_28))
    else (if x1 = (1 : Int32) then
    (some (w_14, w_5, w_6, w_7, w_8, w_9, w_10, w_11, w_12, w_13, w_14, w_15, w_16, w_17, w_18, w_19, w_20, w_21, w_22, w_23, w_24, w_25, w_26, w_27, w_28))
    else (if x1 = (2 : Int32) then
    (some (w_13, w_5, w_6, w_7, w_8, w_9, w_10, w_11, w_12, w_13, w_14, w_15, w_16, w_17, w_18, w_19, w_20, w_21, w_22, w_23, w_24, w_25, w_26, w_27, w_28))
    else (mm_bd1 (fX9_tornNow N (1 : Int32) v_rowsOf v_columnsOf v_limit w_22) (fun (r_33 : Int32) =>
    mm_bd1 (fX9_tornNow N (0 : Int32) v_rowsOf v_columnsOf v_limit w_22) (fun (r_35 : Int32) =>
    some ((r_33 - r_35), w_5, w_6, w_7, w_8, w_9, w_10, w_11, w_12, w_13, w_14, w_15, w_16, w_17, w_18, w_19, w_20, w_21, w_22, w_23, w_24, w_25, w_26, w_27, w_28)))))))))

set_option maxHeartbeats 4000000 in
set_option maxRecDepth 100000 in
theorem ctX9_cost {l : Launch} {D : va_G} {cI cL cS cH : ClassId} {a : Nat → Nat} {x1 : Int32} {v_keptMany : Int32} {v_done : Int32} {v_rowsOf : Int32} {v_columnsOf : Int32} {v_folded : Int32} {v_wronged : Int32} {v_tapeMany : Int32} {v_textMany : Int32} {v_base : Int32} {v_at : Int32} {v_ends : Int32} {v_fault : Int32} {v_opened : Int32} {v_bentMany : Int32} {v_bentWrong : Int32} {v_moreWorn : Int32} {v_planned : Int32} {v_allWrong : Int32} {v_allWorn : Int32} {v_z : Int32} {v_wishedField : Int32} {v_isFound : Bool} {v_bestWrong : Int32} {v_bestWorn : Int32} {v_bestMany : Int32} {v_soughtBy : Int32} {v_sought : Int32} {v_soughtAt : Int32} {v_foundMany : Int32} {v_foundOrder : Int32} {v_isKept : Bool} {v_imageRows : Int32} {v_imageColumns : Int32} {v_imageFolded : Int32} {v_imageWronged : Int32} {v_bodies : Int32} {v_ran : Int32} {v_ownKind : Int32} {v_ownNumber : Int32} {v_limit : List Int32} {v_changeWas : List Int32} {v_changeIs : List Int32} {v_shapeRows : List Int32} {v_shapeColumns : List Int32} {v_row : List Int32} {v_column : List Int32} {v_below : List Int32} {v_face : List Int32} {v_worn : List Int32} {v_lastBend : List Int32} {v_tape : List Int32} {v_text : List Int32} {v_names : List Int32} {v_bends : List Int32} {v_high : List Int32} {v_to : List Int32} {v_pileSize : List Int32} {v_planLine : List Int32} {v_planWay : List Int32} {v_way1 : List Int32} {v_bestWay : List Int32} {v_order1 : List Int32} {v_placeIn : List Int32} {v_bodyKind : List Int32} {v_trace : List Int32} {v_shelf : List Int32} {v_many : List Int32} {v_items : List Int64} {v_carried : List Int64} {r : Int32} {w_base : Int32} {w_at : Int32} {w_ends : Int32} {w_fault : Int32} {w_opened : Int32} {w_bentMany : Int32} {w_bentWrong : Int32} {w_moreWorn : Int32} {w_allWrong : Int32} {w_allWorn : Int32} {w_z : Int32} {w_shapeRows : List Int32} {w_shapeColumns : List Int32} {w_row : List Int32} {w_column : List Int32} {w_below : List Int32} {w_face : List Int32} {w_worn : List Int32} {w_lastBend : List Int32} {w_names : List Int32} {w_bends : List Int32} {w_high : List Int32} {w_to : List Int32} {w_pileSize : List Int32} {N d : Nat} (hd : 61 ≤ d) (hf : fX9_cost N x1 v_rowsOf v_columnsOf v_textMany v_base v_at v_ends v_fault v_opened v_bentMany v_bentWrong v_moreWorn v_planned v_allWrong v_allWorn v_z v_limit v_shapeRows v_shapeColumns v_row v_column v_below v_face v_worn v_lastBend v_tape v_text v_names v_bends v_high v_to v_pileSize v_planLine v_planWay = some (r, w_base, w_at, w_ends, w_fault, w_opened, w_bentMany, w_bentWrong, w_moreWorn, w_allWrong, w_allWorn, w_z, w_shapeRows, w_shapeColumns, w_row, w_column, w_below, w_face, w_worn, w_lastBend, w_names, w_bends, w_high, w_to, w_pileSize)) : mm_Ct l yX9_cost cX9_cost 3 (some .int) d D (mm_T cI cL cS cH) [.ref (a 0), .int x1] (wd_X9 cI cL cS cH a v_keptMany v_done v_rowsOf v_columnsOf v_folded v_wronged v_tapeMany v_textMany v_base v_at v_ends v_fault v_opened v_bentMany v_bentWrong v_moreWorn v_planned v_allWrong v_allWorn v_z v_wishedField v_isFound v_bestWrong v_bestWorn v_bestMany v_soughtBy v_sought v_soughtAt v_foundMany v_foundOrder v_isKept v_imageRows v_imageColumns v_imageFolded v_imageWronged v_bodies v_ran v_ownKind v_ownNumber v_limit v_changeWas v_changeIs v_shapeRows v_shapeColumns v_row v_column v_below v_face v_worn v_lastBend v_tape v_text v_names v_bends v_high v_to v_pileSize v_planLine v_planWay v_way1 v_bestWay v_order1 v_placeIn v_bodyKind v_trace v_shelf v_many v_items v_carried) (wd_X9 cI cL cS cH a v_keptMany v_done v_rowsOf v_columnsOf v_folded v_wronged v_tapeMany v_textMany w_base w_at w_ends w_fault w_opened w_bentMany w_bentWrong w_moreWorn v_planned w_allWrong w_allWorn w_z v_wishedField v_isFound v_bestWrong v_bestWorn v_bestMany v_soughtBy v_sought v_soughtAt v_foundMany v_foundOrder v_isKept v_imageRows v_imageColumns v_imageFolded v_imageWronged v_bodies v_ran v_ownKind v_ownNumber v_limit v_changeWas v_changeIs w_shapeRows w_shapeColumns w_row w_column w_below w_face w_worn w_lastBend v_tape v_text w_names w_bends w_high w_to w_pileSize v_planLine v_planWay v_way1 v_bestWay v_order1 v_placeIn v_bodyKind v_trace v_shelf v_many v_items v_carried) (some (.int r)) := by
  refine mm_of (by decide) (Nat.le_of_ble_eq_true rfl) ?_
  intro p e s m args below meth c A H locs ls C0 hP hD hA hS hl
  have C0 : mm_Cx p s m args meth c RX9 cX9_cost 3 (some .int) D (mm_T cI cL cS cH) A := C0
  obtain ⟨hx, hb, hml, hown, hts, hr, hlocks, hK, hSt⟩ := id C0
  have hl : lv_has ls 3 [(0, .ref (a 0)), (1, .int x1)] := hl
  unfold fX9_cost at hf
  refine lv_iload_n hx hb dX9_cost_0 rfl (lv_at hl 1 rfl) ?_
  refine lv_i2l hx hb dX9_cost_1 rfl ?_
  refine lv_lconst (v := 0) hx hb dX9_cost_2 (by decide) ?_
  refine lv_ldc2 hx hb hown (hts _ kc_X9_252) dX9_cost_3 ?_
  obtain ⟨r_1, hc_2, hf⟩ := mm_bd1s hf
  refine mm_callS0 (rest := []) C0 lk_X9_111 (ctX9_within (d := d - 1) (by omega) hc_2) (by omega) rfl hl.1 rfl (mm_cat rfl) dX9_cost_6 hP hD hA hS (fun H locs hP hS => ?_)
  refine W.eq (g2 := F0 m 9 ls [.int (mm_b r_1)]) rfl ?_
  refine lv_if_ne (tgt := 14) hx hb dX9_cost_9 (by decide) (fun c_3 => ?_) (fun c_3 => ?_)
  · have hf := mm_in hf (mm_b1 c_3)
    refine lv_aload_n hx hb dX9_cost_14 rfl (lv_at hl 0 rfl) ?_
    refine lv_bipush (v := 12) hx hb dX9_cost_15 (by decide) ?_
    refine lv_iconst (v := -1) hx hb dX9_cost_17 (by decide) ?_
    refine mm_ct25 hf (fun r_4 w_5 w_6 w_7 w_8 w_9 w_10 w_11 w_12 w_13 w_14 w_15 w_16 w_17 w_18 w_19 w_20 w_21 w_22 w_23 w_24 w_25 w_26 w_27 w_28 hc_29 hf => ?_)
    refine mm_callVF (q0 := 0) (ci := 9) (rest := []) C0 lk_X9_292 (ctX9_goesPlan (a := a) (d := d - 1) (by omega) hc_29) (by omega) rfl hl.1 rfl (mm_cat rfl) dX9_cost_18 hP hD hA hS rfl rfl (fun H locs hP hD hS => ?_)
    refine W.eq (g2 := F0 m 21 ls [.int r_4]) rfl ?_
    refine lv_istore_n (lv' := [(2, .int r_4), (0, .ref (a 0)), (1, .int x1)]) hx hb dX9_cost_21 rfl hl (by decide) rfl (fun ls hl => ?_)
    refine lv_iload_n hx hb dX9_cost_22 rfl (lv_at hl 2 rfl) ?_
    refine lv_if_ne (tgt := 30) hx hb dX9_cost_23 (by decide) (fun c_30 => ?_) (fun c_30 => ?_)
    · have hf := mm_in hf c_30
      refine lv_iload_n hx hb dX9_cost_30 rfl (lv_at hl 2 rfl) ?_
      refine lv_iconst (v := 1) hx hb dX9_cost_31 (by decide) ?_
      refine lv_icmp_ne (tgt := 42) hx hb dX9_cost_32 (by decide) (fun c_31 => ?_) (fun c_31 => ?_)
      · have hf := mm_in hf c_31
        refine lv_iload_n hx hb dX9_cost_42 rfl (lv_at hl 2 rfl) ?_
        refine lv_iconst (v := 2) hx hb dX9_cost_43 (by decide) ?_
        refine lv_icmp_ne (tgt := 54) hx hb dX9_cost_44 (by decide) (fun c_32 => ?_) (fun c_32 => ?_)
        · have hf := mm_in hf c_32
          refine lv_aload_n hx hb dX9_cost_54 rfl (lv_at hl 1 rfl) ?_
          refine lv_iconst (v := 1) hx hb dX9_cost_55 (by decide) ?_
          obtain ⟨r_33, hc_34, hf⟩ := mm_bd1s hf
          refine mm_callVF (q0 := 0) (ci := 9) (rest := []) C0 lk_X9_268 (ctX9_tornNow (a := a) (d := d - 1) (by omega) hc_34) (by omega) rfl hl.1 rfl (mm_cat rfl) dX9_cost_56 hP hD hA hS rfl rfl (fun H locs hP hD hS => ?_)
          refine W.eq (g2 := F0 m 59 ls [.int r_33]) rfl ?_
          refine lv_aload_n hx hb dX9_cost_59 rfl (lv_at hl 1 rfl) ?_
          refine lv_iconst (v := 0) hx hb dX9_cost_60 (by decide) ?_
          obtain ⟨r_35, hc_36, hf⟩ := mm_bd1s hf
          refine mm_callVF (q0 := 0) (ci := 9) (rest := [.int r_33]) C0 lk_X9_268 (ctX9_tornNow (a := a) (d := d - 1) (by omega) hc_36) (by omega) rfl hl.1 rfl (mm_cat rfl) dX9_cost_61 hP hD hA hS rfl rfl (fun H locs hP hD hS => ?_)
          refine W.eq (g2 := F0 m 64 ls [.int r_35, .int r_33]) rfl ?_
          refine lv_isub hx hb dX9_cost_64 ?_
          apply mm_sub25 hf
          exact mm_iret C0 hP hD hS dX9_cost_65
        · have hf := mm_ip hf c_32
          refine lv_aload_n hx hb dX9_cost_47 rfl (lv_at hl 1 rfl) ?_
          refine mm_get C0 hP iw_X9 0 rfl rfl 37 (by decide) fl_X9_282 rfl dX9_cost_48 ?_
          refine lv_goto (tgt := 65) hx hb dX9_cost_51 (by decide) ?_
          apply mm_sub25 hf
          exact mm_iret C0 hP hD hS dX9_cost_65
      · have hf := mm_ip hf c_31
        refine lv_aload_n hx hb dX9_cost_35 rfl (lv_at hl 1 rfl) ?_
        refine mm_get C0 hP iw_X9 0 rfl rfl 38 (by decide) fl_X9_285 rfl dX9_cost_36 ?_
        refine lv_goto (tgt := 65) hx hb dX9_cost_39 (by decide) ?_
        apply mm_sub25 hf
        exact mm_iret C0 hP hD hS dX9_cost_65
    · have hf := mm_ip hf c_30
      refine lv_iload_n hx hb dX9_cost_26 rfl (lv_at hl 0 rfl) ?_
      refine lv_goto (tgt := 65) hx hb dX9_cost_27 (by decide) ?_
      apply mm_sub25 hf
      exact mm_iret C0 hP hD hS dX9_cost_65
  · have hf := mm_ip hf (mm_b0 c_3)
    refine lv_iconst (v := -1) hx hb dX9_cost_12 (by decide) ?_
    apply mm_sub25 hf
    exact mm_iret C0 hP hD hS dX9_cost_13

theorem nb_dX9_isBehind_0 : bls_w cX9_isBehind [(0, [27]), (1, [155, 0, 17]), (4, [42]), (5, [27]), (6, [2]), (7, [182, 1, 36]), (10, [27]), (11, [160, 0, 7]), (14, [4]), (15, [167, 0, 4]), (18, [3]), (19, [172])] := bls_of (by decide +kernel)
theorem dX9_isBehind_0 : decode cX9_isBehind 0 = .ok (.iload_n 1, 1) := op_27 nb_dX9_isBehind_0.1
set_option maxRecDepth 100000 in
theorem dX9_isBehind_1 : decode cX9_isBehind 1 = .ok (.ifCond .lt 17, 3) := (op_155 nb_dX9_isBehind_0.2.1).trans rfl
theorem dX9_isBehind_4 : decode cX9_isBehind 4 = .ok (.aload_n 0, 1) := op_42 nb_dX9_isBehind_0.2.2.1
theorem dX9_isBehind_5 : decode cX9_isBehind 5 = .ok (.iload_n 1, 1) := op_27 nb_dX9_isBehind_0.2.2.2.1
theorem dX9_isBehind_6 : decode cX9_isBehind 6 = .ok (.iconst (-1), 1) := op_2 nb_dX9_isBehind_0.2.2.2.2.1
set_option maxRecDepth 100000 in
theorem dX9_isBehind_7 : decode cX9_isBehind 7 = .ok (.invokevirtual 292, 3) := (op_182 nb_dX9_isBehind_0.2.2.2.2.2.1).trans rfl
theorem dX9_isBehind_10 : decode cX9_isBehind 10 = .ok (.iload_n 1, 1) := op_27 nb_dX9_isBehind_0.2.2.2.2.2.2.1
set_option maxRecDepth 100000 in
theorem dX9_isBehind_11 : decode cX9_isBehind 11 = .ok (.if_icmp .ne 7, 3) := (op_160 nb_dX9_isBehind_0.2.2.2.2.2.2.2.1).trans rfl
theorem dX9_isBehind_14 : decode cX9_isBehind 14 = .ok (.iconst 1, 1) := op_4 nb_dX9_isBehind_0.2.2.2.2.2.2.2.2.1
set_option maxRecDepth 100000 in
theorem dX9_isBehind_15 : decode cX9_isBehind 15 = .ok (.goto 4, 3) := (op_167 nb_dX9_isBehind_0.2.2.2.2.2.2.2.2.2.1).trans rfl
theorem dX9_isBehind_18 : decode cX9_isBehind 18 = .ok (.iconst 0, 1) := op_3 nb_dX9_isBehind_0.2.2.2.2.2.2.2.2.2.2.1
theorem dX9_isBehind_19 : decode cX9_isBehind 19 = .ok (.ireturn, 1) := op_172 nb_dX9_isBehind_0.2.2.2.2.2.2.2.2.2.2.2.1
def fX9_isBehind (N : Nat) (x1 : Int32) (v_rowsOf : Int32) (v_columnsOf : Int32) (v_textMany : Int32) (v_base : Int32) (v_at : Int32) (v_ends : Int32) (v_fault : Int32) (v_opened : Int32) (v_bentMany : Int32) (v_bentWrong : Int32) (v_moreWorn : Int32) (v_planned : Int32) (v_allWrong : Int32) (v_allWorn : Int32) (v_z : Int32) (v_limit : List Int32) (v_shapeRows : List Int32) (v_shapeColumns : List Int32) (v_row : List Int32) (v_column : List Int32) (v_below : List Int32) (v_face : List Int32) (v_worn : List Int32) (v_lastBend : List Int32) (v_tape : List Int32) (v_text : List Int32) (v_names : List Int32) (v_bends : List Int32) (v_high : List Int32) (v_to : List Int32) (v_pileSize : List Int32) (v_planLine : List Int32) (v_planWay : List Int32) : Option (Bool × Int32 × Int32 × Int32 × Int32 × Int32 × Int32 × Int32 × Int32 × Int32 × Int32 × Int32 × List Int32 × List Int32 × List Int32 × List Int32 × List Int32 × List Int32 × List Int32 × List Int32 × List Int32 × List Int32 × List Int32 × List Int32 × List Int32) :=
    if x1 < 0 then
    (some (false, v_base, v_at, v_ends, v_fault, v_opened, v_bentMany, v_bentWrong, v_moreWorn, v_allWrong, v_allWorn, v_z, v_shapeRows, v_shapeColumns, v_row, v_column, v_below, v_face, v_worn, v_lastBend, v_names, v_bends, v_high, v_to, v_pileSize))
    else (mm_bd25 (fX9_goesPlan N x1 (-1 : Int32) v_rowsOf v_columnsOf v_textMany v_base v_at v_ends v_fault v_opened v_bentMany v_bentWrong v_moreWorn v_planned v_allWrong v_allWorn v_z v_limit v_shapeRows v_shapeColumns v_row v_column v_below v_face v_worn v_lastBend v_tape v_text v_names v_bends v_high v_to v_pileSize v_planLine v_planWay) (fun (r_2 : Int32) (w_3 : Int32) (w_4 : Int32) (w_5 : Int32) (w_6 : Int32) (w_7 : Int32) (w_8 : Int32) (w_9 : Int32) (w_10 : Int32) (w_11 : Int32) (w_12 : Int32) (w_13 : Int32) (w_14 : List Int32) (w_15 : List Int32) (w_16 : List Int32) (w_17 : List Int32) (w_18 : List Int32) (w_19 : List Int32) (w_20 : List Int32) (w_21 : List Int32) (w_22 : List Int32) (w_23 : List Int32) (w_24 : List Int32) (w_25 : List Int32) (w_26 : List Int32) =>
    if r_2 = x1 then
    (some (true, w_3, w_4, w_5, w_6, w_7, w_8, w_9, w_10, w_11, w_12, w_13, w_14, w_15, w_16, w_17, w_18, w_19, w_20, w_21, w_22, w_23, w_24, w_25, w_26))
    else (some (false, w_3, w_4, w_5, w_6, w_7, w_8, w_9, w_10, w_11, w_12, w_13, w_14, w_15, w_16, w_17, w_18, w_19, w_20, w_21, w_22, w_23, w_24, w_25, w_26))))

set_option maxHeartbeats 4000000 in
set_option maxRecDepth 100000 in
theorem ctX9_isBehind {l : Launch} {D : va_G} {cI cL cS cH : ClassId} {a : Nat → Nat} {x1 : Int32} {v_keptMany : Int32} {v_done : Int32} {v_rowsOf : Int32} {v_columnsOf : Int32} {v_folded : Int32} {v_wronged : Int32} {v_tapeMany : Int32} {v_textMany : Int32} {v_base : Int32} {v_at : Int32} {v_ends : Int32} {v_fault : Int32} {v_opened : Int32} {v_bentMany : Int32} {v_bentWrong : Int32} {v_moreWorn : Int32} {v_planned : Int32} {v_allWrong : Int32} {v_allWorn : Int32} {v_z : Int32} {v_wishedField : Int32} {v_isFound : Bool} {v_bestWrong : Int32} {v_bestWorn : Int32} {v_bestMany : Int32} {v_soughtBy : Int32} {v_sought : Int32} {v_soughtAt : Int32} {v_foundMany : Int32} {v_foundOrder : Int32} {v_isKept : Bool} {v_imageRows : Int32} {v_imageColumns : Int32} {v_imageFolded : Int32} {v_imageWronged : Int32} {v_bodies : Int32} {v_ran : Int32} {v_ownKind : Int32} {v_ownNumber : Int32} {v_limit : List Int32} {v_changeWas : List Int32} {v_changeIs : List Int32} {v_shapeRows : List Int32} {v_shapeColumns : List Int32} {v_row : List Int32} {v_column : List Int32} {v_below : List Int32} {v_face : List Int32} {v_worn : List Int32} {v_lastBend : List Int32} {v_tape : List Int32} {v_text : List Int32} {v_names : List Int32} {v_bends : List Int32} {v_high : List Int32} {v_to : List Int32} {v_pileSize : List Int32} {v_planLine : List Int32} {v_planWay : List Int32} {v_way1 : List Int32} {v_bestWay : List Int32} {v_order1 : List Int32} {v_placeIn : List Int32} {v_bodyKind : List Int32} {v_trace : List Int32} {v_shelf : List Int32} {v_many : List Int32} {v_items : List Int64} {v_carried : List Int64} {r : Bool} {w_base : Int32} {w_at : Int32} {w_ends : Int32} {w_fault : Int32} {w_opened : Int32} {w_bentMany : Int32} {w_bentWrong : Int32} {w_moreWorn : Int32} {w_allWrong : Int32} {w_allWorn : Int32} {w_z : Int32} {w_shapeRows : List Int32} {w_shapeColumns : List Int32} {w_row : List Int32} {w_column : List Int32} {w_below : List Int32} {w_face : List Int32} {w_worn : List Int32} {w_lastBend : List Int32} {w_names : List Int32} {w_bends : List Int32} {w_high : List Int32} {w_to : List Int32} {w_pileSize : List Int32} {N d : Nat} (hd : 61 ≤ d) (hf : fX9_isBehind N x1 v_rowsOf v_columnsOf v_textMany v_base v_at v_ends v_fault v_opened v_bentMany v_bentWrong v_moreWorn v_planned v_allWrong v_allWorn v_z v_limit v_shapeRows v_shapeColumns v_row v_column v_below v_face v_worn v_lastBend v_tape v_text v_names v_bends v_high v_to v_pileSize v_planLine v_planWay = some (r, w_base, w_at, w_ends, w_fault, w_opened, w_bentMany, w_bentWrong, w_moreWorn, w_allWrong, w_allWorn, w_z, w_shapeRows, w_shapeColumns, w_row, w_column, w_below, w_face, w_worn, w_lastBend, w_names, w_bends, w_high, w_to, w_pileSize)) : mm_Ct l yX9_isBehind cX9_isBehind 2 (some .boolean) d D (mm_T cI cL cS cH) [.ref (a 0), .int x1] (wd_X9 cI cL cS cH a v_keptMany v_done v_rowsOf v_columnsOf v_folded v_wronged v_tapeMany v_textMany v_base v_at v_ends v_fault v_opened v_bentMany v_bentWrong v_moreWorn v_planned v_allWrong v_allWorn v_z v_wishedField v_isFound v_bestWrong v_bestWorn v_bestMany v_soughtBy v_sought v_soughtAt v_foundMany v_foundOrder v_isKept v_imageRows v_imageColumns v_imageFolded v_imageWronged v_bodies v_ran v_ownKind v_ownNumber v_limit v_changeWas v_changeIs v_shapeRows v_shapeColumns v_row v_column v_below v_face v_worn v_lastBend v_tape v_text v_names v_bends v_high v_to v_pileSize v_planLine v_planWay v_way1 v_bestWay v_order1 v_placeIn v_bodyKind v_trace v_shelf v_many v_items v_carried) (wd_X9 cI cL cS cH a v_keptMany v_done v_rowsOf v_columnsOf v_folded v_wronged v_tapeMany v_textMany w_base w_at w_ends w_fault w_opened w_bentMany w_bentWrong w_moreWorn v_planned w_allWrong w_allWorn w_z v_wishedField v_isFound v_bestWrong v_bestWorn v_bestMany v_soughtBy v_sought v_soughtAt v_foundMany v_foundOrder v_isKept v_imageRows v_imageColumns v_imageFolded v_imageWronged v_bodies v_ran v_ownKind v_ownNumber v_limit v_changeWas v_changeIs w_shapeRows w_shapeColumns w_row w_column w_below w_face w_worn w_lastBend v_tape v_text w_names w_bends w_high w_to w_pileSize v_planLine v_planWay v_way1 v_bestWay v_order1 v_placeIn v_bodyKind v_trace v_shelf v_many v_items v_carried) (some (.int (mm_b r))) := by
  refine mm_of (by decide) (Nat.le_of_ble_eq_true rfl) ?_
  intro p e s m args below meth c A H locs ls C0 hP hD hA hS hl
  have C0 : mm_Cx p s m args meth c RX9 cX9_isBehind 2 (some .boolean) D (mm_T cI cL cS cH) A := C0
  obtain ⟨hx, hb, hml, hown, hts, hr, hlocks, hK, hSt⟩ := id C0
  have hl : lv_has ls 2 [(0, .ref (a 0)), (1, .int x1)] := hl
  unfold fX9_isBehind at hf
  refine lv_iload_n hx hb dX9_isBehind_0 rfl (lv_at hl 1 rfl) ?_
  refine lv_if_lt (tgt := 18) hx hb dX9_isBehind_1 (by decide) (fun c_1 => ?_) (fun c_1 => ?_)
  · have hf := mm_ip hf c_1
    refine lv_iconst (v := 0) hx hb dX9_isBehind_18 (by decide) ?_
    apply mm_sub25 hf
    exact mm_zret (v := false) C0 hP hD hS dX9_isBehind_19 (by decide)
  · have hf := mm_in hf c_1
    refine lv_aload_n hx hb dX9_isBehind_4 rfl (lv_at hl 0 rfl) ?_
    refine lv_iload_n hx hb dX9_isBehind_5 rfl (lv_at hl 1 rfl) ?_
    refine lv_iconst (v := -1) hx hb dX9_isBehind_6 (by decide) ?_
    refine mm_ct25 hf (fun r_2 w_3 w_4 w_5 w_6 w_7 w_8 w_9 w_10 w_11 w_12 w_13 w_14 w_15 w_16 w_17 w_18 w_19 w_20 w_21 w_22 w_23 w_24 w_25 w_26 hc_27 hf => ?_)
    refine mm_callVF (q0 := 0) (ci := 9) (rest := []) C0 lk_X9_292 (ctX9_goesPlan (a := a) (d := d - 1) (by omega) hc_27) (by omega) rfl hl.1 rfl (mm_cat rfl) dX9_isBehind_7 hP hD hA hS rfl rfl (fun H locs hP hD hS => ?_)
    refine W.eq (g2 := F0 m 10 ls [.int r_2]) rfl ?_
    refine lv_iload_n hx hb dX9_isBehind_10 rfl (lv_at hl 1 rfl) ?_
    refine lv_icmp_ne (tgt := 18) hx hb dX9_isBehind_11 (by decide) (fun c_28 => ?_) (fun c_28 => ?_)
    · have hf := mm_in hf c_28
      refine lv_iconst (v := 0) hx hb dX9_isBehind_18 (by decide) ?_
      apply mm_sub25 hf
      exact mm_zret (v := false) C0 hP hD hS dX9_isBehind_19 (by decide)
    · have hf := mm_ip hf c_28
      refine lv_iconst (v := 1) hx hb dX9_isBehind_14 (by decide) ?_
      refine lv_goto (tgt := 19) hx hb dX9_isBehind_15 (by decide) ?_
      apply mm_sub25 hf
      exact mm_zret (v := true) C0 hP hD hS dX9_isBehind_19 (by decide)

theorem nb_dX9_lies_0 : bls_w cX9_lies [(0, [27]), (1, [155, 0, 37]), (4, [42]), (5, [27]), (6, [16, 100]), (8, [108]), (9, [182, 0, 249]), (12, [153, 0, 26]), (15, [28]), (16, [133]), (17, [9]), (18, [20, 0, 252])] := bls_of (by decide +kernel)
theorem dX9_lies_0 : decode cX9_lies 0 = .ok (.iload_n 1, 1) := op_27 nb_dX9_lies_0.1
set_option maxRecDepth 100000 in
theorem dX9_lies_1 : decode cX9_lies 1 = .ok (.ifCond .lt 37, 3) := (op_155 nb_dX9_lies_0.2.1).trans rfl
theorem dX9_lies_4 : decode cX9_lies 4 = .ok (.aload_n 0, 1) := op_42 nb_dX9_lies_0.2.2.1
theorem dX9_lies_5 : decode cX9_lies 5 = .ok (.iload_n 1, 1) := op_27 nb_dX9_lies_0.2.2.2.1
set_option maxRecDepth 100000 in
theorem dX9_lies_6 : decode cX9_lies 6 = .ok (.bipush 100, 2) := (op_16 nb_dX9_lies_0.2.2.2.2.1).trans rfl
theorem dX9_lies_8 : decode cX9_lies 8 = .ok (.idiv, 1) := op_108 nb_dX9_lies_0.2.2.2.2.2.1
set_option maxRecDepth 100000 in
theorem dX9_lies_9 : decode cX9_lies 9 = .ok (.invokevirtual 249, 3) := (op_182 nb_dX9_lies_0.2.2.2.2.2.2.1).trans rfl
set_option maxRecDepth 100000 in
theorem dX9_lies_12 : decode cX9_lies 12 = .ok (.ifCond .eq 26, 3) := (op_153 nb_dX9_lies_0.2.2.2.2.2.2.2.1).trans rfl
theorem dX9_lies_15 : decode cX9_lies 15 = .ok (.iload_n 2, 1) := op_28 nb_dX9_lies_0.2.2.2.2.2.2.2.2.1
theorem dX9_lies_16 : decode cX9_lies 16 = .ok (.i2l, 1) := op_133 nb_dX9_lies_0.2.2.2.2.2.2.2.2.2.1
theorem dX9_lies_17 : decode cX9_lies 17 = .ok (.lconst 0, 1) := op_9 nb_dX9_lies_0.2.2.2.2.2.2.2.2.2.2.1
set_option maxRecDepth 100000 in
theorem dX9_lies_18 : decode cX9_lies 18 = .ok (.ldc2_w 252, 3) := (op_20 nb_dX9_lies_0.2.2.2.2.2.2.2.2.2.2.2.1).trans rfl
theorem nb_dX9_lies_21 : bls_w cX9_lies [(21, [184, 0, 111]), (24, [153, 0, 14]), (27, [42]), (28, [27]), (29, [16, 100]), (31, [112]), (32, [182, 1, 39]), (35, [154, 0, 5]), (38, [2]), (39, [172]), (40, [42]), (41, [4])] := bls_of (by decide +kernel)
set_option maxRecDepth 100000 in
theorem dX9_lies_21 : decode cX9_lies 21 = .ok (.invokestatic 111, 3) := (op_184 nb_dX9_lies_21.1).trans rfl
set_option maxRecDepth 100000 in
theorem dX9_lies_24 : decode cX9_lies 24 = .ok (.ifCond .eq 14, 3) := (op_153 nb_dX9_lies_21.2.1).trans rfl
theorem dX9_lies_27 : decode cX9_lies 27 = .ok (.aload_n 0, 1) := op_42 nb_dX9_lies_21.2.2.1
theorem dX9_lies_28 : decode cX9_lies 28 = .ok (.iload_n 1, 1) := op_27 nb_dX9_lies_21.2.2.2.1
set_option maxRecDepth 100000 in
theorem dX9_lies_29 : decode cX9_lies 29 = .ok (.bipush 100, 2) := (op_16 nb_dX9_lies_21.2.2.2.2.1).trans rfl
theorem dX9_lies_31 : decode cX9_lies 31 = .ok (.irem, 1) := op_112 nb_dX9_lies_21.2.2.2.2.2.1
set_option maxRecDepth 100000 in
theorem dX9_lies_32 : decode cX9_lies 32 = .ok (.invokevirtual 295, 3) := (op_182 nb_dX9_lies_21.2.2.2.2.2.2.1).trans rfl
set_option maxRecDepth 100000 in
theorem dX9_lies_35 : decode cX9_lies 35 = .ok (.ifCond .ne 5, 3) := (op_154 nb_dX9_lies_21.2.2.2.2.2.2.2.1).trans rfl
theorem dX9_lies_38 : decode cX9_lies 38 = .ok (.iconst (-1), 1) := op_2 nb_dX9_lies_21.2.2.2.2.2.2.2.2.1
theorem dX9_lies_39 : decode cX9_lies 39 = .ok (.ireturn, 1) := op_172 nb_dX9_lies_21.2.2.2.2.2.2.2.2.2.1
theorem dX9_lies_40 : decode cX9_lies 40 = .ok (.aload_n 0, 1) := op_42 nb_dX9_lies_21.2.2.2.2.2.2.2.2.2.2.1
theorem dX9_lies_41 : decode cX9_lies 41 = .ok (.iconst 1, 1) := op_4 nb_dX9_lies_21.2.2.2.2.2.2.2.2.2.2.2.1
theorem nb_dX9_lies_42 : bls_w cX9_lies [(42, [27]), (43, [16, 100]), (45, [108]), (46, [28]), (47, [182, 0, 254]), (50, [172])] := bls_of (by decide +kernel)
theorem dX9_lies_42 : decode cX9_lies 42 = .ok (.iload_n 1, 1) := op_27 nb_dX9_lies_42.1
set_option maxRecDepth 100000 in
theorem dX9_lies_43 : decode cX9_lies 43 = .ok (.bipush 100, 2) := (op_16 nb_dX9_lies_42.2.1).trans rfl
theorem dX9_lies_45 : decode cX9_lies 45 = .ok (.idiv, 1) := op_108 nb_dX9_lies_42.2.2.1
theorem dX9_lies_46 : decode cX9_lies 46 = .ok (.iload_n 2, 1) := op_28 nb_dX9_lies_42.2.2.2.1
set_option maxRecDepth 100000 in
theorem dX9_lies_47 : decode cX9_lies 47 = .ok (.invokevirtual 254, 3) := (op_182 nb_dX9_lies_42.2.2.2.2.1).trans rfl
theorem dX9_lies_50 : decode cX9_lies 50 = .ok (.ireturn, 1) := op_172 nb_dX9_lies_42.2.2.2.2.2.1
def fX9_lies (N : Nat) (x1 : Int32) (x2 : Int32) (v_rowsOf : Int32) (v_columnsOf : Int32) (v_textMany : Int32) (v_base : Int32) (v_at : Int32) (v_ends : Int32) (v_fault : Int32) (v_opened : Int32) (v_bentMany : Int32) (v_bentWrong : Int32) (v_moreWorn : Int32) (v_planned : Int32) (v_allWrong : Int32) (v_allWorn : Int32) (v_z : Int32) (v_limit : List Int32) (v_shapeRows : List Int32) (v_shapeColumns : List Int32) (v_row : List Int32) (v_column : List Int32) (v_below : List Int32) (v_face : List Int32) (v_worn : List Int32) (v_lastBend : List Int32) (v_tape : List Int32) (v_text : List Int32) (v_names : List Int32) (v_bends : List Int32) (v_high : List Int32) (v_to : List Int32) (v_pileSize : List Int32) (v_planLine : List Int32) (v_planWay : List Int32) : Option (Int32 × Int32 × Int32 × Int32 × Int32 × Int32 × Int32 × Int32 × Int32 × Int32 × Int32 × Int32 × List Int32 × List Int32 × List Int32 × List Int32 × List Int32 × List Int32 × List Int32 × List Int32 × List Int32 × List Int32 × List Int32 × List Int32 × List Int32) :=
    if x1 < 0 then
    (some ((-1 : Int32), v_base, v_at, v_ends, v_fault, v_opened, v_bentMany, v_bentWrong, v_moreWorn, v_allWrong, v_allWorn, v_z, v_shapeRows, v_shapeColumns, v_row, v_column, v_below, v_face, v_worn, v_lastBend, v_names, v_bends, v_high, v_to, v_pileSize))
    else (mm_ck (mm_nz (100 : Int32)) (mm_bd1 (fX9_isField N (x1 / (100 : Int32)) v_rowsOf v_columnsOf) (fun (r_3 : Bool) =>
    if r_3 = false then
    (some ((-1 : Int32), v_base, v_at, v_ends, v_fault, v_opened, v_bentMany, v_bentWrong, v_moreWorn, v_allWrong, v_allWorn, v_z, v_shapeRows, v_shapeColumns, v_row, v_column, v_below, v_face, v_worn, v_lastBend, v_names, v_bends, v_high, v_to, v_pileSize))
    else (mm_bd1 (fX9_within N ((x2).toInt64) (0 : Int64) (3 : Int64)) (fun (r_6 : Bool) =>
    if r_6 = false then
    (some ((-1 : Int32), v_base, v_at, v_ends, v_fault, v_opened, v_bentMany, v_bentWrong, v_moreWorn, v_allWrong, v_allWorn, v_z, v_shapeRows, v_shapeColumns, v_row, v_column, v_below, v_face, v_worn, v_lastBend, v_names, v_bends, v_high, v_to, v_pileSize))
    else (mm_ck (mm_nz (100 : Int32)) (mm_bd25 (fX9_isBehind N (mm_rem x1 (100 : Int32)) v_rowsOf v_columnsOf v_textMany v_base v_at v_ends v_fault v_opened v_bentMany v_bentWrong v_moreWorn v_planned v_allWrong v_allWorn v_z v_limit v_shapeRows v_shapeColumns v_row v_column v_below v_face v_worn v_lastBend v_tape v_text v_names v_bends v_high v_to v_pileSize v_planLine v_planWay) (fun (r_10 : Bool) (w_11 : Int32) (w_12 : Int32) (w_13 : Int32) (w_14 : Int32) (w_15 : Int32) (w_16 : Int32) (w_17 : Int32) (w_18 : Int32) (w_19 : Int32) (w_20 : Int32) (w_21 : Int32) (w_22 : List Int32) (w_23 : List Int32) (w_24 : List Int32) (w_25 : List Int32) (w_26 : List Int32) (w_27 : List Int32) (w_28 : List Int32) (w_29 : List Int32) (w_30 : List Int32) (w_31 : List Int32) (w_32 : List Int32) (w_33 : List Int32) (w_34 : List Int32) =>
    if r_10 = false then
    (some ((-1 : Int32), w_11, w_12, w_13, w_14, w_15, w_16, w_17, w_18, w_19, w_20, w_21, w_22, w_23, w_24, w_25, w_26, w_27, w_28, w_29, w_30, w_31, w_32, w_33, w_34))
    else (mm_ck (mm_nz (100 : Int32)) (mm_bd1 (fX9_whereOf N (1 : Int32) (x1 / (100 : Int32)) x2 w_24 w_25 w_26 w_27) (fun (r_38 : Int32) =>
    some (r_38, w_11, w_12, w_13, w_14, w_15, w_16, w_17, w_18, w_19, w_20, w_21, w_22, w_23, w_24, w_25, w_26, w_27, w_28, w_29, w_30, w_31, w_32, w_33, w_34))))))))))))

set_option maxHeartbeats 4000000 in
set_option maxRecDepth 100000 in
theorem ctX9_lies {l : Launch} {D : va_G} {cI cL cS cH : ClassId} {a : Nat → Nat} {x1 : Int32} {x2 : Int32} {v_keptMany : Int32} {v_done : Int32} {v_rowsOf : Int32} {v_columnsOf : Int32} {v_folded : Int32} {v_wronged : Int32} {v_tapeMany : Int32} {v_textMany : Int32} {v_base : Int32} {v_at : Int32} {v_ends : Int32} {v_fault : Int32} {v_opened : Int32} {v_bentMany : Int32} {v_bentWrong : Int32} {v_moreWorn : Int32} {v_planned : Int32} {v_allWrong : Int32} {v_allWorn : Int32} {v_z : Int32} {v_wishedField : Int32} {v_isFound : Bool} {v_bestWrong : Int32} {v_bestWorn : Int32} {v_bestMany : Int32} {v_soughtBy : Int32} {v_sought : Int32} {v_soughtAt : Int32} {v_foundMany : Int32} {v_foundOrder : Int32} {v_isKept : Bool} {v_imageRows : Int32} {v_imageColumns : Int32} {v_imageFolded : Int32} {v_imageWronged : Int32} {v_bodies : Int32} {v_ran : Int32} {v_ownKind : Int32} {v_ownNumber : Int32} {v_limit : List Int32} {v_changeWas : List Int32} {v_changeIs : List Int32} {v_shapeRows : List Int32} {v_shapeColumns : List Int32} {v_row : List Int32} {v_column : List Int32} {v_below : List Int32} {v_face : List Int32} {v_worn : List Int32} {v_lastBend : List Int32} {v_tape : List Int32} {v_text : List Int32} {v_names : List Int32} {v_bends : List Int32} {v_high : List Int32} {v_to : List Int32} {v_pileSize : List Int32} {v_planLine : List Int32} {v_planWay : List Int32} {v_way1 : List Int32} {v_bestWay : List Int32} {v_order1 : List Int32} {v_placeIn : List Int32} {v_bodyKind : List Int32} {v_trace : List Int32} {v_shelf : List Int32} {v_many : List Int32} {v_items : List Int64} {v_carried : List Int64} {r : Int32} {w_base : Int32} {w_at : Int32} {w_ends : Int32} {w_fault : Int32} {w_opened : Int32} {w_bentMany : Int32} {w_bentWrong : Int32} {w_moreWorn : Int32} {w_allWrong : Int32} {w_allWorn : Int32} {w_z : Int32} {w_shapeRows : List Int32} {w_shapeColumns : List Int32} {w_row : List Int32} {w_column : List Int32} {w_below : List Int32} {w_face : List Int32} {w_worn : List Int32} {w_lastBend : List Int32} {w_names : List Int32} {w_bends : List Int32} {w_high : List Int32} {w_to : List Int32} {w_pileSize : List Int32} {N d : Nat} (hd : 62 ≤ d) (hf : fX9_lies N x1 x2 v_rowsOf v_columnsOf v_textMany v_base v_at v_ends v_fault v_opened v_bentMany v_bentWrong v_moreWorn v_planned v_allWrong v_allWorn v_z v_limit v_shapeRows v_shapeColumns v_row v_column v_below v_face v_worn v_lastBend v_tape v_text v_names v_bends v_high v_to v_pileSize v_planLine v_planWay = some (r, w_base, w_at, w_ends, w_fault, w_opened, w_bentMany, w_bentWrong, w_moreWorn, w_allWrong, w_allWorn, w_z, w_shapeRows, w_shapeColumns, w_row, w_column, w_below, w_face, w_worn, w_lastBend, w_names, w_bends, w_high, w_to, w_pileSize)) : mm_Ct l yX9_lies cX9_lies 3 (some .int) d D (mm_T cI cL cS cH) [.ref (a 0), .int x1, .int x2] (wd_X9 cI cL cS cH a v_keptMany v_done v_rowsOf v_columnsOf v_folded v_wronged v_tapeMany v_textMany v_base v_at v_ends v_fault v_opened v_bentMany v_bentWrong v_moreWorn v_planned v_allWrong v_allWorn v_z v_wishedField v_isFound v_bestWrong v_bestWorn v_bestMany v_soughtBy v_sought v_soughtAt v_foundMany v_foundOrder v_isKept v_imageRows v_imageColumns v_imageFolded v_imageWronged v_bodies v_ran v_ownKind v_ownNumber v_limit v_changeWas v_changeIs v_shapeRows v_shapeColumns v_row v_column v_below v_face v_worn v_lastBend v_tape v_text v_names v_bends v_high v_to v_pileSize v_planLine v_planWay v_way1 v_bestWay v_order1 v_placeIn v_bodyKind v_trace v_shelf v_many v_items v_carried) (wd_X9 cI cL cS cH a v_keptMany v_done v_rowsOf v_columnsOf v_folded v_wronged v_tapeMany v_textMany w_base w_at w_ends w_fault w_opened w_bentMany w_bentWrong w_moreWorn v_planned w_allWrong w_allWorn w_z v_wishedField v_isFound v_bestWrong v_bestWorn v_bestMany v_soughtBy v_sought v_soughtAt v_foundMany v_foundOrder v_isKept v_imageRows v_imageColumns v_imageFolded v_imageWronged v_bodies v_ran v_ownKind v_ownNumber v_limit v_changeWas v_changeIs w_shapeRows w_shapeColumns w_row w_column w_below w_face w_worn w_lastBend v_tape v_text w_names w_bends w_high w_to w_pileSize v_planLine v_planWay v_way1 v_bestWay v_order1 v_placeIn v_bodyKind v_trace v_shelf v_many v_items v_carried) (some (.int r)) := by
  refine mm_of (by decide) (Nat.le_of_ble_eq_true rfl) ?_
  intro p e s m args below meth c A H locs ls C0 hP hD hA hS hl
  have C0 : mm_Cx p s m args meth c RX9 cX9_lies 3 (some .int) D (mm_T cI cL cS cH) A := C0
  obtain ⟨hx, hb, hml, hown, hts, hr, hlocks, hK, hSt⟩ := id C0
  have hl : lv_has ls 3 [(0, .ref (a 0)), (1, .int x1), (2, .int x2)] := hl
  unfold fX9_lies at hf
  refine lv_iload_n hx hb dX9_lies_0 rfl (lv_at hl 1 rfl) ?_
  refine lv_if_lt (tgt := 38) hx hb dX9_lies_1 (by decide) (fun c_1 => ?_) (fun c_1 => ?_)
  · have hf := mm_ip hf c_1
    refine lv_iconst (v := -1) hx hb dX9_lies_38 (by decide) ?_
    apply mm_sub25 hf
    exact mm_iret C0 hP hD hS dX9_lies_39
  · have hf := mm_in hf c_1
    refine lv_aload_n hx hb dX9_lies_4 rfl (lv_at hl 0 rfl) ?_
    refine lv_iload_n hx hb dX9_lies_5 rfl (lv_at hl 1 rfl) ?_
    refine lv_bipush (v := 100) hx hb dX9_lies_6 (by decide) ?_
    obtain ⟨h_2, hf⟩ := mm_cks hf
    refine lv_idiv hx hb dX9_lies_8 (mm_nzs h_2) ?_
    obtain ⟨r_3, hc_4, hf⟩ := mm_bd1s hf
    refine mm_callVF (q0 := 0) (ci := 9) (rest := []) C0 lk_X9_249 (ctX9_isField (a := a) (d := d - 1) (by omega) hc_4) (by omega) rfl hl.1 rfl (mm_cat rfl) dX9_lies_9 hP hD hA hS rfl rfl (fun H locs hP hD hS => ?_)
    refine W.eq (g2 := F0 m 12 ls [.int (mm_b r_3)]) rfl ?_
    refine lv_if_eq (tgt := 38) hx hb dX9_lies_12 (by decide) (fun c_5 => ?_) (fun c_5 => ?_)
    · have hf := mm_ip hf (mm_b0 c_5)
      refine lv_iconst (v := -1) hx hb dX9_lies_38 (by decide) ?_
      apply mm_sub25 hf
      exact mm_iret C0 hP hD hS dX9_lies_39
    · have hf := mm_in hf (mm_b1 c_5)
      refine lv_iload_n hx hb dX9_lies_15 rfl (lv_at hl 2 rfl) ?_
      refine lv_i2l hx hb dX9_lies_16 rfl ?_
      refine lv_lconst (v := 0) hx hb dX9_lies_17 (by decide) ?_
      refine lv_ldc2 hx hb hown (hts _ kc_X9_252) dX9_lies_18 ?_
      obtain ⟨r_6, hc_7, hf⟩ := mm_bd1s hf
      refine mm_callS0 (rest := []) C0 lk_X9_111 (ctX9_within (d := d - 1) (by omega) hc_7) (by omega) rfl hl.1 rfl (mm_cat rfl) dX9_lies_21 hP hD hA hS (fun H locs hP hS => ?_)
      refine W.eq (g2 := F0 m 24 ls [.int (mm_b r_6)]) rfl ?_
      refine lv_if_eq (tgt := 38) hx hb dX9_lies_24 (by decide) (fun c_8 => ?_) (fun c_8 => ?_)
      · have hf := mm_ip hf (mm_b0 c_8)
        refine lv_iconst (v := -1) hx hb dX9_lies_38 (by decide) ?_
        apply mm_sub25 hf
        exact mm_iret C0 hP hD hS dX9_lies_39
      · have hf := mm_in hf (mm_b1 c_8)
        refine lv_aload_n hx hb dX9_lies_27 rfl (lv_at hl 0 rfl) ?_
        refine lv_iload_n hx hb dX9_lies_28 rfl (lv_at hl 1 rfl) ?_
        refine lv_bipush (v := 100) hx hb dX9_lies_29 (by decide) ?_
        obtain ⟨h_9, hf⟩ := mm_cks hf
        refine lv_irem hx hb dX9_lies_31 (mm_nzs h_9) ?_
        refine mm_ct25 hf (fun r_10 w_11 w_12 w_13 w_14 w_15 w_16 w_17 w_18 w_19 w_20 w_21 w_22 w_23 w_24 w_25 w_26 w_27 w_28 w_29 w_30 w_31 w_32 w_33 w_34 hc_35 hf => ?_)
        refine mm_callVF (q0 := 0) (ci := 9) (rest := []) C0 lk_X9_295 (ctX9_isBehind (a := a) (d := d - 1) (by omega) hc_35) (by omega) rfl hl.1 rfl (mm_cat rfl) dX9_lies_32 hP hD hA hS rfl rfl (fun H locs hP hD hS => ?_)
        refine W.eq (g2 := F0 m 35 ls [.int (mm_b r_10)]) rfl ?_
        refine lv_if_ne (tgt := 40) hx hb dX9_lies_35 (by decide) (fun c_36 => ?_) (fun c_36 => ?_)
        · have hf := mm_in hf (mm_b1 c_36)
          refine lv_aload_n hx hb dX9_lies_40 rfl (lv_at hl 0 rfl) ?_
          refine lv_iconst (v := 1) hx hb dX9_lies_41 (by decide) ?_
          refine lv_iload_n hx hb dX9_lies_42 rfl (lv_at hl 1 rfl) ?_
          refine lv_bipush (v := 100) hx hb dX9_lies_43 (by decide) ?_
          obtain ⟨h_37, hf⟩ := mm_cks hf
          refine lv_idiv hx hb dX9_lies_45 (mm_nzs h_37) ?_
          refine lv_iload_n hx hb dX9_lies_46 rfl (lv_at hl 2 rfl) ?_
          obtain ⟨r_38, hc_39, hf⟩ := mm_bd1s hf
          refine mm_callVF (q0 := 0) (ci := 9) (rest := []) C0 lk_X9_254 (ctX9_whereOf (a := a) (d := d - 1) (by omega) hc_39) (by omega) rfl hl.1 rfl (mm_cat rfl) dX9_lies_47 hP hD hA hS rfl rfl (fun H locs hP hD hS => ?_)
          refine W.eq (g2 := F0 m 50 ls [.int r_38]) rfl ?_
          apply mm_sub25 hf
          exact mm_iret C0 hP hD hS dX9_lies_50
        · have hf := mm_ip hf (mm_b0 c_36)
          refine lv_iconst (v := -1) hx hb dX9_lies_38 (by decide) ?_
          apply mm_sub25 hf
          exact mm_iret C0 hP hD hS dX9_lies_39

theorem nb_dX9_topOf_0 : bls_w cX9_topOf [(0, [42]), (1, [27]), (2, [28]), (3, [29]), (4, [42]), (5, [27]), (6, [28]), (7, [29]), (8, [182, 1, 6]), (11, [4]), (12, [100]), (13, [182, 1, 9])] := bls_of (by decide +kernel)
theorem dX9_topOf_0 : decode cX9_topOf 0 = .ok (.aload_n 0, 1) := op_42 nb_dX9_topOf_0.1
theorem dX9_topOf_1 : decode cX9_topOf 1 = .ok (.iload_n 1, 1) := op_27 nb_dX9_topOf_0.2.1
theorem dX9_topOf_2 : decode cX9_topOf 2 = .ok (.iload_n 2, 1) := op_28 nb_dX9_topOf_0.2.2.1
theorem dX9_topOf_3 : decode cX9_topOf 3 = .ok (.iload_n 3, 1) := op_29 nb_dX9_topOf_0.2.2.2.1
theorem dX9_topOf_4 : decode cX9_topOf 4 = .ok (.aload_n 0, 1) := op_42 nb_dX9_topOf_0.2.2.2.2.1
theorem dX9_topOf_5 : decode cX9_topOf 5 = .ok (.iload_n 1, 1) := op_27 nb_dX9_topOf_0.2.2.2.2.2.1
theorem dX9_topOf_6 : decode cX9_topOf 6 = .ok (.iload_n 2, 1) := op_28 nb_dX9_topOf_0.2.2.2.2.2.2.1
theorem dX9_topOf_7 : decode cX9_topOf 7 = .ok (.iload_n 3, 1) := op_29 nb_dX9_topOf_0.2.2.2.2.2.2.2.1
set_option maxRecDepth 100000 in
theorem dX9_topOf_8 : decode cX9_topOf 8 = .ok (.invokevirtual 262, 3) := (op_182 nb_dX9_topOf_0.2.2.2.2.2.2.2.2.1).trans rfl
theorem dX9_topOf_11 : decode cX9_topOf 11 = .ok (.iconst 1, 1) := op_4 nb_dX9_topOf_0.2.2.2.2.2.2.2.2.2.1
theorem dX9_topOf_12 : decode cX9_topOf 12 = .ok (.isub, 1) := op_100 nb_dX9_topOf_0.2.2.2.2.2.2.2.2.2.2.1
set_option maxRecDepth 100000 in
theorem dX9_topOf_13 : decode cX9_topOf 13 = .ok (.invokevirtual 265, 3) := (op_182 nb_dX9_topOf_0.2.2.2.2.2.2.2.2.2.2.2.1).trans rfl
theorem nb_dX9_topOf_16 : bls_w cX9_topOf [(16, [172])] := bls_of (by decide +kernel)
theorem dX9_topOf_16 : decode cX9_topOf 16 = .ok (.ireturn, 1) := op_172 nb_dX9_topOf_16.1
def fX9_topOf (N : Nat) (x1 : Int32) (x2 : Int32) (x3 : Int32) (v_rowsOf : Int32) (v_columnsOf : Int32) (v_row : List Int32) (v_column : List Int32) (v_below : List Int32) : Option (Int32) :=
    mm_bd1 (fX9_sizeAt N x1 x2 x3 v_rowsOf v_columnsOf v_row v_column) (fun (r_1 : Int32) =>
    mm_bd1 (fX9_fieldAt N x1 x2 x3 (r_1 - (1 : Int32)) v_rowsOf v_columnsOf v_row v_column v_below) (fun (r_3 : Int32) =>
    some (r_3)))

set_option maxHeartbeats 4000000 in
set_option maxRecDepth 100000 in
theorem ctX9_topOf {l : Launch} {D : va_G} {cI cL cS cH : ClassId} {a : Nat → Nat} {x1 : Int32} {x2 : Int32} {x3 : Int32} {v_keptMany : Int32} {v_done : Int32} {v_rowsOf : Int32} {v_columnsOf : Int32} {v_folded : Int32} {v_wronged : Int32} {v_tapeMany : Int32} {v_textMany : Int32} {v_base : Int32} {v_at : Int32} {v_ends : Int32} {v_fault : Int32} {v_opened : Int32} {v_bentMany : Int32} {v_bentWrong : Int32} {v_moreWorn : Int32} {v_planned : Int32} {v_allWrong : Int32} {v_allWorn : Int32} {v_z : Int32} {v_wishedField : Int32} {v_isFound : Bool} {v_bestWrong : Int32} {v_bestWorn : Int32} {v_bestMany : Int32} {v_soughtBy : Int32} {v_sought : Int32} {v_soughtAt : Int32} {v_foundMany : Int32} {v_foundOrder : Int32} {v_isKept : Bool} {v_imageRows : Int32} {v_imageColumns : Int32} {v_imageFolded : Int32} {v_imageWronged : Int32} {v_bodies : Int32} {v_ran : Int32} {v_ownKind : Int32} {v_ownNumber : Int32} {v_limit : List Int32} {v_changeWas : List Int32} {v_changeIs : List Int32} {v_shapeRows : List Int32} {v_shapeColumns : List Int32} {v_row : List Int32} {v_column : List Int32} {v_below : List Int32} {v_face : List Int32} {v_worn : List Int32} {v_lastBend : List Int32} {v_tape : List Int32} {v_text : List Int32} {v_names : List Int32} {v_bends : List Int32} {v_high : List Int32} {v_to : List Int32} {v_pileSize : List Int32} {v_planLine : List Int32} {v_planWay : List Int32} {v_way1 : List Int32} {v_bestWay : List Int32} {v_order1 : List Int32} {v_placeIn : List Int32} {v_bodyKind : List Int32} {v_trace : List Int32} {v_shelf : List Int32} {v_many : List Int32} {v_items : List Int64} {v_carried : List Int64} {r : Int32} {N d : Nat} (hd : 3 ≤ d) (hf : fX9_topOf N x1 x2 x3 v_rowsOf v_columnsOf v_row v_column v_below = some r) : mm_Ct l yX9_topOf cX9_topOf 4 (some .int) d D (mm_T cI cL cS cH) [.ref (a 0), .int x1, .int x2, .int x3] (wd_X9 cI cL cS cH a v_keptMany v_done v_rowsOf v_columnsOf v_folded v_wronged v_tapeMany v_textMany v_base v_at v_ends v_fault v_opened v_bentMany v_bentWrong v_moreWorn v_planned v_allWrong v_allWorn v_z v_wishedField v_isFound v_bestWrong v_bestWorn v_bestMany v_soughtBy v_sought v_soughtAt v_foundMany v_foundOrder v_isKept v_imageRows v_imageColumns v_imageFolded v_imageWronged v_bodies v_ran v_ownKind v_ownNumber v_limit v_changeWas v_changeIs v_shapeRows v_shapeColumns v_row v_column v_below v_face v_worn v_lastBend v_tape v_text v_names v_bends v_high v_to v_pileSize v_planLine v_planWay v_way1 v_bestWay v_order1 v_placeIn v_bodyKind v_trace v_shelf v_many v_items v_carried) (wd_X9 cI cL cS cH a v_keptMany v_done v_rowsOf v_columnsOf v_folded v_wronged v_tapeMany v_textMany v_base v_at v_ends v_fault v_opened v_bentMany v_bentWrong v_moreWorn v_planned v_allWrong v_allWorn v_z v_wishedField v_isFound v_bestWrong v_bestWorn v_bestMany v_soughtBy v_sought v_soughtAt v_foundMany v_foundOrder v_isKept v_imageRows v_imageColumns v_imageFolded v_imageWronged v_bodies v_ran v_ownKind v_ownNumber v_limit v_changeWas v_changeIs v_shapeRows v_shapeColumns v_row v_column v_below v_face v_worn v_lastBend v_tape v_text v_names v_bends v_high v_to v_pileSize v_planLine v_planWay v_way1 v_bestWay v_order1 v_placeIn v_bodyKind v_trace v_shelf v_many v_items v_carried) (some (.int r)) := by
  refine mm_of (by decide) (Nat.le_of_ble_eq_true rfl) ?_
  intro p e s m args below meth c A H locs ls C0 hP hD hA hS hl
  have C0 : mm_Cx p s m args meth c RX9 cX9_topOf 4 (some .int) D (mm_T cI cL cS cH) A := C0
  obtain ⟨hx, hb, hml, hown, hts, hr, hlocks, hK, hSt⟩ := id C0
  have hl : lv_has ls 4 [(0, .ref (a 0)), (1, .int x1), (2, .int x2), (3, .int x3)] := hl
  unfold fX9_topOf at hf
  refine lv_aload_n hx hb dX9_topOf_0 rfl (lv_at hl 0 rfl) ?_
  refine lv_iload_n hx hb dX9_topOf_1 rfl (lv_at hl 1 rfl) ?_
  refine lv_iload_n hx hb dX9_topOf_2 rfl (lv_at hl 2 rfl) ?_
  refine lv_iload_n hx hb dX9_topOf_3 rfl (lv_at hl 3 rfl) ?_
  refine lv_aload_n hx hb dX9_topOf_4 rfl (lv_at hl 0 rfl) ?_
  refine lv_iload_n hx hb dX9_topOf_5 rfl (lv_at hl 1 rfl) ?_
  refine lv_iload_n hx hb dX9_topOf_6 rfl (lv_at hl 2 rfl) ?_
  refine lv_iload_n hx hb dX9_topOf_7 rfl (lv_at hl 3 rfl) ?_
  obtain ⟨r_1, hc_2, hf⟩ := mm_bd1s hf
  refine mm_callVF (q0 := 0) (ci := 9) (rest := [.int x3, .int x2, .int x1, .ref (a 0)]) C0 lk_X9_262 (ctX9_sizeAt (a := a) (d := d - 1) (by omega) hc_2) (by omega) rfl hl.1 rfl (mm_cat rfl) dX9_topOf_8 hP hD hA hS rfl rfl (fun H locs hP hD hS => ?_)
  refine W.eq (g2 := F0 m 11 ls [.int r_1, .int x3, .int x2, .int x1, .ref (a 0)]) rfl ?_
  refine lv_iconst (v := 1) hx hb dX9_topOf_11 (by decide) ?_
  refine lv_isub hx hb dX9_topOf_12 ?_
  obtain ⟨r_3, hc_4, hf⟩ := mm_bd1s hf
  refine mm_callVF (q0 := 0) (ci := 9) (rest := []) C0 lk_X9_265 (ctX9_fieldAt (a := a) (d := d - 1) (by omega) hc_4) (by omega) rfl hl.1 rfl (mm_cat rfl) dX9_topOf_13 hP hD hA hS rfl rfl (fun H locs hP hD hS => ?_)
  refine W.eq (g2 := F0 m 16 ls [.int r_3]) rfl ?_
  obtain rfl := mm_inj1 hf
  exact mm_iret C0 hP hD hS dX9_topOf_16

theorem nb_dX9_top_0 : bls_w cX9_top [(0, [42]), (1, [27]), (2, [182, 1, 39]), (5, [153, 0, 28]), (8, [42]), (9, [4]), (10, [28]), (11, [182, 1, 2]), (14, [153, 0, 19]), (17, [42]), (18, [4]), (19, [28])] := bls_of (by decide +kernel)
theorem dX9_top_0 : decode cX9_top 0 = .ok (.aload_n 0, 1) := op_42 nb_dX9_top_0.1
theorem dX9_top_1 : decode cX9_top 1 = .ok (.iload_n 1, 1) := op_27 nb_dX9_top_0.2.1
set_option maxRecDepth 100000 in
theorem dX9_top_2 : decode cX9_top 2 = .ok (.invokevirtual 295, 3) := (op_182 nb_dX9_top_0.2.2.1).trans rfl
set_option maxRecDepth 100000 in
theorem dX9_top_5 : decode cX9_top 5 = .ok (.ifCond .eq 28, 3) := (op_153 nb_dX9_top_0.2.2.2.1).trans rfl
theorem dX9_top_8 : decode cX9_top 8 = .ok (.aload_n 0, 1) := op_42 nb_dX9_top_0.2.2.2.2.1
theorem dX9_top_9 : decode cX9_top 9 = .ok (.iconst 1, 1) := op_4 nb_dX9_top_0.2.2.2.2.2.1
theorem dX9_top_10 : decode cX9_top 10 = .ok (.iload_n 2, 1) := op_28 nb_dX9_top_0.2.2.2.2.2.2.1
set_option maxRecDepth 100000 in
theorem dX9_top_11 : decode cX9_top 11 = .ok (.invokevirtual 258, 3) := (op_182 nb_dX9_top_0.2.2.2.2.2.2.2.1).trans rfl
set_option maxRecDepth 100000 in
theorem dX9_top_14 : decode cX9_top 14 = .ok (.ifCond .eq 19, 3) := (op_153 nb_dX9_top_0.2.2.2.2.2.2.2.2.1).trans rfl
theorem dX9_top_17 : decode cX9_top 17 = .ok (.aload_n 0, 1) := op_42 nb_dX9_top_0.2.2.2.2.2.2.2.2.2.1
theorem dX9_top_18 : decode cX9_top 18 = .ok (.iconst 1, 1) := op_4 nb_dX9_top_0.2.2.2.2.2.2.2.2.2.2.1
theorem dX9_top_19 : decode cX9_top 19 = .ok (.iload_n 2, 1) := op_28 nb_dX9_top_0.2.2.2.2.2.2.2.2.2.2.2.1
theorem nb_dX9_top_20 : bls_w cX9_top [(20, [16, 10]), (22, [108]), (23, [28]), (24, [16, 10]), (26, [112]), (27, [182, 1, 42]), (30, [167, 0, 4]), (33, [2]), (34, [172])] := bls_of (by decide +kernel)
set_option maxRecDepth 100000 in
theorem dX9_top_20 : decode cX9_top 20 = .ok (.bipush 10, 2) := (op_16 nb_dX9_top_20.1).trans rfl
theorem dX9_top_22 : decode cX9_top 22 = .ok (.idiv, 1) := op_108 nb_dX9_top_20.2.1
theorem dX9_top_23 : decode cX9_top 23 = .ok (.iload_n 2, 1) := op_28 nb_dX9_top_20.2.2.1
set_option maxRecDepth 100000 in
theorem dX9_top_24 : decode cX9_top 24 = .ok (.bipush 10, 2) := (op_16 nb_dX9_top_20.2.2.2.1).trans rfl
theorem dX9_top_26 : decode cX9_top 26 = .ok (.irem, 1) := op_112 nb_dX9_top_20.2.2.2.2.1
set_option maxRecDepth 100000 in
theorem dX9_top_27 : decode cX9_top 27 = .ok (.invokevirtual 298, 3) := (op_182 nb_dX9_top_20.2.2.2.2.2.1).trans rfl
set_option maxRecDepth 100000 in
theorem dX9_top_30 : decode cX9_top 30 = .ok (.goto 4, 3) := (op_167 nb_dX9_top_20.2.2.2.2.2.2.1).trans rfl
theorem dX9_top_33 : decode cX9_top 33 = .ok (.iconst (-1), 1) := op_2 nb_dX9_top_20.2.2.2.2.2.2.2.1
theorem dX9_top_34 : decode cX9_top 34 = .ok (.ireturn, 1) := op_172 nb_dX9_top_20.2.2.2.2.2.2.2.2.1
def fX9_top (N : Nat) (x1 : Int32) (x2 : Int32) (v_rowsOf : Int32) (v_columnsOf : Int32) (v_textMany : Int32) (v_base : Int32) (v_at : Int32) (v_ends : Int32) (v_fault : Int32) (v_opened : Int32) (v_bentMany : Int32) (v_bentWrong : Int32) (v_moreWorn : Int32) (v_planned : Int32) (v_allWrong : Int32) (v_allWorn : Int32) (v_z : Int32) (v_limit : List Int32) (v_shapeRows : List Int32) (v_shapeColumns : List Int32) (v_row : List Int32) (v_column : List Int32) (v_below : List Int32) (v_face : List Int32) (v_worn : List Int32) (v_lastBend : List Int32) (v_tape : List Int32) (v_text : List Int32) (v_names : List Int32) (v_bends : List Int32) (v_high : List Int32) (v_to : List Int32) (v_pileSize : List Int32) (v_planLine : List Int32) (v_planWay : List Int32) : Option (Int32 × Int32 × Int32 × Int32 × Int32 × Int32 × Int32 × Int32 × Int32 × Int32 × Int32 × Int32 × List Int32 × List Int32 × List Int32 × List Int32 × List Int32 × List Int32 × List Int32 × List Int32 × List Int32 × List Int32 × List Int32 × List Int32 × List Int32) :=
    mm_bd25 (fX9_isBehind N x1 v_rowsOf v_columnsOf v_textMany v_base v_at v_ends v_fault v_opened v_bentMany v_bentWrong v_moreWorn v_planned v_allWrong v_allWorn v_z v_limit v_shapeRows v_shapeColumns v_row v_column v_below v_face v_worn v_lastBend v_tape v_text v_names v_bends v_high v_to v_pileSize v_planLine v_planWay) (fun (r_1 : Bool) (w_2 : Int32) (w_3 : Int32) (w_4 : Int32) (w_5 : Int32) (w_6 : Int32) (w_7 : Int32) (w_8 : Int32) (w_9 : Int32) (w_10 : Int32) (w_11 : Int32) (w_12 : Int32) (w_13 : List Int32) (w_14 : List Int32) (w_15 : List Int32) (w_16 : List Int32) (w_17 : List Int32) (w_18 : List Int32) (w_19 : List Int32) (w_20 : List Int32) (w_21 : List Int32) (w_22 : List Int32) (w_23 : List Int32) (w_24 : List Int32) (w_25 : List Int32) =>
    if r_1 = false then
    (some ((-1 : Int32), w_2, w_3, w_4, w_5, w_6, w_7, w_8, w_9, w_10, w_11, w_12, w_13, w_14, w_15, w_16, w_17, w_18, w_19, w_20, w_21, w_22, w_23, w_24, w_25))
    else (mm_bd1 (fX9_isPile N (1 : Int32) x2 w_13 w_14) (fun (r_28 : Bool) =>
    if r_28 = false then
    (some ((-1 : Int32), w_2, w_3, w_4, w_5, w_6, w_7, w_8, w_9, w_10, w_11, w_12, w_13, w_14, w_15, w_16, w_17, w_18, w_19, w_20, w_21, w_22, w_23, w_24, w_25))
    else (mm_ck (mm_nz (10 : Int32)) (mm_ck (mm_nz (10 : Int32)) (mm_bd1 (fX9_topOf N (1 : Int32) (x2 / (10 : Int32)) (mm_rem x2 (10 : Int32)) v_rowsOf v_columnsOf w_15 w_16 w_17) (fun (r_33 : Int32) =>
    some (r_33, w_2, w_3, w_4, w_5, w_6, w_7, w_8, w_9, w_10, w_11, w_12, w_13, w_14, w_15, w_16, w_17, w_18, w_19, w_20, w_21, w_22, w_23, w_24, w_25))))))))

set_option maxHeartbeats 4000000 in
set_option maxRecDepth 100000 in
theorem ctX9_top {l : Launch} {D : va_G} {cI cL cS cH : ClassId} {a : Nat → Nat} {x1 : Int32} {x2 : Int32} {v_keptMany : Int32} {v_done : Int32} {v_rowsOf : Int32} {v_columnsOf : Int32} {v_folded : Int32} {v_wronged : Int32} {v_tapeMany : Int32} {v_textMany : Int32} {v_base : Int32} {v_at : Int32} {v_ends : Int32} {v_fault : Int32} {v_opened : Int32} {v_bentMany : Int32} {v_bentWrong : Int32} {v_moreWorn : Int32} {v_planned : Int32} {v_allWrong : Int32} {v_allWorn : Int32} {v_z : Int32} {v_wishedField : Int32} {v_isFound : Bool} {v_bestWrong : Int32} {v_bestWorn : Int32} {v_bestMany : Int32} {v_soughtBy : Int32} {v_sought : Int32} {v_soughtAt : Int32} {v_foundMany : Int32} {v_foundOrder : Int32} {v_isKept : Bool} {v_imageRows : Int32} {v_imageColumns : Int32} {v_imageFolded : Int32} {v_imageWronged : Int32} {v_bodies : Int32} {v_ran : Int32} {v_ownKind : Int32} {v_ownNumber : Int32} {v_limit : List Int32} {v_changeWas : List Int32} {v_changeIs : List Int32} {v_shapeRows : List Int32} {v_shapeColumns : List Int32} {v_row : List Int32} {v_column : List Int32} {v_below : List Int32} {v_face : List Int32} {v_worn : List Int32} {v_lastBend : List Int32} {v_tape : List Int32} {v_text : List Int32} {v_names : List Int32} {v_bends : List Int32} {v_high : List Int32} {v_to : List Int32} {v_pileSize : List Int32} {v_planLine : List Int32} {v_planWay : List Int32} {v_way1 : List Int32} {v_bestWay : List Int32} {v_order1 : List Int32} {v_placeIn : List Int32} {v_bodyKind : List Int32} {v_trace : List Int32} {v_shelf : List Int32} {v_many : List Int32} {v_items : List Int64} {v_carried : List Int64} {r : Int32} {w_base : Int32} {w_at : Int32} {w_ends : Int32} {w_fault : Int32} {w_opened : Int32} {w_bentMany : Int32} {w_bentWrong : Int32} {w_moreWorn : Int32} {w_allWrong : Int32} {w_allWorn : Int32} {w_z : Int32} {w_shapeRows : List Int32} {w_shapeColumns : List Int32} {w_row : List Int32} {w_column : List Int32} {w_below : List Int32} {w_face : List Int32} {w_worn : List Int32} {w_lastBend : List Int32} {w_names : List Int32} {w_bends : List Int32} {w_high : List Int32} {w_to : List Int32} {w_pileSize : List Int32} {N d : Nat} (hd : 62 ≤ d) (hf : fX9_top N x1 x2 v_rowsOf v_columnsOf v_textMany v_base v_at v_ends v_fault v_opened v_bentMany v_bentWrong v_moreWorn v_planned v_allWrong v_allWorn v_z v_limit v_shapeRows v_shapeColumns v_row v_column v_below v_face v_worn v_lastBend v_tape v_text v_names v_bends v_high v_to v_pileSize v_planLine v_planWay = some (r, w_base, w_at, w_ends, w_fault, w_opened, w_bentMany, w_bentWrong, w_moreWorn, w_allWrong, w_allWorn, w_z, w_shapeRows, w_shapeColumns, w_row, w_column, w_below, w_face, w_worn, w_lastBend, w_names, w_bends, w_high, w_to, w_pileSize)) : mm_Ct l yX9_top cX9_top 3 (some .int) d D (mm_T cI cL cS cH) [.ref (a 0), .int x1, .int x2] (wd_X9 cI cL cS cH a v_keptMany v_done v_rowsOf v_columnsOf v_folded v_wronged v_tapeMany v_textMany v_base v_at v_ends v_fault v_opened v_bentMany v_bentWrong v_moreWorn v_planned v_allWrong v_allWorn v_z v_wishedField v_isFound v_bestWrong v_bestWorn v_bestMany v_soughtBy v_sought v_soughtAt v_foundMany v_foundOrder v_isKept v_imageRows v_imageColumns v_imageFolded v_imageWronged v_bodies v_ran v_ownKind v_ownNumber v_limit v_changeWas v_changeIs v_shapeRows v_shapeColumns v_row v_column v_below v_face v_worn v_lastBend v_tape v_text v_names v_bends v_high v_to v_pileSize v_planLine v_planWay v_way1 v_bestWay v_order1 v_placeIn v_bodyKind v_trace v_shelf v_many v_items v_carried) (wd_X9 cI cL cS cH a v_keptMany v_done v_rowsOf v_columnsOf v_folded v_wronged v_tapeMany v_textMany w_base w_at w_ends w_fault w_opened w_bentMany w_bentWrong w_moreWorn v_planned w_allWrong w_allWorn w_z v_wishedField v_isFound v_bestWrong v_bestWorn v_bestMany v_soughtBy v_sought v_soughtAt v_foundMany v_foundOrder v_isKept v_imageRows v_imageColumns v_imageFolded v_imageWronged v_bodies v_ran v_ownKind v_ownNumber v_limit v_changeWas v_changeIs w_shapeRows w_shapeColumns w_row w_column w_below w_face w_worn w_lastBend v_tape v_text w_names w_bends w_high w_to w_pileSize v_planLine v_planWay v_way1 v_bestWay v_order1 v_placeIn v_bodyKind v_trace v_shelf v_many v_items v_carried) (some (.int r)) := by
  refine mm_of (by decide) (Nat.le_of_ble_eq_true rfl) ?_
  intro p e s m args below meth c A H locs ls C0 hP hD hA hS hl
  have C0 : mm_Cx p s m args meth c RX9 cX9_top 3 (some .int) D (mm_T cI cL cS cH) A := C0
  obtain ⟨hx, hb, hml, hown, hts, hr, hlocks, hK, hSt⟩ := id C0
  have hl : lv_has ls 3 [(0, .ref (a 0)), (1, .int x1), (2, .int x2)] := hl
  unfold fX9_top at hf
  refine lv_aload_n hx hb dX9_top_0 rfl (lv_at hl 0 rfl) ?_
  refine lv_iload_n hx hb dX9_top_1 rfl (lv_at hl 1 rfl) ?_
  refine mm_ct25 hf (fun r_1 w_2 w_3 w_4 w_5 w_6 w_7 w_8 w_9 w_10 w_11 w_12 w_13 w_14 w_15 w_16 w_17 w_18 w_19 w_20 w_21 w_22 w_23 w_24 w_25 hc_26 hf => ?_)
  refine mm_callVF (q0 := 0) (ci := 9) (rest := []) C0 lk_X9_295 (ctX9_isBehind (a := a) (d := d - 1) (by omega) hc_26) (by omega) rfl hl.1 rfl (mm_cat rfl) dX9_top_2 hP hD hA hS rfl rfl (fun H locs hP hD hS => ?_)
  refine W.eq (g2 := F0 m 5 ls [.int (mm_b r_1)]) rfl ?_
  refine lv_if_eq (tgt := 33) hx hb dX9_top_5 (by decide) (fun c_27 => ?_) (fun c_27 => ?_)
  · have hf := mm_ip hf (mm_b0 c_27)
    refine lv_iconst (v := -1) hx hb dX9_top_33 (by decide) ?_
    apply mm_sub25 hf
    exact mm_iret C0 hP hD hS dX9_top_34
  · have hf := mm_in hf (mm_b1 c_27)
    refine lv_aload_n hx hb dX9_top_8 rfl (lv_at hl 0 rfl) ?_
    refine lv_iconst (v := 1) hx hb dX9_top_9 (by decide) ?_
    refine lv_iload_n hx hb dX9_top_10 rfl (lv_at hl 2 rfl) ?_
    obtain ⟨r_28, hc_29, hf⟩ := mm_bd1s hf
    refine mm_callVF (q0 := 0) (ci := 9) (rest := []) C0 lk_X9_258 (ctX9_isPile (a := a) (d := d - 1) (by omega) hc_29) (by omega) rfl hl.1 rfl (mm_cat rfl) dX9_top_11 hP hD hA hS rfl rfl (fun H locs hP hD hS => ?_)
    refine W.eq (g2 := F0 m 14 ls [.int (mm_b r_28)]) rfl ?_
    refine lv_if_eq (tgt := 33) hx hb dX9_top_14 (by decide) (fun c_30 => ?_) (fun c_30 => ?_)
    · have hf := mm_ip hf (mm_b0 c_30)
      refine lv_iconst (v := -1) hx hb dX9_top_33 (by decide) ?_
      apply mm_sub25 hf
      exact mm_iret C0 hP hD hS dX9_top_34
    · have hf := mm_in hf (mm_b1 c_30)
      refine lv_aload_n hx hb dX9_top_17 rfl (lv_at hl 0 rfl) ?_
      refine lv_iconst (v := 1) hx hb dX9_top_18 (by decide) ?_
      refine lv_iload_n hx hb dX9_top_19 rfl (lv_at hl 2 rfl) ?_
      refine lv_bipush (v := 10) hx hb dX9_top_20 (by decide) ?_
      obtain ⟨h_31, hf⟩ := mm_cks hf
      refine lv_idiv hx hb dX9_top_22 (mm_nzs h_31) ?_
      refine lv_iload_n hx hb dX9_top_23 rfl (lv_at hl 2 rfl) ?_
      refine lv_bipush (v := 10) hx hb dX9_top_24 (by decide) ?_
      obtain ⟨h_32, hf⟩ := mm_cks hf
      refine lv_irem hx hb dX9_top_26 (mm_nzs h_32) ?_
      obtain ⟨r_33, hc_34, hf⟩ := mm_bd1s hf
      refine mm_callVF (q0 := 0) (ci := 9) (rest := []) C0 lk_X9_298 (ctX9_topOf (a := a) (d := d - 1) (by omega) hc_34) (by omega) rfl hl.1 rfl (mm_cat rfl) dX9_top_27 hP hD hA hS rfl rfl (fun H locs hP hD hS => ?_)
      refine W.eq (g2 := F0 m 30 ls [.int r_33]) rfl ?_
      refine lv_goto (tgt := 34) hx hb dX9_top_30 (by decide) ?_
      apply mm_sub25 hf
      exact mm_iret C0 hP hD hS dX9_top_34

theorem nb_dX9_isOnTop_0 : bls_w cX9_isOnTop [(0, [42]), (1, [27]), (2, [42]), (3, [180, 0, 25]), (6, [16, 32]), (8, [27]), (9, [104]), (10, [28]), (11, [96]), (12, [46]), (13, [42]), (14, [180, 0, 28])] := bls_of (by decide +kernel)
theorem dX9_isOnTop_0 : decode cX9_isOnTop 0 = .ok (.aload_n 0, 1) := op_42 nb_dX9_isOnTop_0.1
theorem dX9_isOnTop_1 : decode cX9_isOnTop 1 = .ok (.iload_n 1, 1) := op_27 nb_dX9_isOnTop_0.2.1
theorem dX9_isOnTop_2 : decode cX9_isOnTop 2 = .ok (.aload_n 0, 1) := op_42 nb_dX9_isOnTop_0.2.2.1
set_option maxRecDepth 100000 in
theorem dX9_isOnTop_3 : decode cX9_isOnTop 3 = .ok (.getfield 25, 3) := (op_180 nb_dX9_isOnTop_0.2.2.2.1).trans rfl
set_option maxRecDepth 100000 in
theorem dX9_isOnTop_6 : decode cX9_isOnTop 6 = .ok (.bipush 32, 2) := (op_16 nb_dX9_isOnTop_0.2.2.2.2.1).trans rfl
theorem dX9_isOnTop_8 : decode cX9_isOnTop 8 = .ok (.iload_n 1, 1) := op_27 nb_dX9_isOnTop_0.2.2.2.2.2.1
theorem dX9_isOnTop_9 : decode cX9_isOnTop 9 = .ok (.imul, 1) := op_104 nb_dX9_isOnTop_0.2.2.2.2.2.2.1
theorem dX9_isOnTop_10 : decode cX9_isOnTop 10 = .ok (.iload_n 2, 1) := op_28 nb_dX9_isOnTop_0.2.2.2.2.2.2.2.1
theorem dX9_isOnTop_11 : decode cX9_isOnTop 11 = .ok (.iadd, 1) := op_96 nb_dX9_isOnTop_0.2.2.2.2.2.2.2.2.1
theorem dX9_isOnTop_12 : decode cX9_isOnTop 12 = .ok (.iaload, 1) := op_46 nb_dX9_isOnTop_0.2.2.2.2.2.2.2.2.2.1
theorem dX9_isOnTop_13 : decode cX9_isOnTop 13 = .ok (.aload_n 0, 1) := op_42 nb_dX9_isOnTop_0.2.2.2.2.2.2.2.2.2.2.1
set_option maxRecDepth 100000 in
theorem dX9_isOnTop_14 : decode cX9_isOnTop 14 = .ok (.getfield 28, 3) := (op_180 nb_dX9_isOnTop_0.2.2.2.2.2.2.2.2.2.2.2.1).trans rfl
theorem nb_dX9_isOnTop_17 : bls_w cX9_isOnTop [(17, [16, 32]), (19, [27]), (20, [104]), (21, [28]), (22, [96]), (23, [46]), (24, [182, 1, 42]), (27, [28]), (28, [160, 0, 7]), (31, [4]), (32, [167, 0, 4]), (35, [3])] := bls_of (by decide +kernel)
set_option maxRecDepth 100000 in
theorem dX9_isOnTop_17 : decode cX9_isOnTop 17 = .ok (.bipush 32, 2) := (op_16 nb_dX9_isOnTop_17.1).trans rfl
theorem dX9_isOnTop_19 : decode cX9_isOnTop 19 = .ok (.iload_n 1, 1) := op_27 nb_dX9_isOnTop_17.2.1
theorem dX9_isOnTop_20 : decode cX9_isOnTop 20 = .ok (.imul, 1) := op_104 nb_dX9_isOnTop_17.2.2.1
theorem dX9_isOnTop_21 : decode cX9_isOnTop 21 = .ok (.iload_n 2, 1) := op_28 nb_dX9_isOnTop_17.2.2.2.1
theorem dX9_isOnTop_22 : decode cX9_isOnTop 22 = .ok (.iadd, 1) := op_96 nb_dX9_isOnTop_17.2.2.2.2.1
theorem dX9_isOnTop_23 : decode cX9_isOnTop 23 = .ok (.iaload, 1) := op_46 nb_dX9_isOnTop_17.2.2.2.2.2.1
set_option maxRecDepth 100000 in
theorem dX9_isOnTop_24 : decode cX9_isOnTop 24 = .ok (.invokevirtual 298, 3) := (op_182 nb_dX9_isOnTop_17.2.2.2.2.2.2.1).trans rfl
theorem dX9_isOnTop_27 : decode cX9_isOnTop 27 = .ok (.iload_n 2, 1) := op_28 nb_dX9_isOnTop_17.2.2.2.2.2.2.2.1
set_option maxRecDepth 100000 in
theorem dX9_isOnTop_28 : decode cX9_isOnTop 28 = .ok (.if_icmp .ne 7, 3) := (op_160 nb_dX9_isOnTop_17.2.2.2.2.2.2.2.2.1).trans rfl
theorem dX9_isOnTop_31 : decode cX9_isOnTop 31 = .ok (.iconst 1, 1) := op_4 nb_dX9_isOnTop_17.2.2.2.2.2.2.2.2.2.1
set_option maxRecDepth 100000 in
theorem dX9_isOnTop_32 : decode cX9_isOnTop 32 = .ok (.goto 4, 3) := (op_167 nb_dX9_isOnTop_17.2.2.2.2.2.2.2.2.2.2.1).trans rfl
theorem dX9_isOnTop_35 : decode cX9_isOnTop 35 = .ok (.iconst 0, 1) := op_3 nb_dX9_isOnTop_17.2.2.2.2.2.2.2.2.2.2.2.1
theorem nb_dX9_isOnTop_36 : bls_w cX9_isOnTop [(36, [172])] := bls_of (by decide +kernel)
theorem dX9_isOnTop_36 : decode cX9_isOnTop 36 = .ok (.ireturn, 1) := op_172 nb_dX9_isOnTop_36.1
def fX9_isOnTop (N : Nat) (x1 : Int32) (x2 : Int32) (v_rowsOf : Int32) (v_columnsOf : Int32) (v_row : List Int32) (v_column : List Int32) (v_below : List Int32) : Option (Bool) :=
    mm_ck (mm_inb (((32 : Int32) * x1) + x2) v_row.length) (mm_ck (mm_inb (((32 : Int32) * x1) + x2) v_column.length) (mm_bd1 (fX9_topOf N x1 (mm_ig v_row (((32 : Int32) * x1) + x2)) (mm_ig v_column (((32 : Int32) * x1) + x2)) v_rowsOf v_columnsOf v_row v_column v_below) (fun (r_3 : Int32) =>
    if r_3 = x2 then
    (some (true))
    else (some (false)))))

set_option maxHeartbeats 4000000 in
set_option maxRecDepth 100000 in
theorem ctX9_isOnTop {l : Launch} {D : va_G} {cI cL cS cH : ClassId} {a : Nat → Nat} {x1 : Int32} {x2 : Int32} {v_keptMany : Int32} {v_done : Int32} {v_rowsOf : Int32} {v_columnsOf : Int32} {v_folded : Int32} {v_wronged : Int32} {v_tapeMany : Int32} {v_textMany : Int32} {v_base : Int32} {v_at : Int32} {v_ends : Int32} {v_fault : Int32} {v_opened : Int32} {v_bentMany : Int32} {v_bentWrong : Int32} {v_moreWorn : Int32} {v_planned : Int32} {v_allWrong : Int32} {v_allWorn : Int32} {v_z : Int32} {v_wishedField : Int32} {v_isFound : Bool} {v_bestWrong : Int32} {v_bestWorn : Int32} {v_bestMany : Int32} {v_soughtBy : Int32} {v_sought : Int32} {v_soughtAt : Int32} {v_foundMany : Int32} {v_foundOrder : Int32} {v_isKept : Bool} {v_imageRows : Int32} {v_imageColumns : Int32} {v_imageFolded : Int32} {v_imageWronged : Int32} {v_bodies : Int32} {v_ran : Int32} {v_ownKind : Int32} {v_ownNumber : Int32} {v_limit : List Int32} {v_changeWas : List Int32} {v_changeIs : List Int32} {v_shapeRows : List Int32} {v_shapeColumns : List Int32} {v_row : List Int32} {v_column : List Int32} {v_below : List Int32} {v_face : List Int32} {v_worn : List Int32} {v_lastBend : List Int32} {v_tape : List Int32} {v_text : List Int32} {v_names : List Int32} {v_bends : List Int32} {v_high : List Int32} {v_to : List Int32} {v_pileSize : List Int32} {v_planLine : List Int32} {v_planWay : List Int32} {v_way1 : List Int32} {v_bestWay : List Int32} {v_order1 : List Int32} {v_placeIn : List Int32} {v_bodyKind : List Int32} {v_trace : List Int32} {v_shelf : List Int32} {v_many : List Int32} {v_items : List Int64} {v_carried : List Int64} {r : Bool} {N d : Nat} (hd : 4 ≤ d) (hf : fX9_isOnTop N x1 x2 v_rowsOf v_columnsOf v_row v_column v_below = some r) : mm_Ct l yX9_isOnTop cX9_isOnTop 3 (some .boolean) d D (mm_T cI cL cS cH) [.ref (a 0), .int x1, .int x2] (wd_X9 cI cL cS cH a v_keptMany v_done v_rowsOf v_columnsOf v_folded v_wronged v_tapeMany v_textMany v_base v_at v_ends v_fault v_opened v_bentMany v_bentWrong v_moreWorn v_planned v_allWrong v_allWorn v_z v_wishedField v_isFound v_bestWrong v_bestWorn v_bestMany v_soughtBy v_sought v_soughtAt v_foundMany v_foundOrder v_isKept v_imageRows v_imageColumns v_imageFolded v_imageWronged v_bodies v_ran v_ownKind v_ownNumber v_limit v_changeWas v_changeIs v_shapeRows v_shapeColumns v_row v_column v_below v_face v_worn v_lastBend v_tape v_text v_names v_bends v_high v_to v_pileSize v_planLine v_planWay v_way1 v_bestWay v_order1 v_placeIn v_bodyKind v_trace v_shelf v_many v_items v_carried) (wd_X9 cI cL cS cH a v_keptMany v_done v_rowsOf v_columnsOf v_folded v_wronged v_tapeMany v_textMany v_base v_at v_ends v_fault v_opened v_bentMany v_bentWrong v_moreWorn v_planned v_allWrong v_allWorn v_z v_wishedField v_isFound v_bestWrong v_bestWorn v_bestMany v_soughtBy v_sought v_soughtAt v_foundMany v_foundOrder v_isKept v_imageRows v_imageColumns v_imageFolded v_imageWronged v_bodies v_ran v_ownKind v_ownNumber v_limit v_changeWas v_changeIs v_shapeRows v_shapeColumns v_row v_column v_below v_face v_worn v_lastBend v_tape v_text v_names v_bends v_high v_to v_pileSize v_planLine v_planWay v_way1 v_bestWay v_order1 v_placeIn v_bodyKind v_trace v_shelf v_many v_items v_carried) (some (.int (mm_b r))) := by
  refine mm_of (by decide) (Nat.le_of_ble_eq_true rfl) ?_
  intro p e s m args below meth c A H locs ls C0 hP hD hA hS hl
  have C0 : mm_Cx p s m args meth c RX9 cX9_isOnTop 3 (some .boolean) D (mm_T cI cL cS cH) A := C0
  obtain ⟨hx, hb, hml, hown, hts, hr, hlocks, hK, hSt⟩ := id C0
  have hl : lv_has ls 3 [(0, .ref (a 0)), (1, .int x1), (2, .int x2)] := hl
  unfold fX9_isOnTop at hf
  refine lv_aload_n hx hb dX9_isOnTop_0 rfl (lv_at hl 0 rfl) ?_
  refine lv_iload_n hx hb dX9_isOnTop_1 rfl (lv_at hl 1 rfl) ?_
  refine lv_aload_n hx hb dX9_isOnTop_2 rfl (lv_at hl 0 rfl) ?_
  refine mm_get C0 hP iw_X9 0 rfl rfl 9 (by decide) fl_X9_25 rfl dX9_isOnTop_3 ?_
  refine lv_bipush (v := 32) hx hb dX9_isOnTop_6 (by decide) ?_
  refine lv_iload_n hx hb dX9_isOnTop_8 rfl (lv_at hl 1 rfl) ?_
  refine lv_imul hx hb dX9_isOnTop_9 ?_
  refine lv_iload_n hx hb dX9_isOnTop_10 rfl (lv_at hl 2 rfl) ?_
  refine lv_iadd hx hb dX9_isOnTop_11 ?_
  obtain ⟨h_1, hf⟩ := mm_cks hf
  refine mm_iald C0 hP 6 rfl h_1 dX9_isOnTop_12 ?_
  refine lv_aload_n hx hb dX9_isOnTop_13 rfl (lv_at hl 0 rfl) ?_
  refine mm_get C0 hP iw_X9 0 rfl rfl 10 (by decide) fl_X9_28 rfl dX9_isOnTop_14 ?_
  refine lv_bipush (v := 32) hx hb dX9_isOnTop_17 (by decide) ?_
  refine lv_iload_n hx hb dX9_isOnTop_19 rfl (lv_at hl 1 rfl) ?_
  refine lv_imul hx hb dX9_isOnTop_20 ?_
  refine lv_iload_n hx hb dX9_isOnTop_21 rfl (lv_at hl 2 rfl) ?_
  refine lv_iadd hx hb dX9_isOnTop_22 ?_
  obtain ⟨h_2, hf⟩ := mm_cks hf
  refine mm_iald C0 hP 7 rfl h_2 dX9_isOnTop_23 ?_
  obtain ⟨r_3, hc_4, hf⟩ := mm_bd1s hf
  refine mm_callVF (q0 := 0) (ci := 9) (rest := []) C0 lk_X9_298 (ctX9_topOf (a := a) (d := d - 1) (by omega) hc_4) (by omega) rfl hl.1 rfl (mm_cat rfl) dX9_isOnTop_24 hP hD hA hS rfl rfl (fun H locs hP hD hS => ?_)
  refine W.eq (g2 := F0 m 27 ls [.int r_3]) rfl ?_
  refine lv_iload_n hx hb dX9_isOnTop_27 rfl (lv_at hl 2 rfl) ?_
  refine lv_icmp_ne (tgt := 35) hx hb dX9_isOnTop_28 (by decide) (fun c_5 => ?_) (fun c_5 => ?_)
  · have hf := mm_in hf c_5
    refine lv_iconst (v := 0) hx hb dX9_isOnTop_35 (by decide) ?_
    obtain rfl := mm_inj1 hf
    exact mm_zret (v := false) C0 hP hD hS dX9_isOnTop_36 (by decide)
  · have hf := mm_ip hf c_5
    refine lv_iconst (v := 1) hx hb dX9_isOnTop_31 (by decide) ?_
    refine lv_goto (tgt := 36) hx hb dX9_isOnTop_32 (by decide) ?_
    obtain rfl := mm_inj1 hf
    exact mm_zret (v := true) C0 hP hD hS dX9_isOnTop_36 (by decide)
end
