/-! reference: X9_whereOf, X9_where, X9_isPile, X9_pile, X9_tornNow, X9_led, X9_plan, X9_isShelf -/
theorem dX9_whereOf_0 : decode cX9_whereOf 0 = .ok (.bipush 32, 2) := by decide +kernel
theorem dX9_whereOf_2 : decode cX9_whereOf 2 = .ok (.iload_n 1, 1) := by decide +kernel
theorem dX9_whereOf_3 : decode cX9_whereOf 3 = .ok (.imul, 1) := by decide +kernel
theorem dX9_whereOf_4 : decode cX9_whereOf 4 = .ok (.iload_n 2, 1) := by decide +kernel
theorem dX9_whereOf_5 : decode cX9_whereOf 5 = .ok (.iadd, 1) := by decide +kernel
theorem dX9_whereOf_6 : decode cX9_whereOf 6 = .ok (.istore 4, 2) := by decide +kernel
theorem dX9_whereOf_8 : decode cX9_whereOf 8 = .ok (.iload_n 3, 1) := by decide +kernel
theorem dX9_whereOf_9 : decode cX9_whereOf 9 = .ok (.ifCond .ne 13, 3) := by decide +kernel
theorem dX9_whereOf_12 : decode cX9_whereOf 12 = .ok (.aload_n 0, 1) := by decide +kernel
theorem dX9_whereOf_13 : decode cX9_whereOf 13 = .ok (.getfield 25, 3) := by decide +kernel
theorem dX9_whereOf_16 : decode cX9_whereOf 16 = .ok (.iload 4, 2) := by decide +kernel
theorem dX9_whereOf_18 : decode cX9_whereOf 18 = .ok (.iaload, 1) := by decide +kernel
theorem dX9_whereOf_19 : decode cX9_whereOf 19 = .ok (.goto 40, 3) := by decide +kernel
theorem dX9_whereOf_22 : decode cX9_whereOf 22 = .ok (.iload_n 3, 1) := by decide +kernel
theorem dX9_whereOf_23 : decode cX9_whereOf 23 = .ok (.iconst 1, 1) := by decide +kernel
theorem dX9_whereOf_24 : decode cX9_whereOf 24 = .ok (.if_icmp .ne 13, 3) := by decide +kernel
theorem dX9_whereOf_27 : decode cX9_whereOf 27 = .ok (.aload_n 0, 1) := by decide +kernel
theorem dX9_whereOf_28 : decode cX9_whereOf 28 = .ok (.getfield 28, 3) := by decide +kernel
theorem dX9_whereOf_31 : decode cX9_whereOf 31 = .ok (.iload 4, 2) := by decide +kernel
theorem dX9_whereOf_33 : decode cX9_whereOf 33 = .ok (.iaload, 1) := by decide +kernel
theorem dX9_whereOf_34 : decode cX9_whereOf 34 = .ok (.goto 25, 3) := by decide +kernel
theorem dX9_whereOf_37 : decode cX9_whereOf 37 = .ok (.iload_n 3, 1) := by decide +kernel
theorem dX9_whereOf_38 : decode cX9_whereOf 38 = .ok (.iconst 2, 1) := by decide +kernel
theorem dX9_whereOf_39 : decode cX9_whereOf 39 = .ok (.if_icmp .ne 13, 3) := by decide +kernel
theorem dX9_whereOf_42 : decode cX9_whereOf 42 = .ok (.aload_n 0, 1) := by decide +kernel
theorem dX9_whereOf_43 : decode cX9_whereOf 43 = .ok (.getfield 31, 3) := by decide +kernel
theorem dX9_whereOf_46 : decode cX9_whereOf 46 = .ok (.iload 4, 2) := by decide +kernel
theorem dX9_whereOf_48 : decode cX9_whereOf 48 = .ok (.iaload, 1) := by decide +kernel
theorem dX9_whereOf_49 : decode cX9_whereOf 49 = .ok (.goto 10, 3) := by decide +kernel
theorem dX9_whereOf_52 : decode cX9_whereOf 52 = .ok (.aload_n 0, 1) := by decide +kernel
theorem dX9_whereOf_53 : decode cX9_whereOf 53 = .ok (.getfield 34, 3) := by decide +kernel
theorem dX9_whereOf_56 : decode cX9_whereOf 56 = .ok (.iload 4, 2) := by decide +kernel
theorem dX9_whereOf_58 : decode cX9_whereOf 58 = .ok (.iaload, 1) := by decide +kernel
theorem dX9_whereOf_59 : decode cX9_whereOf 59 = .ok (.ireturn, 1) := by decide +kernel
def fX9_whereOf (N : Nat) (x1 : Int32) (x2 : Int32) (x3 : Int32) (v_row : List Int32) (v_column : List Int32) (v_below : List Int32) (v_face : List Int32) : Option (Int32) :=
    mm_nm ((((32 : Int32) * x1) + x2)) (fun (y_1 : Int32) =>
    if x3 = 0 then
    (mm_ck (mm_inb y_1 v_row.length) (some ((mm_ig v_row y_1))))
    else (if x3 = (1 : Int32) then
    (mm_ck (mm_inb y_1 v_column.length) (some ((mm_ig v_column y_1))))
    else (if x3 = (2 : Int32) then
    (mm_ck (mm_inb y_1 v_below.length) (some ((mm_ig v_below y_1))))
    else (mm_ck (mm_inb y_1 v_face.length) (some ((mm_ig v_face y_1)))))))

set_option maxHeartbeats 4000000 in
set_option maxRecDepth 100000 in
theorem ctX9_whereOf {l : Launch} {D : va_G} {cI cL cS cH : ClassId} {a : Nat → Nat} {x1 : Int32} {x2 : Int32} {x3 : Int32} {v_keptMany : Int32} {v_done : Int32} {v_rowsOf : Int32} {v_columnsOf : Int32} {v_folded : Int32} {v_wronged : Int32} {v_tapeMany : Int32} {v_textMany : Int32} {v_base : Int32} {v_at : Int32} {v_ends : Int32} {v_fault : Int32} {v_opened : Int32} {v_bentMany : Int32} {v_bentWrong : Int32} {v_moreWorn : Int32} {v_planned : Int32} {v_allWrong : Int32} {v_allWorn : Int32} {v_z : Int32} {v_wishedField : Int32} {v_isFound : Bool} {v_bestWrong : Int32} {v_bestWorn : Int32} {v_bestMany : Int32} {v_soughtBy : Int32} {v_sought : Int32} {v_soughtAt : Int32} {v_foundMany : Int32} {v_foundOrder : Int32} {v_isKept : Bool} {v_imageRows : Int32} {v_imageColumns : Int32} {v_imageFolded : Int32} {v_imageWronged : Int32} {v_bodies : Int32} {v_ran : Int32} {v_ownKind : Int32} {v_ownNumber : Int32} {v_limit : List Int32} {v_changeWas : List Int32} {v_changeIs : List Int32} {v_shapeRows : List Int32} {v_shapeColumns : List Int32} {v_row : List Int32} {v_column : List Int32} {v_below : List Int32} {v_face : List Int32} {v_worn : List Int32} {v_lastBend : List Int32} {v_tape : List Int32} {v_text : List Int32} {v_names : List Int32} {v_bends : List Int32} {v_high : List Int32} {v_to : List Int32} {v_pileSize : List Int32} {v_planLine : List Int32} {v_planWay : List Int32} {v_way1 : List Int32} {v_bestWay : List Int32} {v_order1 : List Int32} {v_placeIn : List Int32} {v_bodyKind : List Int32} {v_trace : List Int32} {v_shelf : List Int32} {v_many : List Int32} {v_items : List Int64} {v_carried : List Int64} {r : Int32} {N d : Nat} (hd : 1 ≤ d) (hf : fX9_whereOf N x1 x2 x3 v_row v_column v_below v_face = some r) : mm_Ct l yX9_whereOf cX9_whereOf 5 (some .int) d D (mm_T cI cL cS cH) [.ref (a 0), .int x1, .int x2, .int x3] (wd_X9 cI cL cS cH a v_keptMany v_done v_rowsOf v_columnsOf v_folded v_wronged v_tapeMany v_textMany v_base v_at v_ends v_fault v_opened v_bentMany v_bentWrong v_moreWorn v_planned v_allWrong v_allWorn v_z v_wishedField v_isFound v_bestWrong v_bestWorn v_bestMany v_soughtBy v_sought v_soughtAt v_foundMany v_foundOrder v_isKept v_imageRows v_imageColumns v_imageFolded v_imageWronged v_bodies v_ran v_ownKind v_ownNumber v_limit v_changeWas v_changeIs v_shapeRows v_shapeColumns v_row v_column v_below v_face v_worn v_lastBend v_tape v_text v_names v_bends v_high v_to v_pileSize v_planLine v_planWay v_way1 v_bestWay v_order1 v_placeIn v_bodyKind v_trace v_shelf v_many v_items v_carried) (wd_X9 cI cL cS cH a v_keptMany v_done v_rowsOf v_columnsOf v_folded v_wronged v_tapeMany v_textMany v_base v_at v_ends v_fault v_opened v_bentMany v_bentWrong v_moreWorn v_planned v_allWrong v_allWorn v_z v_wishedField v_isFound v_bestWrong v_bestWorn v_bestMany v_soughtBy v_sought v_soughtAt v_foundMany v_foundOrder v_isKept v_imageRows v_imageColumns v_imageFolded v_imageWronged v_bodies v_ran v_ownKind v_ownNumber v_limit v_changeWas v_changeIs v_shapeRows v_shapeColumns v_row v_column v_below v_face v_worn v_lastBend v_tape v_text v_names v_bends v_high v_to v_pileSize v_planLine v_planWay v_way1 v_bestWay v_order1 v_placeIn v_bodyKind v_trace v_shelf v_many v_items v_carried) (some (.int r)) := by
  refine mm_of (by decide) (Nat.le_of_ble_eq_true rfl) ?_
  intro p e s m args below meth c A H locs ls C0 hP hD hA hS hl
  have C0 : mm_Cx p s m args meth c RX9 cX9_whereOf 5 (some .int) D (mm_T cI cL cS cH) A := C0
  obtain ⟨hx, hb, hml, hown, hts, hr, hlocks, hK, hSt⟩ := id C0
  have hl : lv_has ls 5 [(0, .ref (a 0)), (1, .int x1), (2, .int x2), (3, .int x3)] := hl
  unfold fX9_whereOf at hf
  refine lv_bipush (v := 32) hx hb dX9_whereOf_0 (by decide) ?_
  refine lv_iload_n hx hb dX9_whereOf_2 rfl (lv_at hl 1 rfl) ?_
  refine lv_imul hx hb dX9_whereOf_3 ?_
  refine lv_iload_n hx hb dX9_whereOf_4 rfl (lv_at hl 2 rfl) ?_
  refine lv_iadd hx hb dX9_whereOf_5 ?_
  refine lv_topi (fun y_1 ey_1 => ?_)
  have hf := mm_nms hf ey_1
  refine lv_istore (lv' := [(4, .int y_1), (0, .ref (a 0)), (1, .int x1), (2, .int x2), (3, .int x3)]) hx hb dX9_whereOf_6 hl (by decide) rfl (fun ls hl => ?_)
  refine lv_iload_n hx hb dX9_whereOf_8 rfl (lv_at hl 4 rfl) ?_
  refine lv_if_ne (tgt := 22) hx hb dX9_whereOf_9 (by decide) (fun c_2 => ?_) (fun c_2 => ?_)
  · have hf := mm_in hf c_2
    refine lv_iload_n hx hb dX9_whereOf_22 rfl (lv_at hl 4 rfl) ?_
    refine lv_iconst (v := 1) hx hb dX9_whereOf_23 (by decide) ?_
    refine lv_icmp_ne (tgt := 37) hx hb dX9_whereOf_24 (by decide) (fun c_3 => ?_) (fun c_3 => ?_)
    · have hf := mm_in hf c_3
      refine lv_iload_n hx hb dX9_whereOf_37 rfl (lv_at hl 4 rfl) ?_
      refine lv_iconst (v := 2) hx hb dX9_whereOf_38 (by decide) ?_
      refine lv_icmp_ne (tgt := 52) hx hb dX9_whereOf_39 (by decide) (fun c_4 => ?_) (fun c_4 => ?_)
      · have hf := mm_in hf c_4
        refine lv_aload_n hx hb dX9_whereOf_52 rfl (lv_at hl 1 rfl) ?_
        refine mm_get C0 hP iw_X9 0 rfl rfl 12 (by decide) fl_X9_34 rfl dX9_whereOf_53 ?_
        refine lv_iload hx hb dX9_whereOf_56 (lv_at hl 0 rfl) ?_
        obtain ⟨h_5, hf⟩ := mm_cks hf
        refine mm_iald C0 hP 9 rfl h_5 dX9_whereOf_58 ?_
        obtain rfl := mm_inj1 hf
        exact mm_iret C0 hP hD hS dX9_whereOf_59
      · have hf := mm_ip hf c_4
        refine lv_aload_n hx hb dX9_whereOf_42 rfl (lv_at hl 1 rfl) ?_
        refine mm_get C0 hP iw_X9 0 rfl rfl 11 (by decide) fl_X9_31 rfl dX9_whereOf_43 ?_
        refine lv_iload hx hb dX9_whereOf_46 (lv_at hl 0 rfl) ?_
        obtain ⟨h_6, hf⟩ := mm_cks hf
        refine mm_iald C0 hP 8 rfl h_6 dX9_whereOf_48 ?_
        refine lv_goto (tgt := 59) hx hb dX9_whereOf_49 (by decide) ?_
        obtain rfl := mm_inj1 hf
        exact mm_iret C0 hP hD hS dX9_whereOf_59
    · have hf := mm_ip hf c_3
      refine lv_aload_n hx hb dX9_whereOf_27 rfl (lv_at hl 1 rfl) ?_
      refine mm_get C0 hP iw_X9 0 rfl rfl 10 (by decide) fl_X9_28 rfl dX9_whereOf_28 ?_
      refine lv_iload hx hb dX9_whereOf_31 (lv_at hl 0 rfl) ?_
      obtain ⟨h_7, hf⟩ := mm_cks hf
      refine mm_iald C0 hP 7 rfl h_7 dX9_whereOf_33 ?_
      refine lv_goto (tgt := 59) hx hb dX9_whereOf_34 (by decide) ?_
      obtain rfl := mm_inj1 hf
      exact mm_iret C0 hP hD hS dX9_whereOf_59
  · have hf := mm_ip hf c_2
    refine lv_aload_n hx hb dX9_whereOf_12 rfl (lv_at hl 1 rfl) ?_
    refine mm_get C0 hP iw_X9 0 rfl rfl 9 (by decide) fl_X9_25 rfl dX9_whereOf_13 ?_
    refine lv_iload hx hb dX9_whereOf_16 (lv_at hl 0 rfl) ?_
    obtain ⟨h_8, hf⟩ := mm_cks hf
    refine mm_iald C0 hP 6 rfl h_8 dX9_whereOf_18 ?_
    refine lv_goto (tgt := 59) hx hb dX9_whereOf_19 (by decide) ?_
    obtain rfl := mm_inj1 hf
    exact mm_iret C0 hP hD hS dX9_whereOf_59

theorem dX9_where_0 : decode cX9_where 0 = .ok (.aload_n 0, 1) := by decide +kernel
theorem dX9_where_1 : decode cX9_where 1 = .ok (.iload_n 1, 1) := by decide +kernel
theorem dX9_where_2 : decode cX9_where 2 = .ok (.invokevirtual 249, 3) := by decide +kernel
theorem dX9_where_5 : decode cX9_where 5 = .ok (.ifCond .eq 25, 3) := by decide +kernel
theorem dX9_where_8 : decode cX9_where 8 = .ok (.iload_n 2, 1) := by decide +kernel
theorem dX9_where_9 : decode cX9_where 9 = .ok (.i2l, 1) := by decide +kernel
theorem dX9_where_10 : decode cX9_where 10 = .ok (.lconst 0, 1) := by decide +kernel
theorem dX9_where_11 : decode cX9_where 11 = .ok (.ldc2_w 252, 3) := by decide +kernel
theorem dX9_where_14 : decode cX9_where 14 = .ok (.invokestatic 111, 3) := by decide +kernel
theorem dX9_where_17 : decode cX9_where 17 = .ok (.ifCond .eq 13, 3) := by decide +kernel
theorem dX9_where_20 : decode cX9_where 20 = .ok (.aload_n 0, 1) := by decide +kernel
theorem dX9_where_21 : decode cX9_where 21 = .ok (.iconst 0, 1) := by decide +kernel
theorem dX9_where_22 : decode cX9_where 22 = .ok (.iload_n 1, 1) := by decide +kernel
theorem dX9_where_23 : decode cX9_where 23 = .ok (.iload_n 2, 1) := by decide +kernel
theorem dX9_where_24 : decode cX9_where 24 = .ok (.invokevirtual 254, 3) := by decide +kernel
theorem dX9_where_27 : decode cX9_where 27 = .ok (.goto 4, 3) := by decide +kernel
theorem dX9_where_30 : decode cX9_where 30 = .ok (.iconst (-1), 1) := by decide +kernel
theorem dX9_where_31 : decode cX9_where 31 = .ok (.ireturn, 1) := by decide +kernel
def fX9_where (N : Nat) (x1 : Int32) (x2 : Int32) (v_rowsOf : Int32) (v_columnsOf : Int32) (v_row : List Int32) (v_column : List Int32) (v_below : List Int32) (v_face : List Int32) : Option (Int32) :=
    mm_bd1 (fX9_isField N x1 v_rowsOf v_columnsOf) (fun (r_1 : Bool) =>
    if r_1 = false then
    (some ((-1 : Int32)))
    else (mm_bd1 (fX9_within N ((x2).toInt64) (0 : Int64) (3 : Int64)) (fun (r_4 : Bool) =>
    if r_4 = false then
    (some ((-1 : Int32)))
    else (mm_bd1 (fX9_whereOf N (0 : Int32) x1 x2 v_row v_column v_below v_face) (fun (r_7 : Int32) =>
    some (r_7))))))

set_option maxHeartbeats 4000000 in
set_option maxRecDepth 100000 in
theorem ctX9_where {l : Launch} {D : va_G} {cI cL cS cH : ClassId} {a : Nat → Nat} {x1 : Int32} {x2 : Int32} {v_keptMany : Int32} {v_done : Int32} {v_rowsOf : Int32} {v_columnsOf : Int32} {v_folded : Int32} {v_wronged : Int32} {v_tapeMany : Int32} {v_textMany : Int32} {v_base : Int32} {v_at : Int32} {v_ends : Int32} {v_fault : Int32} {v_opened : Int32} {v_bentMany : Int32} {v_bentWrong : Int32} {v_moreWorn : Int32} {v_planned : Int32} {v_allWrong : Int32} {v_allWorn : Int32} {v_z : Int32} {v_wishedField : Int32} {v_isFound : Bool} {v_bestWrong : Int32} {v_bestWorn : Int32} {v_bestMany : Int32} {v_soughtBy : Int32} {v_sought : Int32} {v_soughtAt : Int32} {v_foundMany : Int32} {v_foundOrder : Int32} {v_isKept : Bool} {v_imageRows : Int32} {v_imageColumns : Int32} {v_imageFolded : Int32} {v_imageWronged : Int32} {v_bodies : Int32} {v_ran : Int32} {v_ownKind : Int32} {v_ownNumber : Int32} {v_limit : List Int32} {v_changeWas : List Int32} {v_changeIs : List Int32} {v_shapeRows : List Int32} {v_shapeColumns : List Int32} {v_row : List Int32} {v_column : List Int32} {v_below : List Int32} {v_face : List Int32} {v_worn : List Int32} {v_lastBend : List Int32} {v_tape : List Int32} {v_text : List Int32} {v_names : List Int32} {v_bends : List Int32} {v_high : List Int32} {v_to : List Int32} {v_pileSize : List Int32} {v_planLine : List Int32} {v_planWay : List Int32} {v_way1 : List Int32} {v_bestWay : List Int32} {v_order1 : List Int32} {v_placeIn : List Int32} {v_bodyKind : List Int32} {v_trace : List Int32} {v_shelf : List Int32} {v_many : List Int32} {v_items : List Int64} {v_carried : List Int64} {r : Int32} {N d : Nat} (hd : 3 ≤ d) (hf : fX9_where N x1 x2 v_rowsOf v_columnsOf v_row v_column v_below v_face = some r) : mm_Ct l yX9_where cX9_where 3 (some .int) d D (mm_T cI cL cS cH) [.ref (a 0), .int x1, .int x2] (wd_X9 cI cL cS cH a v_keptMany v_done v_rowsOf v_columnsOf v_folded v_wronged v_tapeMany v_textMany v_base v_at v_ends v_fault v_opened v_bentMany v_bentWrong v_moreWorn v_planned v_allWrong v_allWorn v_z v_wishedField v_isFound v_bestWrong v_bestWorn v_bestMany v_soughtBy v_sought v_soughtAt v_foundMany v_foundOrder v_isKept v_imageRows v_imageColumns v_imageFolded v_imageWronged v_bodies v_ran v_ownKind v_ownNumber v_limit v_changeWas v_changeIs v_shapeRows v_shapeColumns v_row v_column v_below v_face v_worn v_lastBend v_tape v_text v_names v_bends v_high v_to v_pileSize v_planLine v_planWay v_way1 v_bestWay v_order1 v_placeIn v_bodyKind v_trace v_shelf v_many v_items v_carried) (wd_X9 cI cL cS cH a v_keptMany v_done v_rowsOf v_columnsOf v_folded v_wronged v_tapeMany v_textMany v_base v_at v_ends v_fault v_opened v_bentMany v_bentWrong v_moreWorn v_planned v_allWrong v_allWorn v_z v_wishedField v_isFound v_bestWrong v_bestWorn v_bestMany v_soughtBy v_sought v_soughtAt v_foundMany v_foundOrder v_isKept v_imageRows v_imageColumns v_imageFolded v_imageWronged v_bodies v_ran v_ownKind v_ownNumber v_limit v_changeWas v_changeIs v_shapeRows v_shapeColumns v_row v_column v_below v_face v_worn v_lastBend v_tape v_text v_names v_bends v_high v_to v_pileSize v_planLine v_planWay v_way1 v_bestWay v_order1 v_placeIn v_bodyKind v_trace v_shelf v_many v_items v_carried) (some (.int r)) := by
  refine mm_of (by decide) (Nat.le_of_ble_eq_true rfl) ?_
  intro p e s m args below meth c A H locs ls C0 hP hD hA hS hl
  have C0 : mm_Cx p s m args meth c RX9 cX9_where 3 (some .int) D (mm_T cI cL cS cH) A := C0
  obtain ⟨hx, hb, hml, hown, hts, hr, hlocks, hK, hSt⟩ := id C0
  have hl : lv_has ls 3 [(0, .ref (a 0)), (1, .int x1), (2, .int x2)] := hl
  unfold fX9_where at hf
  refine lv_aload_n hx hb dX9_where_0 rfl (lv_at hl 0 rfl) ?_
  refine lv_iload_n hx hb dX9_where_1 rfl (lv_at hl 1 rfl) ?_
  obtain ⟨r_1, hc_2, hf⟩ := mm_bd1s hf
  refine mm_callVF (q0 := 0) (ci := 9) (rest := []) C0 lk_X9_249 (ctX9_isField (a := a) (d := d - 1) (by omega) hc_2) (by omega) rfl hl.1 rfl (mm_cat rfl) dX9_where_2 hP hD hA hS rfl rfl (fun H locs hP hD hS => ?_)
  refine W.eq (g2 := F0 m 5 ls [.int (mm_b r_1)]) rfl ?_
  refine lv_if_eq (tgt := 30) hx hb dX9_where_5 (by decide) (fun c_3 => ?_) (fun c_3 => ?_)
  · have hf := mm_ip hf (mm_b0 c_3)
    refine lv_iconst (v := -1) hx hb dX9_where_30 (by decide) ?_
    obtain rfl := mm_inj1 hf
    exact mm_iret C0 hP hD hS dX9_where_31
  · have hf := mm_in hf (mm_b1 c_3)
    refine lv_iload_n hx hb dX9_where_8 rfl (lv_at hl 2 rfl) ?_
    refine lv_i2l hx hb dX9_where_9 rfl ?_
    refine lv_lconst (v := 0) hx hb dX9_where_10 (by decide) ?_
    refine lv_ldc2 hx hb hown (hts _ kc_X9_252) dX9_where_11 ?_
    obtain ⟨r_4, hc_5, hf⟩ := mm_bd1s hf
    refine mm_callS0 (rest := []) C0 lk_X9_111 (ctX9_within (d := d - 1) (by omega) hc_5) (by omega) rfl hl.1 rfl (mm_cat rfl) dX9_where_14 hP hD hA hS (fun H locs hP hS => ?_)
    refine W.eq (g2 := F0 m 17 ls [.int (mm_b r_4)]) rfl ?_
    refine lv_if_eq (tgt := 30) hx hb dX9_where_17 (by decide) (fun c_6 => ?_) (fun c_6 => ?_)
    · have hf := mm_ip hf (mm_b0 c_6)
      refine lv_iconst (v := -1) hx hb dX9_where_30 (by decide) ?_
      obtain rfl := mm_inj1 hf
      exact mm_iret C0 hP hD hS dX9_where_31
    · have hf := mm_in hf (mm_b1 c_6)
      refine lv_aload_n hx hb dX9_where_20 rfl (lv_at hl 0 rfl) ?_
      refine lv_iconst (v := 0) hx hb dX9_where_21 (by decide) ?_
      refine lv_iload_n hx hb dX9_where_22 rfl (lv_at hl 1 rfl) ?_
      refine lv_iload_n hx hb dX9_where_23 rfl (lv_at hl 2 rfl) ?_
      obtain ⟨r_7, hc_8, hf⟩ := mm_bd1s hf
      refine mm_callVF (q0 := 0) (ci := 9) (rest := []) C0 lk_X9_254 (ctX9_whereOf (a := a) (d := d - 1) (by omega) hc_8) (by omega) rfl hl.1 rfl (mm_cat rfl) dX9_where_24 hP hD hA hS rfl rfl (fun H locs hP hD hS => ?_)
      refine W.eq (g2 := F0 m 27 ls [.int r_7]) rfl ?_
      refine lv_goto (tgt := 31) hx hb dX9_where_27 (by decide) ?_
      obtain rfl := mm_inj1 hf
      exact mm_iret C0 hP hD hS dX9_where_31

theorem dX9_isPile_0 : decode cX9_isPile 0 = .ok (.iload_n 2, 1) := by decide +kernel
theorem dX9_isPile_1 : decode cX9_isPile 1 = .ok (.ifCond .lt 33, 3) := by decide +kernel
theorem dX9_isPile_4 : decode cX9_isPile 4 = .ok (.iload_n 2, 1) := by decide +kernel
theorem dX9_isPile_5 : decode cX9_isPile 5 = .ok (.bipush 10, 2) := by decide +kernel
theorem dX9_isPile_7 : decode cX9_isPile 7 = .ok (.idiv, 1) := by decide +kernel
theorem dX9_isPile_8 : decode cX9_isPile 8 = .ok (.aload_n 0, 1) := by decide +kernel
theorem dX9_isPile_9 : decode cX9_isPile 9 = .ok (.getfield 19, 3) := by decide +kernel
theorem dX9_isPile_12 : decode cX9_isPile 12 = .ok (.iload_n 1, 1) := by decide +kernel
theorem dX9_isPile_13 : decode cX9_isPile 13 = .ok (.iaload, 1) := by decide +kernel
theorem dX9_isPile_14 : decode cX9_isPile 14 = .ok (.if_icmp .ge 20, 3) := by decide +kernel
theorem dX9_isPile_17 : decode cX9_isPile 17 = .ok (.iload_n 2, 1) := by decide +kernel
theorem dX9_isPile_18 : decode cX9_isPile 18 = .ok (.bipush 10, 2) := by decide +kernel
theorem dX9_isPile_20 : decode cX9_isPile 20 = .ok (.irem, 1) := by decide +kernel
theorem dX9_isPile_21 : decode cX9_isPile 21 = .ok (.aload_n 0, 1) := by decide +kernel
theorem dX9_isPile_22 : decode cX9_isPile 22 = .ok (.getfield 22, 3) := by decide +kernel
theorem dX9_isPile_25 : decode cX9_isPile 25 = .ok (.iload_n 1, 1) := by decide +kernel
theorem dX9_isPile_26 : decode cX9_isPile 26 = .ok (.iaload, 1) := by decide +kernel
theorem dX9_isPile_27 : decode cX9_isPile 27 = .ok (.if_icmp .ge 7, 3) := by decide +kernel
theorem dX9_isPile_30 : decode cX9_isPile 30 = .ok (.iconst 1, 1) := by decide +kernel
theorem dX9_isPile_31 : decode cX9_isPile 31 = .ok (.goto 4, 3) := by decide +kernel
theorem dX9_isPile_34 : decode cX9_isPile 34 = .ok (.iconst 0, 1) := by decide +kernel
theorem dX9_isPile_35 : decode cX9_isPile 35 = .ok (.ireturn, 1) := by decide +kernel
def fX9_isPile (N : Nat) (x1 : Int32) (x2 : Int32) (v_shapeRows : List Int32) (v_shapeColumns : List Int32) : Option (Bool) :=
    if x2 < 0 then
    (some (false))
    else (mm_ck (mm_nz (10 : Int32)) (mm_ck (mm_inb x1 v_shapeRows.length) (if (mm_ig v_shapeRows x1) ≤ (x2 / (10 : Int32)) then
    (some (false))
    else (mm_ck (mm_nz (10 : Int32)) (mm_ck (mm_inb x1 v_shapeColumns.length) (if (mm_ig v_shapeColumns x1) ≤ (mm_rem x2 (10 : Int32)) then
    (some (false))
    else (some (true))))))))

set_option maxHeartbeats 4000000 in
set_option maxRecDepth 100000 in
theorem ctX9_isPile {l : Launch} {D : va_G} {cI cL cS cH : ClassId} {a : Nat → Nat} {x1 : Int32} {x2 : Int32} {v_keptMany : Int32} {v_done : Int32} {v_rowsOf : Int32} {v_columnsOf : Int32} {v_folded : Int32} {v_wronged : Int32} {v_tapeMany : Int32} {v_textMany : Int32} {v_base : Int32} {v_at : Int32} {v_ends : Int32} {v_fault : Int32} {v_opened : Int32} {v_bentMany : Int32} {v_bentWrong : Int32} {v_moreWorn : Int32} {v_planned : Int32} {v_allWrong : Int32} {v_allWorn : Int32} {v_z : Int32} {v_wishedField : Int32} {v_isFound : Bool} {v_bestWrong : Int32} {v_bestWorn : Int32} {v_bestMany : Int32} {v_soughtBy : Int32} {v_sought : Int32} {v_soughtAt : Int32} {v_foundMany : Int32} {v_foundOrder : Int32} {v_isKept : Bool} {v_imageRows : Int32} {v_imageColumns : Int32} {v_imageFolded : Int32} {v_imageWronged : Int32} {v_bodies : Int32} {v_ran : Int32} {v_ownKind : Int32} {v_ownNumber : Int32} {v_limit : List Int32} {v_changeWas : List Int32} {v_changeIs : List Int32} {v_shapeRows : List Int32} {v_shapeColumns : List Int32} {v_row : List Int32} {v_column : List Int32} {v_below : List Int32} {v_face : List Int32} {v_worn : List Int32} {v_lastBend : List Int32} {v_tape : List Int32} {v_text : List Int32} {v_names : List Int32} {v_bends : List Int32} {v_high : List Int32} {v_to : List Int32} {v_pileSize : List Int32} {v_planLine : List Int32} {v_planWay : List Int32} {v_way1 : List Int32} {v_bestWay : List Int32} {v_order1 : List Int32} {v_placeIn : List Int32} {v_bodyKind : List Int32} {v_trace : List Int32} {v_shelf : List Int32} {v_many : List Int32} {v_items : List Int64} {v_carried : List Int64} {r : Bool} {N d : Nat} (hd : 1 ≤ d) (hf : fX9_isPile N x1 x2 v_shapeRows v_shapeColumns = some r) : mm_Ct l yX9_isPile cX9_isPile 3 (some .boolean) d D (mm_T cI cL cS cH) [.ref (a 0), .int x1, .int x2] (wd_X9 cI cL cS cH a v_keptMany v_done v_rowsOf v_columnsOf v_folded v_wronged v_tapeMany v_textMany v_base v_at v_ends v_fault v_opened v_bentMany v_bentWrong v_moreWorn v_planned v_allWrong v_allWorn v_z v_wishedField v_isFound v_bestWrong v_bestWorn v_bestMany v_soughtBy v_sought v_soughtAt v_foundMany v_foundOrder v_isKept v_imageRows v_imageColumns v_imageFolded v_imageWronged v_bodies v_ran v_ownKind v_ownNumber v_limit v_changeWas v_changeIs v_shapeRows v_shapeColumns v_row v_column v_below v_face v_worn v_lastBend v_tape v_text v_names v_bends v_high v_to v_pileSize v_planLine v_planWay v_way1 v_bestWay v_order1 v_placeIn v_bodyKind v_trace v_shelf v_many v_items v_carried) (wd_X9 cI cL cS cH a v_keptMany v_done v_rowsOf v_columnsOf v_folded v_wronged v_tapeMany v_textMany v_base v_at v_ends v_fault v_opened v_bentMany v_bentWrong v_moreWorn v_planned v_allWrong v_allWorn v_z v_wishedField v_isFound v_bestWrong v_bestWorn v_bestMany v_soughtBy v_sought v_soughtAt v_foundMany v_foundOrder v_isKept v_imageRows v_imageColumns v_imageFolded v_imageWronged v_bodies v_ran v_ownKind v_ownNumber v_limit v_changeWas v_changeIs v_shapeRows v_shapeColumns v_row v_column v_below v_face v_worn v_lastBend v_tape v_text v_names v_bends v_high v_to v_pileSize v_planLine v_planWay v_way1 v_bestWay v_order1 v_placeIn v_bodyKind v_trace v_shelf v_many v_items v_carried) (some (.int (mm_b r))) := by
  refine mm_of (by decide) (Nat.le_of_ble_eq_true rfl) ?_
  intro p e s m args below meth c A H locs ls C0 hP hD hA hS hl
  have C0 : mm_Cx p s m args meth c RX9 cX9_isPile 3 (some .boolean) D (mm_T cI cL cS cH) A := C0
  obtain ⟨hx, hb, hml, hown, hts, hr, hlocks, hK, hSt⟩ := id C0
  have hl : lv_has ls 3 [(0, .ref (a 0)), (1, .int x1), (2, .int x2)] := hl
  unfold fX9_isPile at hf
  refine lv_iload_n hx hb dX9_isPile_0 rfl (lv_at hl 2 rfl) ?_
  refine lv_if_lt (tgt := 34) hx hb dX9_isPile_1 (by decide) (fun c_1 => ?_) (fun c_1 => ?_)
  · have hf := mm_ip hf c_1
    refine lv_iconst (v := 0) hx hb dX9_isPile_34 (by decide) ?_
    obtain rfl := mm_inj1 hf
    exact mm_zret (v := false) C0 hP hD hS dX9_isPile_35 (by decide)
  · have hf := mm_in hf c_1
    refine lv_iload_n hx hb dX9_isPile_4 rfl (lv_at hl 2 rfl) ?_
    refine lv_bipush (v := 10) hx hb dX9_isPile_5 (by decide) ?_
    obtain ⟨h_2, hf⟩ := mm_cks hf
    refine lv_idiv hx hb dX9_isPile_7 (mm_nzs h_2) ?_
    refine lv_aload_n hx hb dX9_isPile_8 rfl (lv_at hl 0 rfl) ?_
    refine mm_get C0 hP iw_X9 0 rfl rfl 7 (by decide) fl_X9_19 rfl dX9_isPile_9 ?_
    refine lv_iload_n hx hb dX9_isPile_12 rfl (lv_at hl 1 rfl) ?_
    obtain ⟨h_3, hf⟩ := mm_cks hf
    refine mm_iald C0 hP 4 rfl h_3 dX9_isPile_13 ?_
    refine lv_icmp_ge (tgt := 34) hx hb dX9_isPile_14 (by decide) (fun c_4 => ?_) (fun c_4 => ?_)
    · have hf := mm_ip hf c_4
      refine lv_iconst (v := 0) hx hb dX9_isPile_34 (by decide) ?_
      obtain rfl := mm_inj1 hf
      exact mm_zret (v := false) C0 hP hD hS dX9_isPile_35 (by decide)
    · have hf := mm_in hf c_4
      refine lv_iload_n hx hb dX9_isPile_17 rfl (lv_at hl 2 rfl) ?_
      refine lv_bipush (v := 10) hx hb dX9_isPile_18 (by decide) ?_
      obtain ⟨h_5, hf⟩ := mm_cks hf
      refine lv_irem hx hb dX9_isPile_20 (mm_nzs h_5) ?_
      refine lv_aload_n hx hb dX9_isPile_21 rfl (lv_at hl 0 rfl) ?_
      refine mm_get C0 hP iw_X9 0 rfl rfl 8 (by decide) fl_X9_22 rfl dX9_isPile_22 ?_
      refine lv_iload_n hx hb dX9_isPile_25 rfl (lv_at hl 1 rfl) ?_
      obtain ⟨h_6, hf⟩ := mm_cks hf
      refine mm_iald C0 hP 5 rfl h_6 dX9_isPile_26 ?_
      refine lv_icmp_ge (tgt := 34) hx hb dX9_isPile_27 (by decide) (fun c_7 => ?_) (fun c_7 => ?_)
      · have hf := mm_ip hf c_7
        refine lv_iconst (v := 0) hx hb dX9_isPile_34 (by decide) ?_
        obtain rfl := mm_inj1 hf
        exact mm_zret (v := false) C0 hP hD hS dX9_isPile_35 (by decide)
      · have hf := mm_in hf c_7
        refine lv_iconst (v := 1) hx hb dX9_isPile_30 (by decide) ?_
        refine lv_goto (tgt := 35) hx hb dX9_isPile_31 (by decide) ?_
        obtain rfl := mm_inj1 hf
        exact mm_zret (v := true) C0 hP hD hS dX9_isPile_35 (by decide)

theorem dX9_pile_0 : decode cX9_pile 0 = .ok (.aload_n 0, 1) := by decide +kernel
theorem dX9_pile_1 : decode cX9_pile 1 = .ok (.iconst 0, 1) := by decide +kernel
theorem dX9_pile_2 : decode cX9_pile 2 = .ok (.iload_n 1, 1) := by decide +kernel
theorem dX9_pile_3 : decode cX9_pile 3 = .ok (.invokevirtual 258, 3) := by decide +kernel
theorem dX9_pile_6 : decode cX9_pile 6 = .ok (.ifCond .ne 5, 3) := by decide +kernel
theorem dX9_pile_9 : decode cX9_pile 9 = .ok (.iconst (-1), 1) := by decide +kernel
theorem dX9_pile_10 : decode cX9_pile 10 = .ok (.ireturn, 1) := by decide +kernel
theorem dX9_pile_11 : decode cX9_pile 11 = .ok (.aload_n 0, 1) := by decide +kernel
theorem dX9_pile_12 : decode cX9_pile 12 = .ok (.iconst 0, 1) := by decide +kernel
theorem dX9_pile_13 : decode cX9_pile 13 = .ok (.iload_n 1, 1) := by decide +kernel
theorem dX9_pile_14 : decode cX9_pile 14 = .ok (.bipush 10, 2) := by decide +kernel
theorem dX9_pile_16 : decode cX9_pile 16 = .ok (.idiv, 1) := by decide +kernel
theorem dX9_pile_17 : decode cX9_pile 17 = .ok (.iload_n 1, 1) := by decide +kernel
theorem dX9_pile_18 : decode cX9_pile 18 = .ok (.bipush 10, 2) := by decide +kernel
theorem dX9_pile_20 : decode cX9_pile 20 = .ok (.irem, 1) := by decide +kernel
theorem dX9_pile_21 : decode cX9_pile 21 = .ok (.invokevirtual 262, 3) := by decide +kernel
theorem dX9_pile_24 : decode cX9_pile 24 = .ok (.istore_n 3, 1) := by decide +kernel
theorem dX9_pile_25 : decode cX9_pile 25 = .ok (.iload_n 2, 1) := by decide +kernel
theorem dX9_pile_26 : decode cX9_pile 26 = .ok (.bipush (-2), 2) := by decide +kernel
theorem dX9_pile_28 : decode cX9_pile 28 = .ok (.if_icmp .ne 5, 3) := by decide +kernel
theorem dX9_pile_31 : decode cX9_pile 31 = .ok (.iload_n 3, 1) := by decide +kernel
theorem dX9_pile_32 : decode cX9_pile 32 = .ok (.ireturn, 1) := by decide +kernel
theorem dX9_pile_33 : decode cX9_pile 33 = .ok (.iload_n 2, 1) := by decide +kernel
theorem dX9_pile_34 : decode cX9_pile 34 = .ok (.iconst (-1), 1) := by decide +kernel
theorem dX9_pile_35 : decode cX9_pile 35 = .ok (.if_icmp .ne 9, 3) := by decide +kernel
theorem dX9_pile_38 : decode cX9_pile 38 = .ok (.iload_n 3, 1) := by decide +kernel
theorem dX9_pile_39 : decode cX9_pile 39 = .ok (.iconst 1, 1) := by decide +kernel
theorem dX9_pile_40 : decode cX9_pile 40 = .ok (.isub, 1) := by decide +kernel
theorem dX9_pile_41 : decode cX9_pile 41 = .ok (.goto 4, 3) := by decide +kernel
theorem dX9_pile_44 : decode cX9_pile 44 = .ok (.iload_n 2, 1) := by decide +kernel
theorem dX9_pile_45 : decode cX9_pile 45 = .ok (.istore 4, 2) := by decide +kernel
theorem dX9_pile_47 : decode cX9_pile 47 = .ok (.iload 4, 2) := by decide +kernel
theorem dX9_pile_49 : decode cX9_pile 49 = .ok (.i2l, 1) := by decide +kernel
theorem dX9_pile_50 : decode cX9_pile 50 = .ok (.lconst 0, 1) := by decide +kernel
theorem dX9_pile_51 : decode cX9_pile 51 = .ok (.iload_n 3, 1) := by decide +kernel
theorem dX9_pile_52 : decode cX9_pile 52 = .ok (.iconst 1, 1) := by decide +kernel
theorem dX9_pile_53 : decode cX9_pile 53 = .ok (.isub, 1) := by decide +kernel
theorem dX9_pile_54 : decode cX9_pile 54 = .ok (.i2l, 1) := by decide +kernel
theorem dX9_pile_55 : decode cX9_pile 55 = .ok (.invokestatic 111, 3) := by decide +kernel
theorem dX9_pile_58 : decode cX9_pile 58 = .ok (.ifCond .eq 21, 3) := by decide +kernel
theorem dX9_pile_61 : decode cX9_pile 61 = .ok (.aload_n 0, 1) := by decide +kernel
theorem dX9_pile_62 : decode cX9_pile 62 = .ok (.iconst 0, 1) := by decide +kernel
theorem dX9_pile_63 : decode cX9_pile 63 = .ok (.iload_n 1, 1) := by decide +kernel
theorem dX9_pile_64 : decode cX9_pile 64 = .ok (.bipush 10, 2) := by decide +kernel
theorem dX9_pile_66 : decode cX9_pile 66 = .ok (.idiv, 1) := by decide +kernel
theorem dX9_pile_67 : decode cX9_pile 67 = .ok (.iload_n 1, 1) := by decide +kernel
theorem dX9_pile_68 : decode cX9_pile 68 = .ok (.bipush 10, 2) := by decide +kernel
theorem dX9_pile_70 : decode cX9_pile 70 = .ok (.irem, 1) := by decide +kernel
theorem dX9_pile_71 : decode cX9_pile 71 = .ok (.iload 4, 2) := by decide +kernel
theorem dX9_pile_73 : decode cX9_pile 73 = .ok (.invokevirtual 265, 3) := by decide +kernel
theorem dX9_pile_76 : decode cX9_pile 76 = .ok (.goto 4, 3) := by decide +kernel
theorem dX9_pile_79 : decode cX9_pile 79 = .ok (.iconst (-1), 1) := by decide +kernel
theorem dX9_pile_80 : decode cX9_pile 80 = .ok (.ireturn, 1) := by decide +kernel
def fX9_pile_45 (N : Nat)  (x1 : Int32) (x3 : Int32) (s0 : Int32) (v_rowsOf : Int32) (v_columnsOf : Int32) (v_shapeRows : List Int32) (v_shapeColumns : List Int32) (v_row : List Int32) (v_column : List Int32) (v_below : List Int32) : Option (Int32) :=
    mm_bd1 (fX9_within N ((s0).toInt64) (0 : Int64) ((x3 - (1 : Int32)).toInt64)) (fun (r_10 : Bool) =>
    if r_10 = false then
    (some ((-1 : Int32)))
    else (mm_ck (mm_nz (10 : Int32)) (mm_ck (mm_nz (10 : Int32)) (mm_bd1 (fX9_fieldAt N (0 : Int32) (x1 / (10 : Int32)) (mm_rem x1 (10 : Int32)) s0 v_rowsOf v_columnsOf v_row v_column v_below) (fun (r_15 : Int32) =>
    some (r_15))))))

set_option maxHeartbeats 4000000 in
set_option maxRecDepth 100000 in
theorem tX9_pile_45 {p : Program} {l : Launch} {e : Env} {s : State} {m : MethodId} {args : Array Value} {below : List Frame} {meth : Method} {c : Code} {D : va_G} {cI cL cS cH : ClassId} {A : Nat → Prop} {d : Nat} {a : Nat → Nat} (hd : 3 ≤ d) (C0 : mm_Cx p s m args meth c RX9 cX9_pile 5 (some .int) D (mm_T cI cL cS cH) A) (hA : ∀ q, s.heap.size ≤ q → A q) {v_keptMany : Int32} {v_done : Int32} {v_folded : Int32} {v_wronged : Int32} {v_tapeMany : Int32} {v_textMany : Int32} {v_base : Int32} {v_at : Int32} {v_ends : Int32} {v_fault : Int32} {v_opened : Int32} {v_bentMany : Int32} {v_bentWrong : Int32} {v_moreWorn : Int32} {v_planned : Int32} {v_allWrong : Int32} {v_allWorn : Int32} {v_z : Int32} {v_wishedField : Int32} {v_isFound : Bool} {v_bestWrong : Int32} {v_bestWorn : Int32} {v_bestMany : Int32} {v_soughtBy : Int32} {v_sought : Int32} {v_soughtAt : Int32} {v_foundMany : Int32} {v_foundOrder : Int32} {v_isKept : Bool} {v_imageRows : Int32} {v_imageColumns : Int32} {v_imageFolded : Int32} {v_imageWronged : Int32} {v_bodies : Int32} {v_ran : Int32} {v_ownKind : Int32} {v_ownNumber : Int32} {v_limit : List Int32} {v_changeWas : List Int32} {v_changeIs : List Int32} {v_face : List Int32} {v_worn : List Int32} {v_lastBend : List Int32} {v_tape : List Int32} {v_text : List Int32} {v_names : List Int32} {v_bends : List Int32} {v_high : List Int32} {v_to : List Int32} {v_pileSize : List Int32} {v_planLine : List Int32} {v_planWay : List Int32} {v_way1 : List Int32} {v_bestWay : List Int32} {v_order1 : List Int32} {v_placeIn : List Int32} {v_bodyKind : List Int32} {v_trace : List Int32} {v_shelf : List Int32} {v_many : List Int32} {v_items : List Int64} {v_carried : List Int64} {r : Int32} (N : Nat)  : ∀ (x1 : Int32) (x3 : Int32) (s0 : Int32) (v_rowsOf : Int32) (v_columnsOf : Int32) (v_shapeRows : List Int32) (v_shapeColumns : List Int32) (v_row : List Int32) (v_column : List Int32) (v_below : List Int32) (H : Heap) (locs : List Loc) (ls : Array Slot), fX9_pile_45 N x1 x3 s0 v_rowsOf v_columnsOf v_shapeRows v_shapeColumns v_row v_column v_below = some r → va_P D mm_cl (wd_X9 cI cL cS cH a v_keptMany v_done v_rowsOf v_columnsOf v_folded v_wronged v_tapeMany v_textMany v_base v_at v_ends v_fault v_opened v_bentMany v_bentWrong v_moreWorn v_planned v_allWrong v_allWorn v_z v_wishedField v_isFound v_bestWrong v_bestWorn v_bestMany v_soughtBy v_sought v_soughtAt v_foundMany v_foundOrder v_isKept v_imageRows v_imageColumns v_imageFolded v_imageWronged v_bodies v_ran v_ownKind v_ownNumber v_limit v_changeWas v_changeIs v_shapeRows v_shapeColumns v_row v_column v_below v_face v_worn v_lastBend v_tape v_text v_names v_bends v_high v_to v_pileSize v_planLine v_planWay v_way1 v_bestWay v_order1 v_placeIn v_bodyKind v_trace v_shelf v_many v_items v_carried) H → va_D A (wd_X9 cI cL cS cH a v_keptMany v_done v_rowsOf v_columnsOf v_folded v_wronged v_tapeMany v_textMany v_base v_at v_ends v_fault v_opened v_bentMany v_bentWrong v_moreWorn v_planned v_allWrong v_allWorn v_z v_wishedField v_isFound v_bestWrong v_bestWorn v_bestMany v_soughtBy v_sought v_soughtAt v_foundMany v_foundOrder v_isKept v_imageRows v_imageColumns v_imageFolded v_imageWronged v_bodies v_ran v_ownKind v_ownNumber v_limit v_changeWas v_changeIs v_shapeRows v_shapeColumns v_row v_column v_below v_face v_worn v_lastBend v_tape v_text v_names v_bends v_high v_to v_pileSize v_planLine v_planWay v_way1 v_bestWay v_order1 v_placeIn v_bodyKind v_trace v_shelf v_many v_items v_carried) → va_S A s.heap H locs → lv_has ls 5 [(0, .ref (a 0)), (1, .int x1), (3, .int x3)] → W p l e (mm_rr d) s m args below meth c H locs 0 0 (mm_Z below D A (wd_X9 cI cL cS cH a v_keptMany v_done v_rowsOf v_columnsOf v_folded v_wronged v_tapeMany v_textMany v_base v_at v_ends v_fault v_opened v_bentMany v_bentWrong v_moreWorn v_planned v_allWrong v_allWorn v_z v_wishedField v_isFound v_bestWrong v_bestWorn v_bestMany v_soughtBy v_sought v_soughtAt v_foundMany v_foundOrder v_isKept v_imageRows v_imageColumns v_imageFolded v_imageWronged v_bodies v_ran v_ownKind v_ownNumber v_limit v_changeWas v_changeIs v_shapeRows v_shapeColumns v_row v_column v_below v_face v_worn v_lastBend v_tape v_text v_names v_bends v_high v_to v_pileSize v_planLine v_planWay v_way1 v_bestWay v_order1 v_placeIn v_bodyKind v_trace v_shelf v_many v_items v_carried) (some (.int r)) args s) (F0 m 45 ls [.int s0]) := by
  obtain ⟨hx, hb, hml, hown, hts, hr, hlocks, hK, hSt⟩ := id C0
  intro x1 x3 s0 v_rowsOf v_columnsOf v_shapeRows v_shapeColumns v_row v_column v_below H locs ls hf hP hD hS hl
  unfold fX9_pile_45 at hf
  refine lv_istore (lv' := [(4, .int s0), (0, .ref (a 0)), (1, .int x1), (3, .int x3)]) hx hb dX9_pile_45 hl (by decide) rfl (fun ls hl => ?_)
  refine lv_iload hx hb dX9_pile_47 (lv_at hl 0 rfl) ?_
  refine lv_i2l hx hb dX9_pile_49 rfl ?_
  refine lv_lconst (v := 0) hx hb dX9_pile_50 (by decide) ?_
  refine lv_iload_n hx hb dX9_pile_51 rfl (lv_at hl 3 rfl) ?_
  refine lv_iconst (v := 1) hx hb dX9_pile_52 (by decide) ?_
  refine lv_isub hx hb dX9_pile_53 ?_
  refine lv_i2l hx hb dX9_pile_54 rfl ?_
  obtain ⟨r_10, hc_11, hf⟩ := mm_bd1s hf
  refine mm_callS0 (rest := []) C0 lk_X9_111 (ctX9_within (d := d - 1) (by omega) hc_11) (by omega) rfl hl.1 rfl (mm_cat rfl) dX9_pile_55 hP hD hA hS (fun H locs hP hS => ?_)
  refine W.eq (g2 := F0 m 58 ls [.int (mm_b r_10)]) rfl ?_
  refine lv_if_eq (tgt := 79) hx hb dX9_pile_58 (by decide) (fun c_12 => ?_) (fun c_12 => ?_)
  · have hf := mm_ip hf (mm_b0 c_12)
    refine lv_iconst (v := -1) hx hb dX9_pile_79 (by decide) ?_
    obtain rfl := mm_inj1 hf
    exact mm_iret C0 hP hD hS dX9_pile_80
  · have hf := mm_in hf (mm_b1 c_12)
    refine lv_aload_n hx hb dX9_pile_61 rfl (lv_at hl 1 rfl) ?_
    refine lv_iconst (v := 0) hx hb dX9_pile_62 (by decide) ?_
    refine lv_iload_n hx hb dX9_pile_63 rfl (lv_at hl 2 rfl) ?_
    refine lv_bipush (v := 10) hx hb dX9_pile_64 (by decide) ?_
    obtain ⟨h_13, hf⟩ := mm_cks hf
    refine lv_idiv hx hb dX9_pile_66 (mm_nzs h_13) ?_
    refine lv_iload_n hx hb dX9_pile_67 rfl (lv_at hl 2 rfl) ?_
    refine lv_bipush (v := 10) hx hb dX9_pile_68 (by decide) ?_
    obtain ⟨h_14, hf⟩ := mm_cks hf
    refine lv_irem hx hb dX9_pile_70 (mm_nzs h_14) ?_
    refine lv_iload hx hb dX9_pile_71 (lv_at hl 0 rfl) ?_
    obtain ⟨r_15, hc_16, hf⟩ := mm_bd1s hf
    refine mm_callVF (q0 := 0) (ci := 9) (rest := []) C0 lk_X9_265 (ctX9_fieldAt (a := a) (d := d - 1) (by omega) hc_16) (by omega) rfl hl.1 rfl (mm_cat rfl) dX9_pile_73 hP hD hA hS rfl rfl (fun H locs hP hD hS => ?_)
    refine W.eq (g2 := F0 m 76 ls [.int r_15]) rfl ?_
    refine lv_goto (tgt := 80) hx hb dX9_pile_76 (by decide) ?_
    obtain rfl := mm_inj1 hf
    exact mm_iret C0 hP hD hS dX9_pile_80

def fX9_pile (N : Nat) (x1 : Int32) (x2 : Int32) (v_rowsOf : Int32) (v_columnsOf : Int32) (v_shapeRows : List Int32) (v_shapeColumns : List Int32) (v_row : List Int32) (v_column : List Int32) (v_below : List Int32) : Option (Int32) :=
    mm_bd1 (fX9_isPile N (0 : Int32) x1 v_shapeRows v_shapeColumns) (fun (r_1 : Bool) =>
    if r_1 = false then
    (some ((-1 : Int32)))
    else (mm_ck (mm_nz (10 : Int32)) (mm_ck (mm_nz (10 : Int32)) (mm_bd1 (fX9_sizeAt N (0 : Int32) (x1 / (10 : Int32)) (mm_rem x1 (10 : Int32)) v_rowsOf v_columnsOf v_row v_column) (fun (r_6 : Int32) =>
    if x2 = (-2 : Int32) then
    (some (r_6))
    else (if x2 = (-1 : Int32) then
    (fX9_pile_45 N x1 r_6 (r_6 - (1 : Int32)) v_rowsOf v_columnsOf v_shapeRows v_shapeColumns v_row v_column v_below)
    else (fX9_pile_45 N x1 r_6 x2 v_rowsOf v_columnsOf v_shapeRows v_shapeColumns v_row v_column v_below)))))))

set_option maxHeartbeats 4000000 in
set_option maxRecDepth 100000 in
theorem ctX9_pile {l : Launch} {D : va_G} {cI cL cS cH : ClassId} {a : Nat → Nat} {x1 : Int32} {x2 : Int32} {v_keptMany : Int32} {v_done : Int32} {v_rowsOf : Int32} {v_columnsOf : Int32} {v_folded : Int32} {v_wronged : Int32} {v_tapeMany : Int32} {v_textMany : Int32} {v_base : Int32} {v_at : Int32} {v_ends : Int32} {v_fault : Int32} {v_opened : Int32} {v_bentMany : Int32} {v_bentWrong : Int32} {v_moreWorn : Int32} {v_planned : Int32} {v_allWrong : Int32} {v_allWorn : Int32} {v_z : Int32} {v_wishedField : Int32} {v_isFound : Bool} {v_bestWrong : Int32} {v_bestWorn : Int32} {v_bestMany : Int32} {v_soughtBy : Int32} {v_sought : Int32} {v_soughtAt : Int32} {v_foundMany : Int32} {v_foundOrder : Int32} {v_isKept : Bool} {v_imageRows : Int32} {v_imageColumns : Int32} {v_imageFolded : Int32} {v_imageWronged : Int32} {v_bodies : Int32} {v_ran : Int32} {v_ownKind : Int32} {v_ownNumber : Int32} {v_limit : List Int32} {v_changeWas : List Int32} {v_changeIs : List Int32} {v_shapeRows : List Int32} {v_shapeColumns : List Int32} {v_row : List Int32} {v_column : List Int32} {v_below : List Int32} {v_face : List Int32} {v_worn : List Int32} {v_lastBend : List Int32} {v_tape : List Int32} {v_text : List Int32} {v_names : List Int32} {v_bends : List Int32} {v_high : List Int32} {v_to : List Int32} {v_pileSize : List Int32} {v_planLine : List Int32} {v_planWay : List Int32} {v_way1 : List Int32} {v_bestWay : List Int32} {v_order1 : List Int32} {v_placeIn : List Int32} {v_bodyKind : List Int32} {v_trace : List Int32} {v_shelf : List Int32} {v_many : List Int32} {v_items : List Int64} {v_carried : List Int64} {r : Int32} {N d : Nat} (hd : 3 ≤ d) (hf : fX9_pile N x1 x2 v_rowsOf v_columnsOf v_shapeRows v_shapeColumns v_row v_column v_below = some r) : mm_Ct l yX9_pile cX9_pile 5 (some .int) d D (mm_T cI cL cS cH) [.ref (a 0), .int x1, .int x2] (wd_X9 cI cL cS cH a v_keptMany v_done v_rowsOf v_columnsOf v_folded v_wronged v_tapeMany v_textMany v_base v_at v_ends v_fault v_opened v_bentMany v_bentWrong v_moreWorn v_planned v_allWrong v_allWorn v_z v_wishedField v_isFound v_bestWrong v_bestWorn v_bestMany v_soughtBy v_sought v_soughtAt v_foundMany v_foundOrder v_isKept v_imageRows v_imageColumns v_imageFolded v_imageWronged v_bodies v_ran v_ownKind v_ownNumber v_limit v_changeWas v_changeIs v_shapeRows v_shapeColumns v_row v_column v_below v_face v_worn v_lastBend v_tape v_text v_names v_bends v_high v_to v_pileSize v_planLine v_planWay v_way1 v_bestWay v_order1 v_placeIn v_bodyKind v_trace v_shelf v_many v_items v_carried) (wd_X9 cI cL cS cH a v_keptMany v_done v_rowsOf v_columnsOf v_folded v_wronged v_tapeMany v_textMany v_base v_at v_ends v_fault v_opened v_bentMany v_bentWrong v_moreWorn v_planned v_allWrong v_allWorn v_z v_wishedField v_isFound v_bestWrong v_bestWorn v_bestMany v_soughtBy v_sought v_soughtAt v_foundMany v_foundOrder v_isKept v_imageRows v_imageColumns v_imageFolded v_imageWronged v_bodies v_ran v_ownKind v_ownNumber v_limit v_changeWas v_changeIs v_shapeRows v_shapeColumns v_row v_column v_below v_face v_worn v_lastBend v_tape v_text v_names v_bends v_high v_to v_pileSize v_planLine v_planWay v_way1 v_bestWay v_order1 v_placeIn v_bodyKind v_trace v_shelf v_many v_items v_carried) (some (.int r)) := by
  refine mm_of (by decide) (Nat.le_of_ble_eq_true rfl) ?_
  intro p e s m args below meth c A H locs ls C0 hP hD hA hS hl
  have C0 : mm_Cx p s m args meth c RX9 cX9_pile 5 (some .int) D (mm_T cI cL cS cH) A := C0
  obtain ⟨hx, hb, hml, hown, hts, hr, hlocks, hK, hSt⟩ := id C0
  have hl : lv_has ls 5 [(0, .ref (a 0)), (1, .int x1), (2, .int x2)] := hl
  unfold fX9_pile at hf
  refine lv_aload_n hx hb dX9_pile_0 rfl (lv_at hl 0 rfl) ?_
  refine lv_iconst (v := 0) hx hb dX9_pile_1 (by decide) ?_
  refine lv_iload_n hx hb dX9_pile_2 rfl (lv_at hl 1 rfl) ?_
  obtain ⟨r_1, hc_2, hf⟩ := mm_bd1s hf
  refine mm_callVF (q0 := 0) (ci := 9) (rest := []) C0 lk_X9_258 (ctX9_isPile (a := a) (d := d - 1) (by omega) hc_2) (by omega) rfl hl.1 rfl (mm_cat rfl) dX9_pile_3 hP hD hA hS rfl rfl (fun H locs hP hD hS => ?_)
  refine W.eq (g2 := F0 m 6 ls [.int (mm_b r_1)]) rfl ?_
  refine lv_if_ne (tgt := 11) hx hb dX9_pile_6 (by decide) (fun c_3 => ?_) (fun c_3 => ?_)
  · have hf := mm_in hf (mm_b1 c_3)
    refine lv_aload_n hx hb dX9_pile_11 rfl (lv_at hl 0 rfl) ?_
    refine lv_iconst (v := 0) hx hb dX9_pile_12 (by decide) ?_
    refine lv_iload_n hx hb dX9_pile_13 rfl (lv_at hl 1 rfl) ?_
    refine lv_bipush (v := 10) hx hb dX9_pile_14 (by decide) ?_
    obtain ⟨h_4, hf⟩ := mm_cks hf
    refine lv_idiv hx hb dX9_pile_16 (mm_nzs h_4) ?_
    refine lv_iload_n hx hb dX9_pile_17 rfl (lv_at hl 1 rfl) ?_
    refine lv_bipush (v := 10) hx hb dX9_pile_18 (by decide) ?_
    obtain ⟨h_5, hf⟩ := mm_cks hf
    refine lv_irem hx hb dX9_pile_20 (mm_nzs h_5) ?_
    obtain ⟨r_6, hc_7, hf⟩ := mm_bd1s hf
    refine mm_callVF (q0 := 0) (ci := 9) (rest := []) C0 lk_X9_262 (ctX9_sizeAt (a := a) (d := d - 1) (by omega) hc_7) (by omega) rfl hl.1 rfl (mm_cat rfl) dX9_pile_21 hP hD hA hS rfl rfl (fun H locs hP hD hS => ?_)
    refine W.eq (g2 := F0 m 24 ls [.int r_6]) rfl ?_
    refine lv_istore_n (lv' := [(3, .int r_6), (0, .ref (a 0)), (1, .int x1), (2, .int x2)]) hx hb dX9_pile_24 rfl hl (by decide) rfl (fun ls hl => ?_)
    refine lv_iload_n hx hb dX9_pile_25 rfl (lv_at hl 3 rfl) ?_
    refine lv_bipush (v := -2) hx hb dX9_pile_26 (by decide) ?_
    refine lv_icmp_ne (tgt := 33) hx hb dX9_pile_28 (by decide) (fun c_8 => ?_) (fun c_8 => ?_)
    · have hf := mm_in hf c_8
      refine lv_iload_n hx hb dX9_pile_33 rfl (lv_at hl 3 rfl) ?_
      refine lv_iconst (v := -1) hx hb dX9_pile_34 (by decide) ?_
      refine lv_icmp_ne (tgt := 44) hx hb dX9_pile_35 (by decide) (fun c_9 => ?_) (fun c_9 => ?_)
      · have hf := mm_in hf c_9
        refine lv_iload_n hx hb dX9_pile_44 rfl (lv_at hl 3 rfl) ?_
        exact tX9_pile_45 hd C0 hA N  _ _ _ _ _ _ _ _ _ _ H locs ls hf hP hD hS (lv_sub hl [1, 2, 0] rfl)
      · have hf := mm_ip hf c_9
        refine lv_iload_n hx hb dX9_pile_38 rfl (lv_at hl 0 rfl) ?_
        refine lv_iconst (v := 1) hx hb dX9_pile_39 (by decide) ?_
        refine lv_isub hx hb dX9_pile_40 ?_
        refine lv_goto (tgt := 45) hx hb dX9_pile_41 (by decide) ?_
        exact tX9_pile_45 hd C0 hA N  _ _ _ _ _ _ _ _ _ _ H locs ls hf hP hD hS (lv_sub hl [1, 2, 0] rfl)
    · have hf := mm_ip hf c_8
      refine lv_iload_n hx hb dX9_pile_31 rfl (lv_at hl 0 rfl) ?_
      obtain rfl := mm_inj1 hf
      exact mm_iret C0 hP hD hS dX9_pile_32
  · have hf := mm_ip hf (mm_b0 c_3)
    refine lv_iconst (v := -1) hx hb dX9_pile_9 (by decide) ?_
    obtain rfl := mm_inj1 hf
    exact mm_iret C0 hP hD hS dX9_pile_10

theorem dX9_tornNow_0 : decode cX9_tornNow 0 = .ok (.iconst 0, 1) := by decide +kernel
theorem dX9_tornNow_1 : decode cX9_tornNow 1 = .ok (.istore_n 2, 1) := by decide +kernel
theorem dX9_tornNow_2 : decode cX9_tornNow 2 = .ok (.iconst 0, 1) := by decide +kernel
theorem dX9_tornNow_3 : decode cX9_tornNow 3 = .ok (.istore_n 3, 1) := by decide +kernel
theorem dX9_tornNow_4 : decode cX9_tornNow 4 = .ok (.iload_n 3, 1) := by decide +kernel
theorem dX9_tornNow_5 : decode cX9_tornNow 5 = .ok (.bipush 64, 2) := by decide +kernel
theorem dX9_tornNow_7 : decode cX9_tornNow 7 = .ok (.if_icmp .ge 45, 3) := by decide +kernel
theorem dX9_tornNow_10 : decode cX9_tornNow 10 = .ok (.iload_n 2, 1) := by decide +kernel
theorem dX9_tornNow_11 : decode cX9_tornNow 11 = .ok (.aload_n 0, 1) := by decide +kernel
theorem dX9_tornNow_12 : decode cX9_tornNow 12 = .ok (.iload_n 3, 1) := by decide +kernel
theorem dX9_tornNow_13 : decode cX9_tornNow 13 = .ok (.invokevirtual 217, 3) := by decide +kernel
theorem dX9_tornNow_16 : decode cX9_tornNow 16 = .ok (.ifCond .eq 27, 3) := by decide +kernel
theorem dX9_tornNow_19 : decode cX9_tornNow 19 = .ok (.aload_n 0, 1) := by decide +kernel
theorem dX9_tornNow_20 : decode cX9_tornNow 20 = .ok (.getfield 37, 3) := by decide +kernel
theorem dX9_tornNow_23 : decode cX9_tornNow 23 = .ok (.bipush 64, 2) := by decide +kernel
theorem dX9_tornNow_25 : decode cX9_tornNow 25 = .ok (.iload_n 1, 1) := by decide +kernel
theorem dX9_tornNow_26 : decode cX9_tornNow 26 = .ok (.imul, 1) := by decide +kernel
theorem dX9_tornNow_27 : decode cX9_tornNow 27 = .ok (.iload_n 3, 1) := by decide +kernel
theorem dX9_tornNow_28 : decode cX9_tornNow 28 = .ok (.iadd, 1) := by decide +kernel
theorem dX9_tornNow_29 : decode cX9_tornNow 29 = .ok (.iaload, 1) := by decide +kernel
theorem dX9_tornNow_30 : decode cX9_tornNow 30 = .ok (.aload_n 0, 1) := by decide +kernel
theorem dX9_tornNow_31 : decode cX9_tornNow 31 = .ok (.getfield 7, 3) := by decide +kernel
theorem dX9_tornNow_34 : decode cX9_tornNow 34 = .ok (.iconst 0, 1) := by decide +kernel
theorem dX9_tornNow_35 : decode cX9_tornNow 35 = .ok (.iaload, 1) := by decide +kernel
theorem dX9_tornNow_36 : decode cX9_tornNow 36 = .ok (.if_icmp .lt 7, 3) := by decide +kernel
theorem dX9_tornNow_39 : decode cX9_tornNow 39 = .ok (.iconst 1, 1) := by decide +kernel
theorem dX9_tornNow_40 : decode cX9_tornNow 40 = .ok (.goto 4, 3) := by decide +kernel
theorem dX9_tornNow_43 : decode cX9_tornNow 43 = .ok (.iconst 0, 1) := by decide +kernel
theorem dX9_tornNow_44 : decode cX9_tornNow 44 = .ok (.iadd, 1) := by decide +kernel
theorem dX9_tornNow_45 : decode cX9_tornNow 45 = .ok (.istore_n 2, 1) := by decide +kernel
theorem dX9_tornNow_46 : decode cX9_tornNow 46 = .ok (.iinc 3 1, 3) := by decide +kernel
theorem dX9_tornNow_49 : decode cX9_tornNow 49 = .ok (.goto (-45), 3) := by decide +kernel
theorem dX9_tornNow_52 : decode cX9_tornNow 52 = .ok (.iload_n 2, 1) := by decide +kernel
theorem dX9_tornNow_53 : decode cX9_tornNow 53 = .ok (.ireturn, 1) := by decide +kernel
def fX9_tornNow_44 (N : Nat) (k_4 : Int32 → Int32 → Int32 → Int32 → Int32 → List Int32 → List Int32 → Option (Int32)) (x1 : Int32) (x3 : Int32) (s0 : Int32) (s1 : Int32) (v_rowsOf : Int32) (v_columnsOf : Int32) (v_limit : List Int32) (v_worn : List Int32) : Option (Int32) :=
    mm_nm ((s1 + s0)) (fun (y_8 : Int32) =>
    mm_nm (x3 + (1 : Int32)) (fun (y_9 : Int32) =>
    k_4 x1 y_8 y_9 v_rowsOf v_columnsOf v_limit v_worn))

set_option maxHeartbeats 4000000 in
set_option maxRecDepth 100000 in
theorem tX9_tornNow_44 {p : Program} {l : Launch} {e : Env} {s : State} {m : MethodId} {args : Array Value} {below : List Frame} {meth : Method} {c : Code} {D : va_G} {cI cL cS cH : ClassId} {A : Nat → Prop} {d : Nat} {a : Nat → Nat} (hd : 3 ≤ d) (C0 : mm_Cx p s m args meth c RX9 cX9_tornNow 4 (some .int) D (mm_T cI cL cS cH) A) (hA : ∀ q, s.heap.size ≤ q → A q) {v_keptMany : Int32} {v_done : Int32} {v_folded : Int32} {v_wronged : Int32} {v_tapeMany : Int32} {v_textMany : Int32} {v_base : Int32} {v_at : Int32} {v_ends : Int32} {v_fault : Int32} {v_opened : Int32} {v_bentMany : Int32} {v_bentWrong : Int32} {v_moreWorn : Int32} {v_planned : Int32} {v_allWrong : Int32} {v_allWorn : Int32} {v_z : Int32} {v_wishedField : Int32} {v_isFound : Bool} {v_bestWrong : Int32} {v_bestWorn : Int32} {v_bestMany : Int32} {v_soughtBy : Int32} {v_sought : Int32} {v_soughtAt : Int32} {v_foundMany : Int32} {v_foundOrder : Int32} {v_isKept : Bool} {v_imageRows : Int32} {v_imageColumns : Int32} {v_imageFolded : Int32} {v_imageWronged : Int32} {v_bodies : Int32} {v_ran : Int32} {v_ownKind : Int32} {v_ownNumber : Int32} {v_changeWas : List Int32} {v_changeIs : List Int32} {v_shapeRows : List Int32} {v_shapeColumns : List Int32} {v_row : List Int32} {v_column : List Int32} {v_below : List Int32} {v_face : List Int32} {v_lastBend : List Int32} {v_tape : List Int32} {v_text : List Int32} {v_names : List Int32} {v_bends : List Int32} {v_high : List Int32} {v_to : List Int32} {v_pileSize : List Int32} {v_planLine : List Int32} {v_planWay : List Int32} {v_way1 : List Int32} {v_bestWay : List Int32} {v_order1 : List Int32} {v_placeIn : List Int32} {v_bodyKind : List Int32} {v_trace : List Int32} {v_shelf : List Int32} {v_many : List Int32} {v_items : List Int64} {v_carried : List Int64} {r : Int32} (N : Nat) {k_4 : Int32 → Int32 → Int32 → Int32 → Int32 → List Int32 → List Int32 → Option (Int32)} (hk_4 : ∀ (x1 : Int32) (x2 : Int32) (x3 : Int32) (v_rowsOf : Int32) (v_columnsOf : Int32) (v_limit : List Int32) (v_worn : List Int32) (H : Heap) (locs : List Loc) (ls : Array Slot), k_4 x1 x2 x3 v_rowsOf v_columnsOf v_limit v_worn = some r → va_P D mm_cl (wd_X9 cI cL cS cH a v_keptMany v_done v_rowsOf v_columnsOf v_folded v_wronged v_tapeMany v_textMany v_base v_at v_ends v_fault v_opened v_bentMany v_bentWrong v_moreWorn v_planned v_allWrong v_allWorn v_z v_wishedField v_isFound v_bestWrong v_bestWorn v_bestMany v_soughtBy v_sought v_soughtAt v_foundMany v_foundOrder v_isKept v_imageRows v_imageColumns v_imageFolded v_imageWronged v_bodies v_ran v_ownKind v_ownNumber v_limit v_changeWas v_changeIs v_shapeRows v_shapeColumns v_row v_column v_below v_face v_worn v_lastBend v_tape v_text v_names v_bends v_high v_to v_pileSize v_planLine v_planWay v_way1 v_bestWay v_order1 v_placeIn v_bodyKind v_trace v_shelf v_many v_items v_carried) H → va_D A (wd_X9 cI cL cS cH a v_keptMany v_done v_rowsOf v_columnsOf v_folded v_wronged v_tapeMany v_textMany v_base v_at v_ends v_fault v_opened v_bentMany v_bentWrong v_moreWorn v_planned v_allWrong v_allWorn v_z v_wishedField v_isFound v_bestWrong v_bestWorn v_bestMany v_soughtBy v_sought v_soughtAt v_foundMany v_foundOrder v_isKept v_imageRows v_imageColumns v_imageFolded v_imageWronged v_bodies v_ran v_ownKind v_ownNumber v_limit v_changeWas v_changeIs v_shapeRows v_shapeColumns v_row v_column v_below v_face v_worn v_lastBend v_tape v_text v_names v_bends v_high v_to v_pileSize v_planLine v_planWay v_way1 v_bestWay v_order1 v_placeIn v_bodyKind v_trace v_shelf v_many v_items v_carried) → va_S A s.heap H locs → lv_has ls 4 [(0, .ref (a 0)), (1, .int x1), (2, .int x2), (3, .int x3)] → W p l e (mm_rr d) s m args below meth c H locs 0 0 (mm_Z below D A (wd_X9 cI cL cS cH a v_keptMany v_done v_rowsOf v_columnsOf v_folded v_wronged v_tapeMany v_textMany v_base v_at v_ends v_fault v_opened v_bentMany v_bentWrong v_moreWorn v_planned v_allWrong v_allWorn v_z v_wishedField v_isFound v_bestWrong v_bestWorn v_bestMany v_soughtBy v_sought v_soughtAt v_foundMany v_foundOrder v_isKept v_imageRows v_imageColumns v_imageFolded v_imageWronged v_bodies v_ran v_ownKind v_ownNumber v_limit v_changeWas v_changeIs v_shapeRows v_shapeColumns v_row v_column v_below v_face v_worn v_lastBend v_tape v_text v_names v_bends v_high v_to v_pileSize v_planLine v_planWay v_way1 v_bestWay v_order1 v_placeIn v_bodyKind v_trace v_shelf v_many v_items v_carried) (some (.int r)) args s) (F0 m 4 ls [])) : ∀ (x1 : Int32) (x3 : Int32) (s0 : Int32) (s1 : Int32) (v_rowsOf : Int32) (v_columnsOf : Int32) (v_limit : List Int32) (v_worn : List Int32) (H : Heap) (locs : List Loc) (ls : Array Slot), fX9_tornNow_44 N k_4 x1 x3 s0 s1 v_rowsOf v_columnsOf v_limit v_worn = some r → va_P D mm_cl (wd_X9 cI cL cS cH a v_keptMany v_done v_rowsOf v_columnsOf v_folded v_wronged v_tapeMany v_textMany v_base v_at v_ends v_fault v_opened v_bentMany v_bentWrong v_moreWorn v_planned v_allWrong v_allWorn v_z v_wishedField v_isFound v_bestWrong v_bestWorn v_bestMany v_soughtBy v_sought v_soughtAt v_foundMany v_foundOrder v_isKept v_imageRows v_imageColumns v_imageFolded v_imageWronged v_bodies v_ran v_ownKind v_ownNumber v_limit v_changeWas v_changeIs v_shapeRows v_shapeColumns v_row v_column v_below v_face v_worn v_lastBend v_tape v_text v_names v_bends v_high v_to v_pileSize v_planLine v_planWay v_way1 v_bestWay v_order1 v_placeIn v_bodyKind v_trace v_shelf v_many v_items v_carried) H → va_D A (wd_X9 cI cL cS cH a v_keptMany v_done v_rowsOf v_columnsOf v_folded v_wronged v_tapeMany v_textMany v_base v_at v_ends v_fault v_opened v_bentMany v_bentWrong v_moreWorn v_planned v_allWrong v_allWorn v_z v_wishedField v_isFound v_bestWrong v_bestWorn v_bestMany v_soughtBy v_sought v_soughtAt v_foundMany v_foundOrder v_isKept v_imageRows v_imageColumns v_imageFolded v_imageWronged v_bodies v_ran v_ownKind v_ownNumber v_limit v_changeWas v_changeIs v_shapeRows v_shapeColumns v_row v_column v_below v_face v_worn v_lastBend v_tape v_text v_names v_bends v_high v_to v_pileSize v_planLine v_planWay v_way1 v_bestWay v_order1 v_placeIn v_bodyKind v_trace v_shelf v_many v_items v_carried) → va_S A s.heap H locs → lv_has ls 4 [(0, .ref (a 0)), (1, .int x1), (3, .int x3)] → W p l e (mm_rr d) s m args below meth c H locs 0 0 (mm_Z below D A (wd_X9 cI cL cS cH a v_keptMany v_done v_rowsOf v_columnsOf v_folded v_wronged v_tapeMany v_textMany v_base v_at v_ends v_fault v_opened v_bentMany v_bentWrong v_moreWorn v_planned v_allWrong v_allWorn v_z v_wishedField v_isFound v_bestWrong v_bestWorn v_bestMany v_soughtBy v_sought v_soughtAt v_foundMany v_foundOrder v_isKept v_imageRows v_imageColumns v_imageFolded v_imageWronged v_bodies v_ran v_ownKind v_ownNumber v_limit v_changeWas v_changeIs v_shapeRows v_shapeColumns v_row v_column v_below v_face v_worn v_lastBend v_tape v_text v_names v_bends v_high v_to v_pileSize v_planLine v_planWay v_way1 v_bestWay v_order1 v_placeIn v_bodyKind v_trace v_shelf v_many v_items v_carried) (some (.int r)) args s) (F0 m 44 ls [.int s0, .int s1]) := by
  obtain ⟨hx, hb, hml, hown, hts, hr, hlocks, hK, hSt⟩ := id C0
  intro x1 x3 s0 s1 v_rowsOf v_columnsOf v_limit v_worn H locs ls hf hP hD hS hl
  unfold fX9_tornNow_44 at hf
  refine lv_iadd hx hb dX9_tornNow_44 ?_
  refine lv_topi (fun y_8 ey_8 => ?_)
  have hf := mm_nms hf ey_8
  refine lv_istore_n (lv' := [(2, .int y_8), (0, .ref (a 0)), (1, .int x1), (3, .int x3)]) hx hb dX9_tornNow_45 rfl hl (by decide) rfl (fun ls hl => ?_)
  obtain ⟨y_9, ey_9⟩ : ∃ z : Int32, z = x3 + (1 : Int32) := ⟨_, rfl⟩
  have hf := mm_nms hf ey_9
  refine lv_iinc (v := y_9) (lv' := [(3, .int y_9), (2, .int y_8), (0, .ref (a 0)), (1, .int x1)]) hx hb dX9_tornNow_46 hl (k := 3) rfl (by rw [ey_9]; rfl) (by decide) rfl (fun ls hl => ?_)
  refine lv_goto (tgt := 4) hx hb dX9_tornNow_49 (by decide) ?_
  exact hk_4 _ _ _ _ _ _ _ H locs ls hf hP hD hS (lv_sub hl [2, 3, 1, 0] rfl)

def fX9_tornNow_43 (N : Nat) (k_4 : Int32 → Int32 → Int32 → Int32 → Int32 → List Int32 → List Int32 → Option (Int32)) (x1 : Int32) (x3 : Int32) (s0 : Int32) (v_rowsOf : Int32) (v_columnsOf : Int32) (v_limit : List Int32) (v_worn : List Int32) : Option (Int32) :=
    fX9_tornNow_44 N k_4 x1 x3 (0 : Int32) s0 v_rowsOf v_columnsOf v_limit v_worn

set_option maxHeartbeats 4000000 in
set_option maxRecDepth 100000 in
theorem tX9_tornNow_43 {p : Program} {l : Launch} {e : Env} {s : State} {m : MethodId} {args : Array Value} {below : List Frame} {meth : Method} {c : Code} {D : va_G} {cI cL cS cH : ClassId} {A : Nat → Prop} {d : Nat} {a : Nat → Nat} (hd : 3 ≤ d) (C0 : mm_Cx p s m args meth c RX9 cX9_tornNow 4 (some .int) D (mm_T cI cL cS cH) A) (hA : ∀ q, s.heap.size ≤ q → A q) {v_keptMany : Int32} {v_done : Int32} {v_folded : Int32} {v_wronged : Int32} {v_tapeMany : Int32} {v_textMany : Int32} {v_base : Int32} {v_at : Int32} {v_ends : Int32} {v_fault : Int32} {v_opened : Int32} {v_bentMany : Int32} {v_bentWrong : Int32} {v_moreWorn : Int32} {v_planned : Int32} {v_allWrong : Int32} {v_allWorn : Int32} {v_z : Int32} {v_wishedField : Int32} {v_isFound : Bool} {v_bestWrong : Int32} {v_bestWorn : Int32} {v_bestMany : Int32} {v_soughtBy : Int32} {v_sought : Int32} {v_soughtAt : Int32} {v_foundMany : Int32} {v_foundOrder : Int32} {v_isKept : Bool} {v_imageRows : Int32} {v_imageColumns : Int32} {v_imageFolded : Int32} {v_imageWronged : Int32} {v_bodies : Int32} {v_ran : Int32} {v_ownKind : Int32} {v_ownNumber : Int32} {v_changeWas : List Int32} {v_changeIs : List Int32} {v_shapeRows : List Int32} {v_shapeColumns : List Int32} {v_row : List Int32} {v_column : List Int32} {v_below : List Int32} {v_face : List Int32} {v_lastBend : List Int32} {v_tape : List Int32} {v_text : List Int32} {v_names : List Int32} {v_bends : List Int32} {v_high : List Int32} {v_to : List Int32} {v_pileSize : List Int32} {v_planLine : List Int32} {v_planWay : List Int32} {v_way1 : List Int32} {v_bestWay : List Int32} {v_order1 : List Int32} {v_placeIn : List Int32} {v_bodyKind : List Int32} {v_trace : List Int32} {v_shelf : List Int32} {v_many : List Int32} {v_items : List Int64} {v_carried : List Int64} {r : Int32} (N : Nat) {k_4 : Int32 → Int32 → Int32 → Int32 → Int32 → List Int32 → List Int32 → Option (Int32)} (hk_4 : ∀ (x1 : Int32) (x2 : Int32) (x3 : Int32) (v_rowsOf : Int32) (v_columnsOf : Int32) (v_limit : List Int32) (v_worn : List Int32) (H : Heap) (locs : List Loc) (ls : Array Slot), k_4 x1 x2 x3 v_rowsOf v_columnsOf v_limit v_worn = some r → va_P D mm_cl (wd_X9 cI cL cS cH a v_keptMany v_done v_rowsOf v_columnsOf v_folded v_wronged v_tapeMany v_textMany v_base v_at v_ends v_fault v_opened v_bentMany v_bentWrong v_moreWorn v_planned v_allWrong v_allWorn v_z v_wishedField v_isFound v_bestWrong v_bestWorn v_bestMany v_soughtBy v_sought v_soughtAt v_foundMany v_foundOrder v_isKept v_imageRows v_imageColumns v_imageFolded v_imageWronged v_bodies v_ran v_ownKind v_ownNumber v_limit v_changeWas v_changeIs v_shapeRows v_shapeColumns v_row v_column v_below v_face v_worn v_lastBend v_tape v_text v_names v_bends v_high v_to v_pileSize v_planLine v_planWay v_way1 v_bestWay v_order1 v_placeIn v_bodyKind v_trace v_shelf v_many v_items v_carried) H → va_D A (wd_X9 cI cL cS cH a v_keptMany v_done v_rowsOf v_columnsOf v_folded v_wronged v_tapeMany v_textMany v_base v_at v_ends v_fault v_opened v_bentMany v_bentWrong v_moreWorn v_planned v_allWrong v_allWorn v_z v_wishedField v_isFound v_bestWrong v_bestWorn v_bestMany v_soughtBy v_sought v_soughtAt v_foundMany v_foundOrder v_isKept v_imageRows v_imageColumns v_imageFolded v_imageWronged v_bodies v_ran v_ownKind v_ownNumber v_limit v_changeWas v_changeIs v_shapeRows v_shapeColumns v_row v_column v_below v_face v_worn v_lastBend v_tape v_text v_names v_bends v_high v_to v_pileSize v_planLine v_planWay v_way1 v_bestWay v_order1 v_placeIn v_bodyKind v_trace v_shelf v_many v_items v_carried) → va_S A s.heap H locs → lv_has ls 4 [(0, .ref (a 0)), (1, .int x1), (2, .int x2), (3, .int x3)] → W p l e (mm_rr d) s m args below meth c H locs 0 0 (mm_Z below D A (wd_X9 cI cL cS cH a v_keptMany v_done v_rowsOf v_columnsOf v_folded v_wronged v_tapeMany v_textMany v_base v_at v_ends v_fault v_opened v_bentMany v_bentWrong v_moreWorn v_planned v_allWrong v_allWorn v_z v_wishedField v_isFound v_bestWrong v_bestWorn v_bestMany v_soughtBy v_sought v_soughtAt v_foundMany v_foundOrder v_isKept v_imageRows v_imageColumns v_imageFolded v_imageWronged v_bodies v_ran v_ownKind v_ownNumber v_limit v_changeWas v_changeIs v_shapeRows v_shapeColumns v_row v_column v_below v_face v_worn v_lastBend v_tape v_text v_names v_bends v_high v_to v_pileSize v_planLine v_planWay v_way1 v_bestWay v_order1 v_placeIn v_bodyKind v_trace v_shelf v_many v_items v_carried) (some (.int r)) args s) (F0 m 4 ls [])) : ∀ (x1 : Int32) (x3 : Int32) (s0 : Int32) (v_rowsOf : Int32) (v_columnsOf : Int32) (v_limit : List Int32) (v_worn : List Int32) (H : Heap) (locs : List Loc) (ls : Array Slot), fX9_tornNow_43 N k_4 x1 x3 s0 v_rowsOf v_columnsOf v_limit v_worn = some r → va_P D mm_cl (wd_X9 cI cL cS cH a v_keptMany v_done v_rowsOf v_columnsOf v_folded v_wronged v_tapeMany v_textMany v_base v_at v_ends v_fault v_opened v_bentMany v_bentWrong v_moreWorn v_planned v_allWrong v_allWorn v_z v_wishedField v_isFound v_bestWrong v_bestWorn v_bestMany v_soughtBy v_sought v_soughtAt v_foundMany v_foundOrder v_isKept v_imageRows v_imageColumns v_imageFolded v_imageWronged v_bodies v_ran v_ownKind v_ownNumber v_limit v_changeWas v_changeIs v_shapeRows v_shapeColumns v_row v_column v_below v_face v_worn v_lastBend v_tape v_text v_names v_bends v_high v_to v_pileSize v_planLine v_planWay v_way1 v_bestWay v_order1 v_placeIn v_bodyKind v_trace v_shelf v_many v_items v_carried) H → va_D A (wd_X9 cI cL cS cH a v_keptMany v_done v_rowsOf v_columnsOf v_folded v_wronged v_tapeMany v_textMany v_base v_at v_ends v_fault v_opened v_bentMany v_bentWrong v_moreWorn v_planned v_allWrong v_allWorn v_z v_wishedField v_isFound v_bestWrong v_bestWorn v_bestMany v_soughtBy v_sought v_soughtAt v_foundMany v_foundOrder v_isKept v_imageRows v_imageColumns v_imageFolded v_imageWronged v_bodies v_ran v_ownKind v_ownNumber v_limit v_changeWas v_changeIs v_shapeRows v_shapeColumns v_row v_column v_below v_face v_worn v_lastBend v_tape v_text v_names v_bends v_high v_to v_pileSize v_planLine v_planWay v_way1 v_bestWay v_order1 v_placeIn v_bodyKind v_trace v_shelf v_many v_items v_carried) → va_S A s.heap H locs → lv_has ls 4 [(0, .ref (a 0)), (1, .int x1), (3, .int x3)] → W p l e (mm_rr d) s m args below meth c H locs 0 0 (mm_Z below D A (wd_X9 cI cL cS cH a v_keptMany v_done v_rowsOf v_columnsOf v_folded v_wronged v_tapeMany v_textMany v_base v_at v_ends v_fault v_opened v_bentMany v_bentWrong v_moreWorn v_planned v_allWrong v_allWorn v_z v_wishedField v_isFound v_bestWrong v_bestWorn v_bestMany v_soughtBy v_sought v_soughtAt v_foundMany v_foundOrder v_isKept v_imageRows v_imageColumns v_imageFolded v_imageWronged v_bodies v_ran v_ownKind v_ownNumber v_limit v_changeWas v_changeIs v_shapeRows v_shapeColumns v_row v_column v_below v_face v_worn v_lastBend v_tape v_text v_names v_bends v_high v_to v_pileSize v_planLine v_planWay v_way1 v_bestWay v_order1 v_placeIn v_bodyKind v_trace v_shelf v_many v_items v_carried) (some (.int r)) args s) (F0 m 43 ls [.int s0]) := by
  obtain ⟨hx, hb, hml, hown, hts, hr, hlocks, hK, hSt⟩ := id C0
  intro x1 x3 s0 v_rowsOf v_columnsOf v_limit v_worn H locs ls hf hP hD hS hl
  unfold fX9_tornNow_43 at hf
  refine lv_iconst (v := 0) hx hb dX9_tornNow_43 (by decide) ?_
  exact tX9_tornNow_44 hd C0 hA N hk_4 _ _ _ _ _ _ _ _ H locs ls hf hP hD hS (lv_sub hl [0, 1, 2] rfl)

def fX9_tornNow_4 (N : Nat)  : Nat → Int32 → Int32 → Int32 → Int32 → Int32 → List Int32 → List Int32 → Option (Int32)
  | 0 => fun _ _ _ _ _ _ _ => none
  | n + 1 => fun x1 x2 x3 v_rowsOf v_columnsOf v_limit v_worn =>
    if (64 : Int32) ≤ x3 then
    (some (x2))
    else (mm_bd1 (fX9_isCrease N x3 v_rowsOf v_columnsOf) (fun (r_2 : Bool) =>
    if r_2 = false then
    (fX9_tornNow_43 N (fX9_tornNow_4 N n) x1 x3 x2 v_rowsOf v_columnsOf v_limit v_worn)
    else (mm_ck (mm_inb (((64 : Int32) * x1) + x3) v_worn.length) (mm_ck (mm_inb (0 : Int32) v_limit.length) (if (mm_ig v_worn (((64 : Int32) * x1) + x3)) < (mm_ig v_limit (0 : Int32)) then
    (fX9_tornNow_43 N (fX9_tornNow_4 N n) x1 x3 x2 v_rowsOf v_columnsOf v_limit v_worn)
    else (fX9_tornNow_44 N (fX9_tornNow_4 N n) x1 x3 (1 : Int32) x2 v_rowsOf v_columnsOf v_limit v_worn))))))

set_option maxHeartbeats 4000000 in
set_option maxRecDepth 100000 in
theorem tX9_tornNow_4 {p : Program} {l : Launch} {e : Env} {s : State} {m : MethodId} {args : Array Value} {below : List Frame} {meth : Method} {c : Code} {D : va_G} {cI cL cS cH : ClassId} {A : Nat → Prop} {d : Nat} {a : Nat → Nat} (hd : 3 ≤ d) (C0 : mm_Cx p s m args meth c RX9 cX9_tornNow 4 (some .int) D (mm_T cI cL cS cH) A) (hA : ∀ q, s.heap.size ≤ q → A q) {v_keptMany : Int32} {v_done : Int32} {v_folded : Int32} {v_wronged : Int32} {v_tapeMany : Int32} {v_textMany : Int32} {v_base : Int32} {v_at : Int32} {v_ends : Int32} {v_fault : Int32} {v_opened : Int32} {v_bentMany : Int32} {v_bentWrong : Int32} {v_moreWorn : Int32} {v_planned : Int32} {v_allWrong : Int32} {v_allWorn : Int32} {v_z : Int32} {v_wishedField : Int32} {v_isFound : Bool} {v_bestWrong : Int32} {v_bestWorn : Int32} {v_bestMany : Int32} {v_soughtBy : Int32} {v_sought : Int32} {v_soughtAt : Int32} {v_foundMany : Int32} {v_foundOrder : Int32} {v_isKept : Bool} {v_imageRows : Int32} {v_imageColumns : Int32} {v_imageFolded : Int32} {v_imageWronged : Int32} {v_bodies : Int32} {v_ran : Int32} {v_ownKind : Int32} {v_ownNumber : Int32} {v_changeWas : List Int32} {v_changeIs : List Int32} {v_shapeRows : List Int32} {v_shapeColumns : List Int32} {v_row : List Int32} {v_column : List Int32} {v_below : List Int32} {v_face : List Int32} {v_lastBend : List Int32} {v_tape : List Int32} {v_text : List Int32} {v_names : List Int32} {v_bends : List Int32} {v_high : List Int32} {v_to : List Int32} {v_pileSize : List Int32} {v_planLine : List Int32} {v_planWay : List Int32} {v_way1 : List Int32} {v_bestWay : List Int32} {v_order1 : List Int32} {v_placeIn : List Int32} {v_bodyKind : List Int32} {v_trace : List Int32} {v_shelf : List Int32} {v_many : List Int32} {v_items : List Int64} {v_carried : List Int64} {r : Int32} (N : Nat)  : ∀ (n : Nat), ∀ (x1 : Int32) (x2 : Int32) (x3 : Int32) (v_rowsOf : Int32) (v_columnsOf : Int32) (v_limit : List Int32) (v_worn : List Int32) (H : Heap) (locs : List Loc) (ls : Array Slot), fX9_tornNow_4 N n x1 x2 x3 v_rowsOf v_columnsOf v_limit v_worn = some r → va_P D mm_cl (wd_X9 cI cL cS cH a v_keptMany v_done v_rowsOf v_columnsOf v_folded v_wronged v_tapeMany v_textMany v_base v_at v_ends v_fault v_opened v_bentMany v_bentWrong v_moreWorn v_planned v_allWrong v_allWorn v_z v_wishedField v_isFound v_bestWrong v_bestWorn v_bestMany v_soughtBy v_sought v_soughtAt v_foundMany v_foundOrder v_isKept v_imageRows v_imageColumns v_imageFolded v_imageWronged v_bodies v_ran v_ownKind v_ownNumber v_limit v_changeWas v_changeIs v_shapeRows v_shapeColumns v_row v_column v_below v_face v_worn v_lastBend v_tape v_text v_names v_bends v_high v_to v_pileSize v_planLine v_planWay v_way1 v_bestWay v_order1 v_placeIn v_bodyKind v_trace v_shelf v_many v_items v_carried) H → va_D A (wd_X9 cI cL cS cH a v_keptMany v_done v_rowsOf v_columnsOf v_folded v_wronged v_tapeMany v_textMany v_base v_at v_ends v_fault v_opened v_bentMany v_bentWrong v_moreWorn v_planned v_allWrong v_allWorn v_z v_wishedField v_isFound v_bestWrong v_bestWorn v_bestMany v_soughtBy v_sought v_soughtAt v_foundMany v_foundOrder v_isKept v_imageRows v_imageColumns v_imageFolded v_imageWronged v_bodies v_ran v_ownKind v_ownNumber v_limit v_changeWas v_changeIs v_shapeRows v_shapeColumns v_row v_column v_below v_face v_worn v_lastBend v_tape v_text v_names v_bends v_high v_to v_pileSize v_planLine v_planWay v_way1 v_bestWay v_order1 v_placeIn v_bodyKind v_trace v_shelf v_many v_items v_carried) → va_S A s.heap H locs → lv_has ls 4 [(0, .ref (a 0)), (1, .int x1), (2, .int x2), (3, .int x3)] → W p l e (mm_rr d) s m args below meth c H locs 0 0 (mm_Z below D A (wd_X9 cI cL cS cH a v_keptMany v_done v_rowsOf v_columnsOf v_folded v_wronged v_tapeMany v_textMany v_base v_at v_ends v_fault v_opened v_bentMany v_bentWrong v_moreWorn v_planned v_allWrong v_allWorn v_z v_wishedField v_isFound v_bestWrong v_bestWorn v_bestMany v_soughtBy v_sought v_soughtAt v_foundMany v_foundOrder v_isKept v_imageRows v_imageColumns v_imageFolded v_imageWronged v_bodies v_ran v_ownKind v_ownNumber v_limit v_changeWas v_changeIs v_shapeRows v_shapeColumns v_row v_column v_below v_face v_worn v_lastBend v_tape v_text v_names v_bends v_high v_to v_pileSize v_planLine v_planWay v_way1 v_bestWay v_order1 v_placeIn v_bodyKind v_trace v_shelf v_many v_items v_carried) (some (.int r)) args s) (F0 m 4 ls []) := by
  obtain ⟨hx, hb, hml, hown, hts, hr, hlocks, hK, hSt⟩ := id C0
  intro n
  induction n with
  | zero =>
    intro x1 x2 x3 v_rowsOf v_columnsOf v_limit v_worn H locs ls hf
    cases (show none = some _ from hf)
  | succ n ih =>
    intro x1 x2 x3 v_rowsOf v_columnsOf v_limit v_worn H locs ls hf hP hD hS hl
    unfold fX9_tornNow_4 at hf
    refine lv_iload_n hx hb dX9_tornNow_4 rfl (lv_at hl 3 rfl) ?_
    refine lv_bipush (v := 64) hx hb dX9_tornNow_5 (by decide) ?_
    refine lv_icmp_ge (tgt := 52) hx hb dX9_tornNow_7 (by decide) (fun c_1 => ?_) (fun c_1 => ?_)
    · have hf := mm_ip hf c_1
      refine lv_iload_n hx hb dX9_tornNow_52 rfl (lv_at hl 2 rfl) ?_
      obtain rfl := mm_inj1 hf
      exact mm_iret C0 hP hD hS dX9_tornNow_53
    · have hf := mm_in hf c_1
      refine lv_iload_n hx hb dX9_tornNow_10 rfl (lv_at hl 2 rfl) ?_
      refine lv_aload_n hx hb dX9_tornNow_11 rfl (lv_at hl 0 rfl) ?_
      refine lv_iload_n hx hb dX9_tornNow_12 rfl (lv_at hl 3 rfl) ?_
      obtain ⟨r_2, hc_3, hf⟩ := mm_bd1s hf
      refine mm_callVF (q0 := 0) (ci := 9) (rest := [.int x2]) C0 lk_X9_217 (ctX9_isCrease (a := a) (d := d - 1) (by omega) hc_3) (by omega) rfl hl.1 rfl (mm_cat rfl) dX9_tornNow_13 hP hD hA hS rfl rfl (fun H locs hP hD hS => ?_)
      refine W.eq (g2 := F0 m 16 ls [.int (mm_b r_2), .int x2]) rfl ?_
      refine lv_if_eq (tgt := 43) hx hb dX9_tornNow_16 (by decide) (fun c_4 => ?_) (fun c_4 => ?_)
      · have hf := mm_ip hf (mm_b0 c_4)
        exact tX9_tornNow_43 hd C0 hA N ih _ _ _ _ _ _ _ H locs ls hf hP hD hS (lv_sub hl [0, 1, 3] rfl)
      · have hf := mm_in hf (mm_b1 c_4)
        refine lv_aload_n hx hb dX9_tornNow_19 rfl (lv_at hl 0 rfl) ?_
        refine mm_get C0 hP iw_X9 0 rfl rfl 13 (by decide) fl_X9_37 rfl dX9_tornNow_20 ?_
        refine lv_bipush (v := 64) hx hb dX9_tornNow_23 (by decide) ?_
        refine lv_iload_n hx hb dX9_tornNow_25 rfl (lv_at hl 1 rfl) ?_
        refine lv_imul hx hb dX9_tornNow_26 ?_
        refine lv_iload_n hx hb dX9_tornNow_27 rfl (lv_at hl 3 rfl) ?_
        refine lv_iadd hx hb dX9_tornNow_28 ?_
        obtain ⟨h_5, hf⟩ := mm_cks hf
        refine mm_iald C0 hP 10 rfl h_5 dX9_tornNow_29 ?_
        refine lv_aload_n hx hb dX9_tornNow_30 rfl (lv_at hl 0 rfl) ?_
        refine mm_get C0 hP iw_X9 0 rfl rfl 0 (by decide) fl_X9_7 rfl dX9_tornNow_31 ?_
        refine lv_iconst (v := 0) hx hb dX9_tornNow_34 (by decide) ?_
        obtain ⟨h_6, hf⟩ := mm_cks hf
        refine mm_iald C0 hP 1 rfl h_6 dX9_tornNow_35 ?_
        refine lv_icmp_lt (tgt := 43) hx hb dX9_tornNow_36 (by decide) (fun c_7 => ?_) (fun c_7 => ?_)
        · have hf := mm_ip hf c_7
          exact tX9_tornNow_43 hd C0 hA N ih _ _ _ _ _ _ _ H locs ls hf hP hD hS (lv_sub hl [0, 1, 3] rfl)
        · have hf := mm_in hf c_7
          refine lv_iconst (v := 1) hx hb dX9_tornNow_39 (by decide) ?_
          refine lv_goto (tgt := 44) hx hb dX9_tornNow_40 (by decide) ?_
          exact tX9_tornNow_44 hd C0 hA N ih _ _ _ _ _ _ _ _ H locs ls hf hP hD hS (lv_sub hl [0, 1, 3] rfl)

def fX9_tornNow (N : Nat) (x1 : Int32) (v_rowsOf : Int32) (v_columnsOf : Int32) (v_limit : List Int32) (v_worn : List Int32) : Option (Int32) :=
    fX9_tornNow_4 N N x1 (0 : Int32) (0 : Int32) v_rowsOf v_columnsOf v_limit v_worn

set_option maxHeartbeats 4000000 in
set_option maxRecDepth 100000 in
theorem ctX9_tornNow {l : Launch} {D : va_G} {cI cL cS cH : ClassId} {a : Nat → Nat} {x1 : Int32} {v_keptMany : Int32} {v_done : Int32} {v_rowsOf : Int32} {v_columnsOf : Int32} {v_folded : Int32} {v_wronged : Int32} {v_tapeMany : Int32} {v_textMany : Int32} {v_base : Int32} {v_at : Int32} {v_ends : Int32} {v_fault : Int32} {v_opened : Int32} {v_bentMany : Int32} {v_bentWrong : Int32} {v_moreWorn : Int32} {v_planned : Int32} {v_allWrong : Int32} {v_allWorn : Int32} {v_z : Int32} {v_wishedField : Int32} {v_isFound : Bool} {v_bestWrong : Int32} {v_bestWorn : Int32} {v_bestMany : Int32} {v_soughtBy : Int32} {v_sought : Int32} {v_soughtAt : Int32} {v_foundMany : Int32} {v_foundOrder : Int32} {v_isKept : Bool} {v_imageRows : Int32} {v_imageColumns : Int32} {v_imageFolded : Int32} {v_imageWronged : Int32} {v_bodies : Int32} {v_ran : Int32} {v_ownKind : Int32} {v_ownNumber : Int32} {v_limit : List Int32} {v_changeWas : List Int32} {v_changeIs : List Int32} {v_shapeRows : List Int32} {v_shapeColumns : List Int32} {v_row : List Int32} {v_column : List Int32} {v_below : List Int32} {v_face : List Int32} {v_worn : List Int32} {v_lastBend : List Int32} {v_tape : List Int32} {v_text : List Int32} {v_names : List Int32} {v_bends : List Int32} {v_high : List Int32} {v_to : List Int32} {v_pileSize : List Int32} {v_planLine : List Int32} {v_planWay : List Int32} {v_way1 : List Int32} {v_bestWay : List Int32} {v_order1 : List Int32} {v_placeIn : List Int32} {v_bodyKind : List Int32} {v_trace : List Int32} {v_shelf : List Int32} {v_many : List Int32} {v_items : List Int64} {v_carried : List Int64} {r : Int32} {N d : Nat} (hd : 3 ≤ d) (hf : fX9_tornNow N x1 v_rowsOf v_columnsOf v_limit v_worn = some r) : mm_Ct l yX9_tornNow cX9_tornNow 4 (some .int) d D (mm_T cI cL cS cH) [.ref (a 0), .int x1] (wd_X9 cI cL cS cH a v_keptMany v_done v_rowsOf v_columnsOf v_folded v_wronged v_tapeMany v_textMany v_base v_at v_ends v_fault v_opened v_bentMany v_bentWrong v_moreWorn v_planned v_allWrong v_allWorn v_z v_wishedField v_isFound v_bestWrong v_bestWorn v_bestMany v_soughtBy v_sought v_soughtAt v_foundMany v_foundOrder v_isKept v_imageRows v_imageColumns v_imageFolded v_imageWronged v_bodies v_ran v_ownKind v_ownNumber v_limit v_changeWas v_changeIs v_shapeRows v_shapeColumns v_row v_column v_below v_face v_worn v_lastBend v_tape v_text v_names v_bends v_high v_to v_pileSize v_planLine v_planWay v_way1 v_bestWay v_order1 v_placeIn v_bodyKind v_trace v_shelf v_many v_items v_carried) (wd_X9 cI cL cS cH a v_keptMany v_done v_rowsOf v_columnsOf v_folded v_wronged v_tapeMany v_textMany v_base v_at v_ends v_fault v_opened v_bentMany v_bentWrong v_moreWorn v_planned v_allWrong v_allWorn v_z v_wishedField v_isFound v_bestWrong v_bestWorn v_bestMany v_soughtBy v_sought v_soughtAt v_foundMany v_foundOrder v_isKept v_imageRows v_imageColumns v_imageFolded v_imageWronged v_bodies v_ran v_ownKind v_ownNumber v_limit v_changeWas v_changeIs v_shapeRows v_shapeColumns v_row v_column v_below v_face v_worn v_lastBend v_tape v_text v_names v_bends v_high v_to v_pileSize v_planLine v_planWay v_way1 v_bestWay v_order1 v_placeIn v_bodyKind v_trace v_shelf v_many v_items v_carried) (some (.int r)) := by
  refine mm_of (by decide) (Nat.le_of_ble_eq_true rfl) ?_
  intro p e s m args below meth c A H locs ls C0 hP hD hA hS hl
  have C0 : mm_Cx p s m args meth c RX9 cX9_tornNow 4 (some .int) D (mm_T cI cL cS cH) A := C0
  obtain ⟨hx, hb, hml, hown, hts, hr, hlocks, hK, hSt⟩ := id C0
  have hl : lv_has ls 4 [(0, .ref (a 0)), (1, .int x1)] := hl
  unfold fX9_tornNow at hf
  refine lv_iconst (v := 0) hx hb dX9_tornNow_0 (by decide) ?_
  refine lv_istore_n (lv' := [(2, .int (0 : Int32)), (0, .ref (a 0)), (1, .int x1)]) hx hb dX9_tornNow_1 rfl hl (by decide) rfl (fun ls hl => ?_)
  refine lv_iconst (v := 0) hx hb dX9_tornNow_2 (by decide) ?_
  refine lv_istore_n (lv' := [(3, .int (0 : Int32)), (2, .int (0 : Int32)), (0, .ref (a 0)), (1, .int x1)]) hx hb dX9_tornNow_3 rfl hl (by decide) rfl (fun ls hl => ?_)
  exact tX9_tornNow_4 hd C0 hA N  N _ _ _ _ _ _ _ H locs ls hf hP hD hS (lv_sub hl [2, 3, 1, 0] rfl)

theorem dX9_led_0 : decode cX9_led 0 = .ok (.iload_n 1, 1) := by decide +kernel
theorem dX9_led_1 : decode cX9_led 1 = .ok (.ifCond .ne 10, 3) := by decide +kernel
theorem dX9_led_4 : decode cX9_led 4 = .ok (.aload_n 0, 1) := by decide +kernel
theorem dX9_led_5 : decode cX9_led 5 = .ok (.getfield 135, 3) := by decide +kernel
theorem dX9_led_8 : decode cX9_led 8 = .ok (.goto 29, 3) := by decide +kernel
theorem dX9_led_11 : decode cX9_led 11 = .ok (.iload_n 1, 1) := by decide +kernel
theorem dX9_led_12 : decode cX9_led 12 = .ok (.iconst 1, 1) := by decide +kernel
theorem dX9_led_13 : decode cX9_led 13 = .ok (.if_icmp .ne 10, 3) := by decide +kernel
theorem dX9_led_16 : decode cX9_led 16 = .ok (.aload_n 0, 1) := by decide +kernel
theorem dX9_led_17 : decode cX9_led 17 = .ok (.getfield 138, 3) := by decide +kernel
theorem dX9_led_20 : decode cX9_led 20 = .ok (.goto 17, 3) := by decide +kernel
theorem dX9_led_23 : decode cX9_led 23 = .ok (.iload_n 1, 1) := by decide +kernel
theorem dX9_led_24 : decode cX9_led 24 = .ok (.iconst 2, 1) := by decide +kernel
theorem dX9_led_25 : decode cX9_led 25 = .ok (.if_icmp .ne 11, 3) := by decide +kernel
theorem dX9_led_28 : decode cX9_led 28 = .ok (.aload_n 0, 1) := by decide +kernel
theorem dX9_led_29 : decode cX9_led 29 = .ok (.iconst 0, 1) := by decide +kernel
theorem dX9_led_30 : decode cX9_led 30 = .ok (.invokevirtual 268, 3) := by decide +kernel
theorem dX9_led_33 : decode cX9_led 33 = .ok (.goto 4, 3) := by decide +kernel
theorem dX9_led_36 : decode cX9_led 36 = .ok (.iconst (-1), 1) := by decide +kernel
theorem dX9_led_37 : decode cX9_led 37 = .ok (.ireturn, 1) := by decide +kernel
def fX9_led (N : Nat) (x1 : Int32) (v_rowsOf : Int32) (v_columnsOf : Int32) (v_folded : Int32) (v_wronged : Int32) (v_limit : List Int32) (v_worn : List Int32) : Option (Int32) :=
    if x1 = 0 then
    (some (v_folded))
    else (if x1 = (1 : Int32) then
    (some (v_wronged))
    else (if x1 = (2 : Int32) then
    (mm_bd1 (fX9_tornNow N (0 : Int32) v_rowsOf v_columnsOf v_limit v_worn) (fun (r_4 : Int32) =>
    some (r_4)))
    else (some ((-1 : Int32)))))

set_option maxHeartbeats 4000000 in
set_option maxRecDepth 100000 in
theorem ctX9_led {l : Launch} {D : va_G} {cI cL cS cH : ClassId} {a : Nat → Nat} {x1 : Int32} {v_keptMany : Int32} {v_done : Int32} {v_rowsOf : Int32} {v_columnsOf : Int32} {v_folded : Int32} {v_wronged : Int32} {v_tapeMany : Int32} {v_textMany : Int32} {v_base : Int32} {v_at : Int32} {v_ends : Int32} {v_fault : Int32} {v_opened : Int32} {v_bentMany : Int32} {v_bentWrong : Int32} {v_moreWorn : Int32} {v_planned : Int32} {v_allWrong : Int32} {v_allWorn : Int32} {v_z : Int32} {v_wishedField : Int32} {v_isFound : Bool} {v_bestWrong : Int32} {v_bestWorn : Int32} {v_bestMany : Int32} {v_soughtBy : Int32} {v_sought : Int32} {v_soughtAt : Int32} {v_foundMany : Int32} {v_foundOrder : Int32} {v_isKept : Bool} {v_imageRows : Int32} {v_imageColumns : Int32} {v_imageFolded : Int32} {v_imageWronged : Int32} {v_bodies : Int32} {v_ran : Int32} {v_ownKind : Int32} {v_ownNumber : Int32} {v_limit : List Int32} {v_changeWas : List Int32} {v_changeIs : List Int32} {v_shapeRows : List Int32} {v_shapeColumns : List Int32} {v_row : List Int32} {v_column : List Int32} {v_below : List Int32} {v_face : List Int32} {v_worn : List Int32} {v_lastBend : List Int32} {v_tape : List Int32} {v_text : List Int32} {v_names : List Int32} {v_bends : List Int32} {v_high : List Int32} {v_to : List Int32} {v_pileSize : List Int32} {v_planLine : List Int32} {v_planWay : List Int32} {v_way1 : List Int32} {v_bestWay : List Int32} {v_order1 : List Int32} {v_placeIn : List Int32} {v_bodyKind : List Int32} {v_trace : List Int32} {v_shelf : List Int32} {v_many : List Int32} {v_items : List Int64} {v_carried : List Int64} {r : Int32} {N d : Nat} (hd : 4 ≤ d) (hf : fX9_led N x1 v_rowsOf v_columnsOf v_folded v_wronged v_limit v_worn = some r) : mm_Ct l yX9_led cX9_led 2 (some .int) d D (mm_T cI cL cS cH) [.ref (a 0), .int x1] (wd_X9 cI cL cS cH a v_keptMany v_done v_rowsOf v_columnsOf v_folded v_wronged v_tapeMany v_textMany v_base v_at v_ends v_fault v_opened v_bentMany v_bentWrong v_moreWorn v_planned v_allWrong v_allWorn v_z v_wishedField v_isFound v_bestWrong v_bestWorn v_bestMany v_soughtBy v_sought v_soughtAt v_foundMany v_foundOrder v_isKept v_imageRows v_imageColumns v_imageFolded v_imageWronged v_bodies v_ran v_ownKind v_ownNumber v_limit v_changeWas v_changeIs v_shapeRows v_shapeColumns v_row v_column v_below v_face v_worn v_lastBend v_tape v_text v_names v_bends v_high v_to v_pileSize v_planLine v_planWay v_way1 v_bestWay v_order1 v_placeIn v_bodyKind v_trace v_shelf v_many v_items v_carried) (wd_X9 cI cL cS cH a v_keptMany v_done v_rowsOf v_columnsOf v_folded v_wronged v_tapeMany v_textMany v_base v_at v_ends v_fault v_opened v_bentMany v_bentWrong v_moreWorn v_planned v_allWrong v_allWorn v_z v_wishedField v_isFound v_bestWrong v_bestWorn v_bestMany v_soughtBy v_sought v_soughtAt v_foundMany v_foundOrder v_isKept v_imageRows v_imageColumns v_imageFolded v_imageWronged v_bodies v_ran v_ownKind v_ownNumber v_limit v_changeWas v_changeIs v_shapeRows v_shapeColumns v_row v_column v_below v_face v_worn v_lastBend v_tape v_text v_names v_bends v_high v_to v_pileSize v_planLine v_planWay v_way1 v_bestWay v_order1 v_placeIn v_bodyKind v_trace v_shelf v_many v_items v_carried) (some (.int r)) := by
  refine mm_of (by decide) (Nat.le_of_ble_eq_true rfl) ?_
  intro p e s m args below meth c A H locs ls C0 hP hD hA hS hl
  have C0 : mm_Cx p s m args meth c RX9 cX9_led 2 (some .int) D (mm_T cI cL cS cH) A := C0
  obtain ⟨hx, hb, hml, hown, hts, hr, hlocks, hK, hSt⟩ := id C0
  have hl : lv_has ls 2 [(0, .ref (a 0)), (1, .int x1)] := hl
  unfold fX9_led at hf
  refine lv_iload_n hx hb dX9_led_0 rfl (lv_at hl 1 rfl) ?_
  refine lv_if_ne (tgt := 11) hx hb dX9_led_1 (by decide) (fun c_1 => ?_) (fun c_1 => ?_)
  · have hf := mm_in hf c_1
    refine lv_iload_n hx hb dX9_led_11 rfl (lv_at hl 1 rfl) ?_
    refine lv_iconst (v := 1) hx hb dX9_led_12 (by decide) ?_
    refine lv_icmp_ne (tgt := 23) hx hb dX9_led_13 (by decide) (fun c_2 => ?_) (fun c_2 => ?_)
    · have hf := mm_in hf c_2
      refine lv_iload_n hx hb dX9_led_23 rfl (lv_at hl 1 rfl) ?_
      refine lv_iconst (v := 2) hx hb dX9_led_24 (by decide) ?_
      refine lv_icmp_ne (tgt := 36) hx hb dX9_led_25 (by decide) (fun c_3 => ?_) (fun c_3 => ?_)
      · have hf := mm_in hf c_3
        refine lv_iconst (v := -1) hx hb dX9_led_36 (by decide) ?_
        obtain rfl := mm_inj1 hf
        exact mm_iret C0 hP hD hS dX9_led_37
      · have hf := mm_ip hf c_3
        refine lv_aload_n hx hb dX9_led_28 rfl (lv_at hl 0 rfl) ?_
        refine lv_iconst (v := 0) hx hb dX9_led_29 (by decide) ?_
        obtain ⟨r_4, hc_5, hf⟩ := mm_bd1s hf
        refine mm_callVF (q0 := 0) (ci := 9) (rest := []) C0 lk_X9_268 (ctX9_tornNow (a := a) (d := d - 1) (by omega) hc_5) (by omega) rfl hl.1 rfl (mm_cat rfl) dX9_led_30 hP hD hA hS rfl rfl (fun H locs hP hD hS => ?_)
        refine W.eq (g2 := F0 m 33 ls [.int r_4]) rfl ?_
        refine lv_goto (tgt := 37) hx hb dX9_led_33 (by decide) ?_
        obtain rfl := mm_inj1 hf
        exact mm_iret C0 hP hD hS dX9_led_37
    · have hf := mm_ip hf c_2
      refine lv_aload_n hx hb dX9_led_16 rfl (lv_at hl 0 rfl) ?_
      refine mm_get C0 hP iw_X9 0 rfl rfl 16 (by decide) fl_X9_138 rfl dX9_led_17 ?_
      refine lv_goto (tgt := 37) hx hb dX9_led_20 (by decide) ?_
      obtain rfl := mm_inj1 hf
      exact mm_iret C0 hP hD hS dX9_led_37
  · have hf := mm_ip hf c_1
    refine lv_aload_n hx hb dX9_led_4 rfl (lv_at hl 0 rfl) ?_
    refine mm_get C0 hP iw_X9 0 rfl rfl 15 (by decide) fl_X9_135 rfl dX9_led_5 ?_
    refine lv_goto (tgt := 37) hx hb dX9_led_8 (by decide) ?_
    obtain rfl := mm_inj1 hf
    exact mm_iret C0 hP hD hS dX9_led_37

theorem dX9_plan_0 : decode cX9_plan 0 = .ok (.iload_n 1, 1) := by decide +kernel
theorem dX9_plan_1 : decode cX9_plan 1 = .ok (.ifCond .ne 10, 3) := by decide +kernel
theorem dX9_plan_4 : decode cX9_plan 4 = .ok (.aload_n 0, 1) := by decide +kernel
theorem dX9_plan_5 : decode cX9_plan 5 = .ok (.iconst 0, 1) := by decide +kernel
theorem dX9_plan_6 : decode cX9_plan 6 = .ok (.putfield 271, 3) := by decide +kernel
theorem dX9_plan_9 : decode cX9_plan 9 = .ok (.iconst 0, 1) := by decide +kernel
theorem dX9_plan_10 : decode cX9_plan 10 = .ok (.ireturn, 1) := by decide +kernel
theorem dX9_plan_11 : decode cX9_plan 11 = .ok (.iload_n 1, 1) := by decide +kernel
theorem dX9_plan_12 : decode cX9_plan 12 = .ok (.i2l, 1) := by decide +kernel
theorem dX9_plan_13 : decode cX9_plan 13 = .ok (.lconst 1, 1) := by decide +kernel
theorem dX9_plan_14 : decode cX9_plan 14 = .ok (.ldc2_w 238, 3) := by decide +kernel
theorem dX9_plan_17 : decode cX9_plan 17 = .ok (.invokestatic 111, 3) := by decide +kernel
theorem dX9_plan_20 : decode cX9_plan 20 = .ok (.ifCond .eq 15, 3) := by decide +kernel
theorem dX9_plan_23 : decode cX9_plan 23 = .ok (.iload_n 2, 1) := by decide +kernel
theorem dX9_plan_24 : decode cX9_plan 24 = .ok (.i2l, 1) := by decide +kernel
theorem dX9_plan_25 : decode cX9_plan 25 = .ok (.lconst 0, 1) := by decide +kernel
theorem dX9_plan_26 : decode cX9_plan 26 = .ok (.ldc2_w 238, 3) := by decide +kernel
theorem dX9_plan_29 : decode cX9_plan 29 = .ok (.invokestatic 111, 3) := by decide +kernel
theorem dX9_plan_32 : decode cX9_plan 32 = .ok (.ifCond .ne 5, 3) := by decide +kernel
theorem dX9_plan_35 : decode cX9_plan 35 = .ok (.iconst (-1), 1) := by decide +kernel
theorem dX9_plan_36 : decode cX9_plan 36 = .ok (.ireturn, 1) := by decide +kernel
theorem dX9_plan_37 : decode cX9_plan 37 = .ok (.aload_n 0, 1) := by decide +kernel
theorem dX9_plan_38 : decode cX9_plan 38 = .ok (.getfield 271, 3) := by decide +kernel
theorem dX9_plan_41 : decode cX9_plan 41 = .ok (.bipush 12, 2) := by decide +kernel
theorem dX9_plan_43 : decode cX9_plan 43 = .ok (.if_icmp .ne 6, 3) := by decide +kernel
theorem dX9_plan_46 : decode cX9_plan 46 = .ok (.bipush (-3), 2) := by decide +kernel
theorem dX9_plan_48 : decode cX9_plan 48 = .ok (.ireturn, 1) := by decide +kernel
theorem dX9_plan_49 : decode cX9_plan 49 = .ok (.aload_n 0, 1) := by decide +kernel
theorem dX9_plan_50 : decode cX9_plan 50 = .ok (.getfield 64, 3) := by decide +kernel
theorem dX9_plan_53 : decode cX9_plan 53 = .ok (.aload_n 0, 1) := by decide +kernel
theorem dX9_plan_54 : decode cX9_plan 54 = .ok (.getfield 271, 3) := by decide +kernel
theorem dX9_plan_57 : decode cX9_plan 57 = .ok (.iload_n 1, 1) := by decide +kernel
theorem dX9_plan_58 : decode cX9_plan 58 = .ok (.iastore, 1) := by decide +kernel
theorem dX9_plan_59 : decode cX9_plan 59 = .ok (.aload_n 0, 1) := by decide +kernel
theorem dX9_plan_60 : decode cX9_plan 60 = .ok (.getfield 67, 3) := by decide +kernel
theorem dX9_plan_63 : decode cX9_plan 63 = .ok (.aload_n 0, 1) := by decide +kernel
theorem dX9_plan_64 : decode cX9_plan 64 = .ok (.getfield 271, 3) := by decide +kernel
theorem dX9_plan_67 : decode cX9_plan 67 = .ok (.iload_n 2, 1) := by decide +kernel
theorem dX9_plan_68 : decode cX9_plan 68 = .ok (.iastore, 1) := by decide +kernel
theorem dX9_plan_69 : decode cX9_plan 69 = .ok (.aload_n 0, 1) := by decide +kernel
theorem dX9_plan_70 : decode cX9_plan 70 = .ok (.dup, 1) := by decide +kernel
theorem dX9_plan_71 : decode cX9_plan 71 = .ok (.getfield 271, 3) := by decide +kernel
theorem dX9_plan_74 : decode cX9_plan 74 = .ok (.iconst 1, 1) := by decide +kernel
theorem dX9_plan_75 : decode cX9_plan 75 = .ok (.iadd, 1) := by decide +kernel
theorem dX9_plan_76 : decode cX9_plan 76 = .ok (.putfield 271, 3) := by decide +kernel
theorem dX9_plan_79 : decode cX9_plan 79 = .ok (.aload_n 0, 1) := by decide +kernel
theorem dX9_plan_80 : decode cX9_plan 80 = .ok (.getfield 271, 3) := by decide +kernel
theorem dX9_plan_83 : decode cX9_plan 83 = .ok (.ireturn, 1) := by decide +kernel
def fX9_plan (N : Nat) (x1 : Int32) (x2 : Int32) (v_planned : Int32) (v_planLine : List Int32) (v_planWay : List Int32) : Option (Int32 × Int32 × List Int32 × List Int32) :=
    if x1 = 0 then
    (some ((0 : Int32), (0 : Int32), v_planLine, v_planWay))
    else (mm_bd1 (fX9_within N ((x1).toInt64) (1 : Int64) (7 : Int64)) (fun (r_2 : Bool) =>
    if r_2 = false then
    (some ((-1 : Int32), v_planned, v_planLine, v_planWay))
    else (mm_bd1 (fX9_within N ((x2).toInt64) (0 : Int64) (7 : Int64)) (fun (r_5 : Bool) =>
    if r_5 = false then
    (some ((-1 : Int32), v_planned, v_planLine, v_planWay))
    else (if v_planned = (12 : Int32) then
    (some ((-3 : Int32), v_planned, v_planLine, v_planWay))
    else (mm_ck (mm_inb v_planned v_planLine.length) (mm_nm (mm_is v_planLine v_planned x1) (fun (l_10 : List Int32) =>
    mm_ck (mm_inb v_planned v_planWay.length) (mm_nm (mm_is v_planWay v_planned x2) (fun (l_12 : List Int32) =>
    mm_nm ((v_planned + (1 : Int32))) (fun (y_13 : Int32) =>
    some (y_13, y_13, l_10, l_12))))))))))))

set_option maxHeartbeats 4000000 in
set_option maxRecDepth 100000 in
theorem ctX9_plan {l : Launch} {D : va_G} {cI cL cS cH : ClassId} {a : Nat → Nat} {x1 : Int32} {x2 : Int32} {v_keptMany : Int32} {v_done : Int32} {v_rowsOf : Int32} {v_columnsOf : Int32} {v_folded : Int32} {v_wronged : Int32} {v_tapeMany : Int32} {v_textMany : Int32} {v_base : Int32} {v_at : Int32} {v_ends : Int32} {v_fault : Int32} {v_opened : Int32} {v_bentMany : Int32} {v_bentWrong : Int32} {v_moreWorn : Int32} {v_planned : Int32} {v_allWrong : Int32} {v_allWorn : Int32} {v_z : Int32} {v_wishedField : Int32} {v_isFound : Bool} {v_bestWrong : Int32} {v_bestWorn : Int32} {v_bestMany : Int32} {v_soughtBy : Int32} {v_sought : Int32} {v_soughtAt : Int32} {v_foundMany : Int32} {v_foundOrder : Int32} {v_isKept : Bool} {v_imageRows : Int32} {v_imageColumns : Int32} {v_imageFolded : Int32} {v_imageWronged : Int32} {v_bodies : Int32} {v_ran : Int32} {v_ownKind : Int32} {v_ownNumber : Int32} {v_limit : List Int32} {v_changeWas : List Int32} {v_changeIs : List Int32} {v_shapeRows : List Int32} {v_shapeColumns : List Int32} {v_row : List Int32} {v_column : List Int32} {v_below : List Int32} {v_face : List Int32} {v_worn : List Int32} {v_lastBend : List Int32} {v_tape : List Int32} {v_text : List Int32} {v_names : List Int32} {v_bends : List Int32} {v_high : List Int32} {v_to : List Int32} {v_pileSize : List Int32} {v_planLine : List Int32} {v_planWay : List Int32} {v_way1 : List Int32} {v_bestWay : List Int32} {v_order1 : List Int32} {v_placeIn : List Int32} {v_bodyKind : List Int32} {v_trace : List Int32} {v_shelf : List Int32} {v_many : List Int32} {v_items : List Int64} {v_carried : List Int64} {r : Int32} {w_planned : Int32} {w_planLine : List Int32} {w_planWay : List Int32} {N d : Nat} (hd : 2 ≤ d) (hf : fX9_plan N x1 x2 v_planned v_planLine v_planWay = some (r, w_planned, w_planLine, w_planWay)) : mm_Ct l yX9_plan cX9_plan 3 (some .int) d D (mm_T cI cL cS cH) [.ref (a 0), .int x1, .int x2] (wd_X9 cI cL cS cH a v_keptMany v_done v_rowsOf v_columnsOf v_folded v_wronged v_tapeMany v_textMany v_base v_at v_ends v_fault v_opened v_bentMany v_bentWrong v_moreWorn v_planned v_allWrong v_allWorn v_z v_wishedField v_isFound v_bestWrong v_bestWorn v_bestMany v_soughtBy v_sought v_soughtAt v_foundMany v_foundOrder v_isKept v_imageRows v_imageColumns v_imageFolded v_imageWronged v_bodies v_ran v_ownKind v_ownNumber v_limit v_changeWas v_changeIs v_shapeRows v_shapeColumns v_row v_column v_below v_face v_worn v_lastBend v_tape v_text v_names v_bends v_high v_to v_pileSize v_planLine v_planWay v_way1 v_bestWay v_order1 v_placeIn v_bodyKind v_trace v_shelf v_many v_items v_carried) (wd_X9 cI cL cS cH a v_keptMany v_done v_rowsOf v_columnsOf v_folded v_wronged v_tapeMany v_textMany v_base v_at v_ends v_fault v_opened v_bentMany v_bentWrong v_moreWorn w_planned v_allWrong v_allWorn v_z v_wishedField v_isFound v_bestWrong v_bestWorn v_bestMany v_soughtBy v_sought v_soughtAt v_foundMany v_foundOrder v_isKept v_imageRows v_imageColumns v_imageFolded v_imageWronged v_bodies v_ran v_ownKind v_ownNumber v_limit v_changeWas v_changeIs v_shapeRows v_shapeColumns v_row v_column v_below v_face v_worn v_lastBend v_tape v_text v_names v_bends v_high v_to v_pileSize w_planLine w_planWay v_way1 v_bestWay v_order1 v_placeIn v_bodyKind v_trace v_shelf v_many v_items v_carried) (some (.int r)) := by
  refine mm_of (by decide) (Nat.le_of_ble_eq_true rfl) ?_
  intro p e s m args below meth c A H locs ls C0 hP hD hA hS hl
  have C0 : mm_Cx p s m args meth c RX9 cX9_plan 3 (some .int) D (mm_T cI cL cS cH) A := C0
  obtain ⟨hx, hb, hml, hown, hts, hr, hlocks, hK, hSt⟩ := id C0
  have hl : lv_has ls 3 [(0, .ref (a 0)), (1, .int x1), (2, .int x2)] := hl
  unfold fX9_plan at hf
  refine lv_iload_n hx hb dX9_plan_0 rfl (lv_at hl 1 rfl) ?_
  refine lv_if_ne (tgt := 11) hx hb dX9_plan_1 (by decide) (fun c_1 => ?_) (fun c_1 => ?_)
  · have hf := mm_in hf c_1
    refine lv_iload_n hx hb dX9_plan_11 rfl (lv_at hl 1 rfl) ?_
    refine lv_i2l hx hb dX9_plan_12 rfl ?_
    refine lv_lconst (v := 1) hx hb dX9_plan_13 (by decide) ?_
    refine lv_ldc2 hx hb hown (hts _ kc_X9_238) dX9_plan_14 ?_
    obtain ⟨r_2, hc_3, hf⟩ := mm_bd1s hf
    refine mm_callS0 (rest := []) C0 lk_X9_111 (ctX9_within (d := d - 1) (by omega) hc_3) (by omega) rfl hl.1 rfl (mm_cat rfl) dX9_plan_17 hP hD hA hS (fun H locs hP hS => ?_)
    refine W.eq (g2 := F0 m 20 ls [.int (mm_b r_2)]) rfl ?_
    refine lv_if_eq (tgt := 35) hx hb dX9_plan_20 (by decide) (fun c_4 => ?_) (fun c_4 => ?_)
    · have hf := mm_ip hf (mm_b0 c_4)
      refine lv_iconst (v := -1) hx hb dX9_plan_35 (by decide) ?_
      apply mm_sub4 hf
      exact mm_iret C0 hP hD hS dX9_plan_36
    · have hf := mm_in hf (mm_b1 c_4)
      refine lv_iload_n hx hb dX9_plan_23 rfl (lv_at hl 2 rfl) ?_
      refine lv_i2l hx hb dX9_plan_24 rfl ?_
      refine lv_lconst (v := 0) hx hb dX9_plan_25 (by decide) ?_
      refine lv_ldc2 hx hb hown (hts _ kc_X9_238) dX9_plan_26 ?_
      obtain ⟨r_5, hc_6, hf⟩ := mm_bd1s hf
      refine mm_callS0 (rest := []) C0 lk_X9_111 (ctX9_within (d := d - 1) (by omega) hc_6) (by omega) rfl hl.1 rfl (mm_cat rfl) dX9_plan_29 hP hD hA hS (fun H locs hP hS => ?_)
      refine W.eq (g2 := F0 m 32 ls [.int (mm_b r_5)]) rfl ?_
      refine lv_if_ne (tgt := 37) hx hb dX9_plan_32 (by decide) (fun c_7 => ?_) (fun c_7 => ?_)
      · have hf := mm_in hf (mm_b1 c_7)
        refine lv_aload_n hx hb dX9_plan_37 rfl (lv_at hl 0 rfl) ?_
        refine mm_get C0 hP iw_X9 0 rfl rfl 36 (by decide) fl_X9_271 rfl dX9_plan_38 ?_
        refine lv_bipush (v := 12) hx hb dX9_plan_41 (by decide) ?_
        refine lv_icmp_ne (tgt := 49) hx hb dX9_plan_43 (by decide) (fun c_8 => ?_) (fun c_8 => ?_)
        · have hf := mm_in hf c_8
          refine lv_aload_n hx hb dX9_plan_49 rfl (lv_at hl 0 rfl) ?_
          refine mm_get C0 hP iw_X9 0 rfl rfl 34 (by decide) fl_X9_64 rfl dX9_plan_50 ?_
          refine lv_aload_n hx hb dX9_plan_53 rfl (lv_at hl 0 rfl) ?_
          refine mm_get C0 hP iw_X9 0 rfl rfl 36 (by decide) fl_X9_271 rfl dX9_plan_54 ?_
          refine lv_iload_n hx hb dX9_plan_57 rfl (lv_at hl 1 rfl) ?_
          obtain ⟨h_9, hf⟩ := mm_cks hf
          refine mm_iast C0 hP hD hS 19 rfl h_9 dX9_plan_58 (w2 := (wd_X9 cI cL cS cH a v_keptMany v_done v_rowsOf v_columnsOf v_folded v_wronged v_tapeMany v_textMany v_base v_at v_ends v_fault v_opened v_bentMany v_bentWrong v_moreWorn v_planned v_allWrong v_allWorn v_z v_wishedField v_isFound v_bestWrong v_bestWorn v_bestMany v_soughtBy v_sought v_soughtAt v_foundMany v_foundOrder v_isKept v_imageRows v_imageColumns v_imageFolded v_imageWronged v_bodies v_ran v_ownKind v_ownNumber v_limit v_changeWas v_changeIs v_shapeRows v_shapeColumns v_row v_column v_below v_face v_worn v_lastBend v_tape v_text v_names v_bends v_high v_to v_pileSize (mm_is v_planLine v_planned x1) v_planWay v_way1 v_bestWay v_order1 v_placeIn v_bodyKind v_trace v_shelf v_many v_items v_carried)) rfl (fun H locs hP hD hS => ?_)
          generalize el_10 : (mm_is v_planLine v_planned x1) = l_10 at hP hD
          have hf := mm_nms hf el_10.symm
          refine lv_aload_n hx hb dX9_plan_59 rfl (lv_at hl 0 rfl) ?_
          refine mm_get C0 hP iw_X9 0 rfl rfl 35 (by decide) fl_X9_67 rfl dX9_plan_60 ?_
          refine lv_aload_n hx hb dX9_plan_63 rfl (lv_at hl 0 rfl) ?_
          refine mm_get C0 hP iw_X9 0 rfl rfl 36 (by decide) fl_X9_271 rfl dX9_plan_64 ?_
          refine lv_iload_n hx hb dX9_plan_67 rfl (lv_at hl 2 rfl) ?_
          obtain ⟨h_11, hf⟩ := mm_cks hf
          refine mm_iast C0 hP hD hS 20 rfl h_11 dX9_plan_68 (w2 := (wd_X9 cI cL cS cH a v_keptMany v_done v_rowsOf v_columnsOf v_folded v_wronged v_tapeMany v_textMany v_base v_at v_ends v_fault v_opened v_bentMany v_bentWrong v_moreWorn v_planned v_allWrong v_allWorn v_z v_wishedField v_isFound v_bestWrong v_bestWorn v_bestMany v_soughtBy v_sought v_soughtAt v_foundMany v_foundOrder v_isKept v_imageRows v_imageColumns v_imageFolded v_imageWronged v_bodies v_ran v_ownKind v_ownNumber v_limit v_changeWas v_changeIs v_shapeRows v_shapeColumns v_row v_column v_below v_face v_worn v_lastBend v_tape v_text v_names v_bends v_high v_to v_pileSize l_10 (mm_is v_planWay v_planned x2) v_way1 v_bestWay v_order1 v_placeIn v_bodyKind v_trace v_shelf v_many v_items v_carried)) rfl (fun H locs hP hD hS => ?_)
          generalize el_12 : (mm_is v_planWay v_planned x2) = l_12 at hP hD
          have hf := mm_nms hf el_12.symm
          refine lv_aload_n hx hb dX9_plan_69 rfl (lv_at hl 0 rfl) ?_
          refine lv_dup hx hb dX9_plan_70 rfl ?_
          refine mm_get C0 hP iw_X9 0 rfl rfl 36 (by decide) fl_X9_271 rfl dX9_plan_71 ?_
          refine lv_iconst (v := 1) hx hb dX9_plan_74 (by decide) ?_
          refine lv_iadd hx hb dX9_plan_75 ?_
          refine lv_topi (fun y_13 ey_13 => ?_)
          have hf := mm_nms hf ey_13
          refine mm_put C0 hP hD hS iw_X9 tyX9 tyX9_ok nmX9 0 rfl rfl 36 (by decide) fl_X9_271 rfl rfl rfl (Nat.le_of_ble_eq_true rfl) dX9_plan_76 (w2 := (wd_X9 cI cL cS cH a v_keptMany v_done v_rowsOf v_columnsOf v_folded v_wronged v_tapeMany v_textMany v_base v_at v_ends v_fault v_opened v_bentMany v_bentWrong v_moreWorn y_13 v_allWrong v_allWorn v_z v_wishedField v_isFound v_bestWrong v_bestWorn v_bestMany v_soughtBy v_sought v_soughtAt v_foundMany v_foundOrder v_isKept v_imageRows v_imageColumns v_imageFolded v_imageWronged v_bodies v_ran v_ownKind v_ownNumber v_limit v_changeWas v_changeIs v_shapeRows v_shapeColumns v_row v_column v_below v_face v_worn v_lastBend v_tape v_text v_names v_bends v_high v_to v_pileSize l_10 l_12 v_way1 v_bestWay v_order1 v_placeIn v_bodyKind v_trace v_shelf v_many v_items v_carried)) rfl (fun H locs hP hD hS => ?_)
          refine lv_aload_n hx hb dX9_plan_79 rfl (lv_at hl 0 rfl) ?_
          refine mm_get C0 hP iw_X9 0 rfl rfl 36 (by decide) fl_X9_271 rfl dX9_plan_80 ?_
          apply mm_sub4 hf
          exact mm_iret C0 hP hD hS dX9_plan_83
        · have hf := mm_ip hf c_8
          refine lv_bipush (v := -3) hx hb dX9_plan_46 (by decide) ?_
          apply mm_sub4 hf
          exact mm_iret C0 hP hD hS dX9_plan_48
      · have hf := mm_ip hf (mm_b0 c_7)
        refine lv_iconst (v := -1) hx hb dX9_plan_35 (by decide) ?_
        apply mm_sub4 hf
        exact mm_iret C0 hP hD hS dX9_plan_36
  · have hf := mm_ip hf c_1
    refine lv_aload_n hx hb dX9_plan_4 rfl (lv_at hl 0 rfl) ?_
    refine lv_iconst (v := 0) hx hb dX9_plan_5 (by decide) ?_
    refine mm_put C0 hP hD hS iw_X9 tyX9 tyX9_ok nmX9 0 rfl rfl 36 (by decide) fl_X9_271 rfl rfl rfl (Nat.le_of_ble_eq_true rfl) dX9_plan_6 (w2 := (wd_X9 cI cL cS cH a v_keptMany v_done v_rowsOf v_columnsOf v_folded v_wronged v_tapeMany v_textMany v_base v_at v_ends v_fault v_opened v_bentMany v_bentWrong v_moreWorn (0 : Int32) v_allWrong v_allWorn v_z v_wishedField v_isFound v_bestWrong v_bestWorn v_bestMany v_soughtBy v_sought v_soughtAt v_foundMany v_foundOrder v_isKept v_imageRows v_imageColumns v_imageFolded v_imageWronged v_bodies v_ran v_ownKind v_ownNumber v_limit v_changeWas v_changeIs v_shapeRows v_shapeColumns v_row v_column v_below v_face v_worn v_lastBend v_tape v_text v_names v_bends v_high v_to v_pileSize v_planLine v_planWay v_way1 v_bestWay v_order1 v_placeIn v_bodyKind v_trace v_shelf v_many v_items v_carried)) rfl (fun H locs hP hD hS => ?_)
    refine lv_iconst (v := 0) hx hb dX9_plan_9 (by decide) ?_
    apply mm_sub4 hf
    exact mm_iret C0 hP hD hS dX9_plan_10

theorem dX9_isShelf_0 : decode cX9_isShelf 0 = .ok (.iload_n 0, 1) := by decide +kernel
theorem dX9_isShelf_1 : decode cX9_isShelf 1 = .ok (.i2l, 1) := by decide +kernel
theorem dX9_isShelf_2 : decode cX9_isShelf 2 = .ok (.lconst 0, 1) := by decide +kernel
theorem dX9_isShelf_3 : decode cX9_isShelf 3 = .ok (.ldc2_w 425, 3) := by decide +kernel
theorem dX9_isShelf_6 : decode cX9_isShelf 6 = .ok (.invokestatic 111, 3) := by decide +kernel
theorem dX9_isShelf_9 : decode cX9_isShelf 9 = .ok (.ireturn, 1) := by decide +kernel
def fX9_isShelf (N : Nat) (x0 : Int32) : Option (Bool) :=
    mm_bd1 (fX9_within N ((x0).toInt64) (0 : Int64) (5 : Int64)) (fun (r_1 : Bool) =>
    some (r_1))

set_option maxHeartbeats 4000000 in
set_option maxRecDepth 100000 in
theorem ctX9_isShelf {l : Launch} {D : va_G} {cI cL cS cH : ClassId} {x0 : Int32}  {r : Bool} {N d : Nat} (hd : 2 ≤ d) (hf : fX9_isShelf N x0 = some r) : mm_Ct l yX9_isShelf cX9_isShelf 1 (some .boolean) d D (mm_T cI cL cS cH) [.int x0] ([] : va_W) ([] : va_W) (some (.int (mm_b r))) := by
  refine mm_of (by decide) (Nat.le_of_ble_eq_true rfl) ?_
  intro p e s m args below meth c A H locs ls C0 hP hD hA hS hl
  have C0 : mm_Cx p s m args meth c RX9 cX9_isShelf 1 (some .boolean) D (mm_T cI cL cS cH) A := C0
  obtain ⟨hx, hb, hml, hown, hts, hr, hlocks, hK, hSt⟩ := id C0
  have hl : lv_has ls 1 [(0, .int x0)] := hl
  unfold fX9_isShelf at hf
  refine lv_iload_n hx hb dX9_isShelf_0 rfl (lv_at hl 0 rfl) ?_
  refine lv_i2l hx hb dX9_isShelf_1 rfl ?_
  refine lv_lconst (v := 0) hx hb dX9_isShelf_2 (by decide) ?_
  refine lv_ldc2 hx hb hown (hts _ kc_X9_425) dX9_isShelf_3 ?_
  obtain ⟨r_1, hc_2, hf⟩ := mm_bd1s hf
  refine mm_callS0 (rest := []) C0 lk_X9_111 (ctX9_within (d := d - 1) (by omega) hc_2) (by omega) rfl hl.1 rfl (mm_cat rfl) dX9_isShelf_6 hP hD hA hS (fun H locs hP hS => ?_)
  refine W.eq (g2 := F0 m 9 ls [.int (mm_b r_1)]) rfl ?_
  obtain rfl := mm_inj1 hf
  exact mm_zret C0 hP hD hS dX9_isShelf_9 rfl

