/-! reference: X9_wished, X9_right, X9_wind, X9_isStrip, X9_isOrder, X9_isInside, X9_areCrossed -/
theorem dX9_wished_0 : decode cX9_wished 0 = .ok (.aload_n 0, 1) := by decide +kernel
theorem dX9_wished_1 : decode cX9_wished 1 = .ok (.iload_n 1, 1) := by decide +kernel
theorem dX9_wished_2 : decode cX9_wished 2 = .ok (.invokevirtual 249, 3) := by decide +kernel
theorem dX9_wished_5 : decode cX9_wished 5 = .ok (.ifCond .eq 8, 3) := by decide +kernel
theorem dX9_wished_8 : decode cX9_wished 8 = .ok (.iload_n 2, 1) := by decide +kernel
theorem dX9_wished_9 : decode cX9_wished 9 = .ok (.iconst (-1), 1) := by decide +kernel
theorem dX9_wished_10 : decode cX9_wished 10 = .ok (.if_icmp .ge 5, 3) := by decide +kernel
theorem dX9_wished_13 : decode cX9_wished 13 = .ok (.iconst (-1), 1) := by decide +kernel
theorem dX9_wished_14 : decode cX9_wished 14 = .ok (.ireturn, 1) := by decide +kernel
theorem dX9_wished_15 : decode cX9_wished 15 = .ok (.aload_n 0, 1) := by decide +kernel
theorem dX9_wished_16 : decode cX9_wished 16 = .ok (.invokevirtual 127, 3) := by decide +kernel
theorem dX9_wished_19 : decode cX9_wished 19 = .ok (.bipush 16, 2) := by decide +kernel
theorem dX9_wished_21 : decode cX9_wished 21 = .ok (.if_icmp .le 6, 3) := by decide +kernel
theorem dX9_wished_24 : decode cX9_wished 24 = .ok (.bipush (-5), 2) := by decide +kernel
theorem dX9_wished_26 : decode cX9_wished 26 = .ok (.ireturn, 1) := by decide +kernel
theorem dX9_wished_27 : decode cX9_wished 27 = .ok (.aload_n 0, 1) := by decide +kernel
theorem dX9_wished_28 : decode cX9_wished 28 = .ok (.iload_n 1, 1) := by decide +kernel
theorem dX9_wished_29 : decode cX9_wished 29 = .ok (.invokevirtual 332, 3) := by decide +kernel
theorem dX9_wished_32 : decode cX9_wished 32 = .ok (.aload_n 0, 1) := by decide +kernel
theorem dX9_wished_33 : decode cX9_wished 33 = .ok (.getfield 307, 3) := by decide +kernel
theorem dX9_wished_36 : decode cX9_wished 36 = .ok (.ifCond .ne 6, 3) := by decide +kernel
theorem dX9_wished_39 : decode cX9_wished 39 = .ok (.bipush (-2), 2) := by decide +kernel
theorem dX9_wished_41 : decode cX9_wished 41 = .ok (.ireturn, 1) := by decide +kernel
theorem dX9_wished_42 : decode cX9_wished 42 = .ok (.iload_n 2, 1) := by decide +kernel
theorem dX9_wished_43 : decode cX9_wished 43 = .ok (.iconst (-1), 1) := by decide +kernel
theorem dX9_wished_44 : decode cX9_wished 44 = .ok (.if_icmp .ne 10, 3) := by decide +kernel
theorem dX9_wished_47 : decode cX9_wished 47 = .ok (.aload_n 0, 1) := by decide +kernel
theorem dX9_wished_48 : decode cX9_wished 48 = .ok (.getfield 311, 3) := by decide +kernel
theorem dX9_wished_51 : decode cX9_wished 51 = .ok (.goto 21, 3) := by decide +kernel
theorem dX9_wished_54 : decode cX9_wished 54 = .ok (.iload_n 2, 1) := by decide +kernel
theorem dX9_wished_55 : decode cX9_wished 55 = .ok (.aload_n 0, 1) := by decide +kernel
theorem dX9_wished_56 : decode cX9_wished 56 = .ok (.getfield 311, 3) := by decide +kernel
theorem dX9_wished_59 : decode cX9_wished 59 = .ok (.if_icmp .ge 12, 3) := by decide +kernel
theorem dX9_wished_62 : decode cX9_wished 62 = .ok (.aload_n 0, 1) := by decide +kernel
theorem dX9_wished_63 : decode cX9_wished 63 = .ok (.getfield 73, 3) := by decide +kernel
theorem dX9_wished_66 : decode cX9_wished 66 = .ok (.iload_n 2, 1) := by decide +kernel
theorem dX9_wished_67 : decode cX9_wished 67 = .ok (.iaload, 1) := by decide +kernel
theorem dX9_wished_68 : decode cX9_wished 68 = .ok (.goto 4, 3) := by decide +kernel
theorem dX9_wished_71 : decode cX9_wished 71 = .ok (.iconst (-1), 1) := by decide +kernel
theorem dX9_wished_72 : decode cX9_wished 72 = .ok (.ireturn, 1) := by decide +kernel
def fX9_wished (N : Nat) (x1 : Int32) (x2 : Int32) (v_rowsOf : Int32) (v_columnsOf : Int32) (v_textMany : Int32) (v_base : Int32) (v_at : Int32) (v_ends : Int32) (v_fault : Int32) (v_opened : Int32) (v_bentMany : Int32) (v_bentWrong : Int32) (v_moreWorn : Int32) (v_wishedField : Int32) (v_isFound : Bool) (v_bestWrong : Int32) (v_bestWorn : Int32) (v_bestMany : Int32) (v_limit : List Int32) (v_shapeRows : List Int32) (v_shapeColumns : List Int32) (v_row : List Int32) (v_column : List Int32) (v_below : List Int32) (v_face : List Int32) (v_worn : List Int32) (v_lastBend : List Int32) (v_tape : List Int32) (v_text : List Int32) (v_names : List Int32) (v_bends : List Int32) (v_high : List Int32) (v_to : List Int32) (v_pileSize : List Int32) (v_way1 : List Int32) (v_bestWay : List Int32) : Option (Int32 × Int32 × Int32 × Int32 × Int32 × Int32 × Int32 × Int32 × Int32 × Int32 × Bool × Int32 × Int32 × Int32 × List Int32 × List Int32 × List Int32 × List Int32 × List Int32 × List Int32 × List Int32 × List Int32 × List Int32 × List Int32 × List Int32 × List Int32 × List Int32 × List Int32 × List Int32) :=
    mm_bd1 (fX9_isField N x1 v_rowsOf v_columnsOf) (fun (r_1 : Bool) =>
    if r_1 = false then
    (some ((-1 : Int32), v_base, v_at, v_ends, v_fault, v_opened, v_bentMany, v_bentWrong, v_moreWorn, v_wishedField, v_isFound, v_bestWrong, v_bestWorn, v_bestMany, v_shapeRows, v_shapeColumns, v_row, v_column, v_below, v_face, v_worn, v_lastBend, v_names, v_bends, v_high, v_to, v_pileSize, v_way1, v_bestWay))
    else (if (-1 : Int32) ≤ x2 then
    (mm_bd1 (fX9_fields N v_rowsOf v_columnsOf) (fun (r_5 : Int32) =>
    if r_5 ≤ (16 : Int32) then
    (mm_bd28 (fX9_searches N x1 v_rowsOf v_columnsOf v_textMany v_base v_at v_ends v_fault v_opened v_bentMany v_bentWrong v_moreWorn v_wishedField v_isFound v_bestWrong v_bestWorn v_bestMany v_limit v_shapeRows v_shapeColumns v_row v_column v_below v_face v_worn v_lastBend v_tape v_text v_names v_bends v_high v_to v_pileSize v_way1 v_bestWay) (fun (w_8 : Int32) (w_9 : Int32) (w_10 : Int32) (w_11 : Int32) (w_12 : Int32) (w_13 : Int32) (w_14 : Int32) (w_15 : Int32) (w_16 : Int32) (w_17 : Bool) (w_18 : Int32) (w_19 : Int32) (w_20 : Int32) (w_21 : List Int32) (w_22 : List Int32) (w_23 : List Int32) (w_24 : List Int32) (w_25 : List Int32) (w_26 : List Int32) (w_27 : List Int32) (w_28 : List Int32) (w_29 : List Int32) (w_30 : List Int32) (w_31 : List Int32) (w_32 : List Int32) (w_33 : List Int32) (w_34 : List Int32) (w_35 : List Int32) =>
    if w_17 = false then
    (some ((-2 : Int32), w_8, w_9, w_10, w_11, w_12, w_13, w_14, w_15, w_16, w_17, w_18, w_19, w_20, w_21, w_22, w_23, w_24, w_25, w_26, w_27, w_28, w_29, w_30, w_31, w_32, w_33, w_34, w_35))
    else (if x2 = (-1 : Int32) then
    (some (w_20, w_8, w_9, w_10, w_11, w_12, w_13, w_14, w_15, w_16, w_17, w_18, w_19, w_20, w_21, w_22, w_23, w_24, w_25, w_26, w_27, w_28, w_29, w_30, w_31, w_32, w_33, w_34, w_35))
    else (if w_20 ≤ x2 then
    (some ((-1 : Int32), w_8, w_9, w_10, w_11, w_12, w_13, w_14, w_15, w_16, w_17, w_18, w_19, w_20, w_21, w_22, w_23, w_24, w_25, w_26, w_27, w_28, w_29, w_30, w_31, w_32, w_33, w_34, w_35))
    else (mm_ck (mm_inb x2 w_35.length) (some ((mm_ig w_35 x2), w_8, w_9, w_10, w_11, w_12, w_13, w_14, w_15, w_16, w_17, w_18, w_19, w_20, w_21, w_22, w_23, w_24, w_25, w_26, w_27, w_28, w_29, w_30, w_31, w_32, w_33, w_34, w_35)))))))
    else (some ((-5 : Int32), v_base, v_at, v_ends, v_fault, v_opened, v_bentMany, v_bentWrong, v_moreWorn, v_wishedField, v_isFound, v_bestWrong, v_bestWorn, v_bestMany, v_shapeRows, v_shapeColumns, v_row, v_column, v_below, v_face, v_worn, v_lastBend, v_names, v_bends, v_high, v_to, v_pileSize, v_way1, v_bestWay))))
    else (some ((-1 : Int32), v_base, v_at, v_ends, v_fault, v_opened, v_bentMany, v_bentWrong, v_moreWorn, v_wishedField, v_isFound, v_bestWrong, v_bestWorn, v_bestMany, v_shapeRows, v_shapeColumns, v_row, v_column, v_below, v_face, v_worn, v_lastBend, v_names, v_bends, v_high, v_to, v_pileSize, v_way1, v_bestWay))))

set_option maxHeartbeats 4000000 in
set_option maxRecDepth 100000 in
theorem ctX9_wished {l : Launch} {D : va_G} {cI cL cS cH : ClassId} {a : Nat → Nat} {x1 : Int32} {x2 : Int32} {v_keptMany : Int32} {v_done : Int32} {v_rowsOf : Int32} {v_columnsOf : Int32} {v_folded : Int32} {v_wronged : Int32} {v_tapeMany : Int32} {v_textMany : Int32} {v_base : Int32} {v_at : Int32} {v_ends : Int32} {v_fault : Int32} {v_opened : Int32} {v_bentMany : Int32} {v_bentWrong : Int32} {v_moreWorn : Int32} {v_planned : Int32} {v_allWrong : Int32} {v_allWorn : Int32} {v_z : Int32} {v_wishedField : Int32} {v_isFound : Bool} {v_bestWrong : Int32} {v_bestWorn : Int32} {v_bestMany : Int32} {v_soughtBy : Int32} {v_sought : Int32} {v_soughtAt : Int32} {v_foundMany : Int32} {v_foundOrder : Int32} {v_isKept : Bool} {v_imageRows : Int32} {v_imageColumns : Int32} {v_imageFolded : Int32} {v_imageWronged : Int32} {v_bodies : Int32} {v_ran : Int32} {v_ownKind : Int32} {v_ownNumber : Int32} {v_limit : List Int32} {v_changeWas : List Int32} {v_changeIs : List Int32} {v_shapeRows : List Int32} {v_shapeColumns : List Int32} {v_row : List Int32} {v_column : List Int32} {v_below : List Int32} {v_face : List Int32} {v_worn : List Int32} {v_lastBend : List Int32} {v_tape : List Int32} {v_text : List Int32} {v_names : List Int32} {v_bends : List Int32} {v_high : List Int32} {v_to : List Int32} {v_pileSize : List Int32} {v_planLine : List Int32} {v_planWay : List Int32} {v_way1 : List Int32} {v_bestWay : List Int32} {v_order1 : List Int32} {v_placeIn : List Int32} {v_bodyKind : List Int32} {v_trace : List Int32} {v_shelf : List Int32} {v_many : List Int32} {v_items : List Int64} {v_carried : List Int64} {r : Int32} {w_base : Int32} {w_at : Int32} {w_ends : Int32} {w_fault : Int32} {w_opened : Int32} {w_bentMany : Int32} {w_bentWrong : Int32} {w_moreWorn : Int32} {w_wishedField : Int32} {w_isFound : Bool} {w_bestWrong : Int32} {w_bestWorn : Int32} {w_bestMany : Int32} {w_shapeRows : List Int32} {w_shapeColumns : List Int32} {w_row : List Int32} {w_column : List Int32} {w_below : List Int32} {w_face : List Int32} {w_worn : List Int32} {w_lastBend : List Int32} {w_names : List Int32} {w_bends : List Int32} {w_high : List Int32} {w_to : List Int32} {w_pileSize : List Int32} {w_way1 : List Int32} {w_bestWay : List Int32} {N d : Nat} (hd : 66 ≤ d) (hf : fX9_wished N x1 x2 v_rowsOf v_columnsOf v_textMany v_base v_at v_ends v_fault v_opened v_bentMany v_bentWrong v_moreWorn v_wishedField v_isFound v_bestWrong v_bestWorn v_bestMany v_limit v_shapeRows v_shapeColumns v_row v_column v_below v_face v_worn v_lastBend v_tape v_text v_names v_bends v_high v_to v_pileSize v_way1 v_bestWay = some (r, w_base, w_at, w_ends, w_fault, w_opened, w_bentMany, w_bentWrong, w_moreWorn, w_wishedField, w_isFound, w_bestWrong, w_bestWorn, w_bestMany, w_shapeRows, w_shapeColumns, w_row, w_column, w_below, w_face, w_worn, w_lastBend, w_names, w_bends, w_high, w_to, w_pileSize, w_way1, w_bestWay)) : mm_Ct l yX9_wished cX9_wished 3 (some .int) d D (mm_T cI cL cS cH) [.ref (a 0), .int x1, .int x2] (wd_X9 cI cL cS cH a v_keptMany v_done v_rowsOf v_columnsOf v_folded v_wronged v_tapeMany v_textMany v_base v_at v_ends v_fault v_opened v_bentMany v_bentWrong v_moreWorn v_planned v_allWrong v_allWorn v_z v_wishedField v_isFound v_bestWrong v_bestWorn v_bestMany v_soughtBy v_sought v_soughtAt v_foundMany v_foundOrder v_isKept v_imageRows v_imageColumns v_imageFolded v_imageWronged v_bodies v_ran v_ownKind v_ownNumber v_limit v_changeWas v_changeIs v_shapeRows v_shapeColumns v_row v_column v_below v_face v_worn v_lastBend v_tape v_text v_names v_bends v_high v_to v_pileSize v_planLine v_planWay v_way1 v_bestWay v_order1 v_placeIn v_bodyKind v_trace v_shelf v_many v_items v_carried) (wd_X9 cI cL cS cH a v_keptMany v_done v_rowsOf v_columnsOf v_folded v_wronged v_tapeMany v_textMany w_base w_at w_ends w_fault w_opened w_bentMany w_bentWrong w_moreWorn v_planned v_allWrong v_allWorn v_z w_wishedField w_isFound w_bestWrong w_bestWorn w_bestMany v_soughtBy v_sought v_soughtAt v_foundMany v_foundOrder v_isKept v_imageRows v_imageColumns v_imageFolded v_imageWronged v_bodies v_ran v_ownKind v_ownNumber v_limit v_changeWas v_changeIs w_shapeRows w_shapeColumns w_row w_column w_below w_face w_worn w_lastBend v_tape v_text w_names w_bends w_high w_to w_pileSize v_planLine v_planWay w_way1 w_bestWay v_order1 v_placeIn v_bodyKind v_trace v_shelf v_many v_items v_carried) (some (.int r)) := by
  refine mm_of (by decide) (Nat.le_of_ble_eq_true rfl) ?_
  intro p e s m args below meth c A H locs ls C0 hP hD hA hS hl
  have C0 : mm_Cx p s m args meth c RX9 cX9_wished 3 (some .int) D (mm_T cI cL cS cH) A := C0
  obtain ⟨hx, hb, hml, hown, hts, hr, hlocks, hK, hSt⟩ := id C0
  have hl : lv_has ls 3 [(0, .ref (a 0)), (1, .int x1), (2, .int x2)] := hl
  unfold fX9_wished at hf
  refine lv_aload_n hx hb dX9_wished_0 rfl (lv_at hl 0 rfl) ?_
  refine lv_iload_n hx hb dX9_wished_1 rfl (lv_at hl 1 rfl) ?_
  obtain ⟨r_1, hc_2, hf⟩ := mm_bd1s hf
  refine mm_callVF (q0 := 0) (ci := 9) (rest := []) C0 lk_X9_249 (ctX9_isField (a := a) (d := d - 1) (by omega) hc_2) (by omega) rfl hl.1 rfl (mm_cat rfl) dX9_wished_2 hP hD hA hS rfl rfl (fun H locs hP hD hS => ?_)
  refine W.eq (g2 := F0 m 5 ls [.int (mm_b r_1)]) rfl ?_
  refine lv_if_eq (tgt := 13) hx hb dX9_wished_5 (by decide) (fun c_3 => ?_) (fun c_3 => ?_)
  · have hf := mm_ip hf (mm_b0 c_3)
    refine lv_iconst (v := -1) hx hb dX9_wished_13 (by decide) ?_
    apply mm_sub29 hf
    exact mm_iret C0 hP hD hS dX9_wished_14
  · have hf := mm_in hf (mm_b1 c_3)
    refine lv_iload_n hx hb dX9_wished_8 rfl (lv_at hl 2 rfl) ?_
    refine lv_iconst (v := -1) hx hb dX9_wished_9 (by decide) ?_
    refine lv_icmp_ge (tgt := 15) hx hb dX9_wished_10 (by decide) (fun c_4 => ?_) (fun c_4 => ?_)
    · have hf := mm_ip hf c_4
      refine lv_aload_n hx hb dX9_wished_15 rfl (lv_at hl 0 rfl) ?_
      obtain ⟨r_5, hc_6, hf⟩ := mm_bd1s hf
      refine mm_callVF (q0 := 0) (ci := 9) (rest := []) C0 lk_X9_127 (ctX9_fields (a := a) (d := d - 1) (by omega) hc_6) (by omega) rfl hl.1 rfl (mm_cat rfl) dX9_wished_16 hP hD hA hS rfl rfl (fun H locs hP hD hS => ?_)
      refine W.eq (g2 := F0 m 19 ls [.int r_5]) rfl ?_
      refine lv_bipush (v := 16) hx hb dX9_wished_19 (by decide) ?_
      refine lv_icmp_le (tgt := 27) hx hb dX9_wished_21 (by decide) (fun c_7 => ?_) (fun c_7 => ?_)
      · have hf := mm_ip hf c_7
        refine lv_aload_n hx hb dX9_wished_27 rfl (lv_at hl 0 rfl) ?_
        refine lv_iload_n hx hb dX9_wished_28 rfl (lv_at hl 1 rfl) ?_
        refine mm_ct28 hf (fun w_8 w_9 w_10 w_11 w_12 w_13 w_14 w_15 w_16 w_17 w_18 w_19 w_20 w_21 w_22 w_23 w_24 w_25 w_26 w_27 w_28 w_29 w_30 w_31 w_32 w_33 w_34 w_35 hc_36 hf => ?_)
        refine mm_callVF (q0 := 0) (ci := 9) (rest := []) C0 lk_X9_332 (ctX9_searches (a := a) (d := d - 1) (by omega) hc_36) (by omega) rfl hl.1 rfl (mm_cat rfl) dX9_wished_29 hP hD hA hS rfl rfl (fun H locs hP hD hS => ?_)
        refine W.eq (g2 := F0 m 32 ls []) rfl ?_
        refine lv_aload_n hx hb dX9_wished_32 rfl (lv_at hl 0 rfl) ?_
        refine mm_get C0 hP iw_X9 0 rfl rfl 43 (by decide) fl_X9_307 rfl dX9_wished_33 ?_
        refine lv_if_ne (tgt := 42) hx hb dX9_wished_36 (by decide) (fun c_37 => ?_) (fun c_37 => ?_)
        · have hf := mm_in hf (mm_b1 c_37)
          refine lv_iload_n hx hb dX9_wished_42 rfl (lv_at hl 2 rfl) ?_
          refine lv_iconst (v := -1) hx hb dX9_wished_43 (by decide) ?_
          refine lv_icmp_ne (tgt := 54) hx hb dX9_wished_44 (by decide) (fun c_38 => ?_) (fun c_38 => ?_)
          · have hf := mm_in hf c_38
            refine lv_iload_n hx hb dX9_wished_54 rfl (lv_at hl 2 rfl) ?_
            refine lv_aload_n hx hb dX9_wished_55 rfl (lv_at hl 0 rfl) ?_
            refine mm_get C0 hP iw_X9 0 rfl rfl 46 (by decide) fl_X9_311 rfl dX9_wished_56 ?_
            refine lv_icmp_ge (tgt := 71) hx hb dX9_wished_59 (by decide) (fun c_39 => ?_) (fun c_39 => ?_)
            · have hf := mm_ip hf c_39
              refine lv_iconst (v := -1) hx hb dX9_wished_71 (by decide) ?_
              apply mm_sub29 hf
              exact mm_iret C0 hP hD hS dX9_wished_72
            · have hf := mm_in hf c_39
              refine lv_aload_n hx hb dX9_wished_62 rfl (lv_at hl 0 rfl) ?_
              refine mm_get C0 hP iw_X9 0 rfl rfl 42 (by decide) fl_X9_73 rfl dX9_wished_63 ?_
              refine lv_iload_n hx hb dX9_wished_66 rfl (lv_at hl 2 rfl) ?_
              obtain ⟨h_40, hf⟩ := mm_cks hf
              refine mm_iald C0 hP 22 rfl h_40 dX9_wished_67 ?_
              refine lv_goto (tgt := 72) hx hb dX9_wished_68 (by decide) ?_
              apply mm_sub29 hf
              exact mm_iret C0 hP hD hS dX9_wished_72
          · have hf := mm_ip hf c_38
            refine lv_aload_n hx hb dX9_wished_47 rfl (lv_at hl 0 rfl) ?_
            refine mm_get C0 hP iw_X9 0 rfl rfl 46 (by decide) fl_X9_311 rfl dX9_wished_48 ?_
            refine lv_goto (tgt := 72) hx hb dX9_wished_51 (by decide) ?_
            apply mm_sub29 hf
            exact mm_iret C0 hP hD hS dX9_wished_72
        · have hf := mm_ip hf (mm_b0 c_37)
          refine lv_bipush (v := -2) hx hb dX9_wished_39 (by decide) ?_
          apply mm_sub29 hf
          exact mm_iret C0 hP hD hS dX9_wished_41
      · have hf := mm_in hf c_7
        refine lv_bipush (v := -5) hx hb dX9_wished_24 (by decide) ?_
        apply mm_sub29 hf
        exact mm_iret C0 hP hD hS dX9_wished_26
    · have hf := mm_in hf c_4
      refine lv_iconst (v := -1) hx hb dX9_wished_13 (by decide) ?_
      apply mm_sub29 hf
      exact mm_iret C0 hP hD hS dX9_wished_14

theorem dX9_right_0 : decode cX9_right 0 = .ok (.iload_n 1, 1) := by decide +kernel
theorem dX9_right_1 : decode cX9_right 1 = .ok (.bipush (-3), 2) := by decide +kernel
theorem dX9_right_3 : decode cX9_right 3 = .ok (.if_icmp .ge 5, 3) := by decide +kernel
theorem dX9_right_6 : decode cX9_right 6 = .ok (.iconst (-1), 1) := by decide +kernel
theorem dX9_right_7 : decode cX9_right 7 = .ok (.ireturn, 1) := by decide +kernel
theorem dX9_right_8 : decode cX9_right 8 = .ok (.aload_n 0, 1) := by decide +kernel
theorem dX9_right_9 : decode cX9_right 9 = .ok (.invokevirtual 127, 3) := by decide +kernel
theorem dX9_right_12 : decode cX9_right 12 = .ok (.bipush 16, 2) := by decide +kernel
theorem dX9_right_14 : decode cX9_right 14 = .ok (.if_icmp .le 6, 3) := by decide +kernel
theorem dX9_right_17 : decode cX9_right 17 = .ok (.bipush (-5), 2) := by decide +kernel
theorem dX9_right_19 : decode cX9_right 19 = .ok (.ireturn, 1) := by decide +kernel
theorem dX9_right_20 : decode cX9_right 20 = .ok (.aload_n 0, 1) := by decide +kernel
theorem dX9_right_21 : decode cX9_right 21 = .ok (.iconst (-1), 1) := by decide +kernel
theorem dX9_right_22 : decode cX9_right 22 = .ok (.invokevirtual 332, 3) := by decide +kernel
theorem dX9_right_25 : decode cX9_right 25 = .ok (.aload_n 0, 1) := by decide +kernel
theorem dX9_right_26 : decode cX9_right 26 = .ok (.getfield 307, 3) := by decide +kernel
theorem dX9_right_29 : decode cX9_right 29 = .ok (.ifCond .ne 6, 3) := by decide +kernel
theorem dX9_right_32 : decode cX9_right 32 = .ok (.bipush (-2), 2) := by decide +kernel
theorem dX9_right_34 : decode cX9_right 34 = .ok (.ireturn, 1) := by decide +kernel
theorem dX9_right_35 : decode cX9_right 35 = .ok (.iload_n 1, 1) := by decide +kernel
theorem dX9_right_36 : decode cX9_right 36 = .ok (.tableswitch 43 (-3) (-1) #[38, 33, 28], 28) := by decide +kernel
theorem dX9_right_64 : decode cX9_right 64 = .ok (.aload_n 0, 1) := by decide +kernel
theorem dX9_right_65 : decode cX9_right 65 = .ok (.getfield 314, 3) := by decide +kernel
theorem dX9_right_68 : decode cX9_right 68 = .ok (.ireturn, 1) := by decide +kernel
theorem dX9_right_69 : decode cX9_right 69 = .ok (.aload_n 0, 1) := by decide +kernel
theorem dX9_right_70 : decode cX9_right 70 = .ok (.getfield 317, 3) := by decide +kernel
theorem dX9_right_73 : decode cX9_right 73 = .ok (.ireturn, 1) := by decide +kernel
theorem dX9_right_74 : decode cX9_right 74 = .ok (.aload_n 0, 1) := by decide +kernel
theorem dX9_right_75 : decode cX9_right 75 = .ok (.getfield 311, 3) := by decide +kernel
theorem dX9_right_78 : decode cX9_right 78 = .ok (.ireturn, 1) := by decide +kernel
theorem dX9_right_79 : decode cX9_right 79 = .ok (.iload_n 1, 1) := by decide +kernel
theorem dX9_right_80 : decode cX9_right 80 = .ok (.aload_n 0, 1) := by decide +kernel
theorem dX9_right_81 : decode cX9_right 81 = .ok (.getfield 311, 3) := by decide +kernel
theorem dX9_right_84 : decode cX9_right 84 = .ok (.if_icmp .ge 12, 3) := by decide +kernel
theorem dX9_right_87 : decode cX9_right 87 = .ok (.aload_n 0, 1) := by decide +kernel
theorem dX9_right_88 : decode cX9_right 88 = .ok (.getfield 73, 3) := by decide +kernel
theorem dX9_right_91 : decode cX9_right 91 = .ok (.iload_n 1, 1) := by decide +kernel
theorem dX9_right_92 : decode cX9_right 92 = .ok (.iaload, 1) := by decide +kernel
theorem dX9_right_93 : decode cX9_right 93 = .ok (.goto 4, 3) := by decide +kernel
theorem dX9_right_96 : decode cX9_right 96 = .ok (.iconst (-1), 1) := by decide +kernel
theorem dX9_right_97 : decode cX9_right 97 = .ok (.ireturn, 1) := by decide +kernel
def fX9_right (N : Nat) (x1 : Int32) (v_rowsOf : Int32) (v_columnsOf : Int32) (v_textMany : Int32) (v_base : Int32) (v_at : Int32) (v_ends : Int32) (v_fault : Int32) (v_opened : Int32) (v_bentMany : Int32) (v_bentWrong : Int32) (v_moreWorn : Int32) (v_wishedField : Int32) (v_isFound : Bool) (v_bestWrong : Int32) (v_bestWorn : Int32) (v_bestMany : Int32) (v_limit : List Int32) (v_shapeRows : List Int32) (v_shapeColumns : List Int32) (v_row : List Int32) (v_column : List Int32) (v_below : List Int32) (v_face : List Int32) (v_worn : List Int32) (v_lastBend : List Int32) (v_tape : List Int32) (v_text : List Int32) (v_names : List Int32) (v_bends : List Int32) (v_high : List Int32) (v_to : List Int32) (v_pileSize : List Int32) (v_way1 : List Int32) (v_bestWay : List Int32) : Option (Int32 × Int32 × Int32 × Int32 × Int32 × Int32 × Int32 × Int32 × Int32 × Int32 × Bool × Int32 × Int32 × Int32 × List Int32 × List Int32 × List Int32 × List Int32 × List Int32 × List Int32 × List Int32 × List Int32 × List Int32 × List Int32 × List Int32 × List Int32 × List Int32 × List Int32 × List Int32) :=
    if (-3 : Int32) ≤ x1 then
    (mm_bd1 (fX9_fields N v_rowsOf v_columnsOf) (fun (r_2 : Int32) =>
    if r_2 ≤ (16 : Int32) then
    (mm_bd28 (fX9_searches N (-1 : Int32) v_rowsOf v_columnsOf v_textMany v_base v_at v_ends v_fault v_opened v_bentMany v_bentWrong v_moreWorn v_wishedField v_isFound v_bestWrong v_bestWorn v_bestMany v_limit v_shapeRows v_shapeColumns v_row v_column v_below v_face v_worn v_lastBend v_tape v_text v_names v_bends v_high v_to v_pileSize v_way1 v_bestWay) (fun (w_5 : Int32) (w_6 : Int32) (w_7 : Int32) (w_8 : Int32) (w_9 : Int32) (w_10 : Int32) (w_11 : Int32) (w_12 : Int32) (w_13 : Int32) (w_14 : Bool) (w_15 : Int32) (w_16 : Int32) (w_17 : Int32) (w_18 : List Int32) (w_19 : List Int32) (w_20 : List Int32) (w_21 : List Int32) (w_22 : List Int32) (w_23 : List Int32) (w_24 : List Int32) (w_25 : List Int32) (w_26 : List Int32) (w_27 : List Int32) (w_28 : List Int32) (w_29 : List Int32) (w_30 : List Int32) (w_31 : List Int32) (w_32 : List Int32) =>
    if w_14 = false then
    (some ((-2 : Int32), w_5, w_6, w_7, w_8, w_9, w_10, w_11, w_12, w_13, w_14, w_15, w_16, w_17, w_18, w_19, w_20, w_21, w_22, w_23, w_24, w_25, w_26, w_27, w_28, w_29, w_30, w_31, w_32))
    else (if x1 = (-3 : Int32) then
    (some (w_17, w_5, w_6, w_7, w_8, w_9, w_10, w_11, w_12, w_13, w_14, w_15, w_16, w_17, w_18, w_19, w_20, w_21, w_22, w_23, w_24, w_25, w_26, w_27, w_28, w_29, w_30, w_31, w_32))
    else (if x1 = (-2 : Int32) then
    (some (w_16, w_5, w_6, w_7, w_8, w_9, w_10, w_11, w_12, w_13, w_14, w_15, w_16, w_17, w_18, w_19, w_20, w_21, w_22, w_23, w_24, w_25, w_26, w_27, w_28, w_29, w_30, w_31, w_32))
    else (if x1 = (-1 : Int32) then
    (some (w_15, w_5, w_6, w_7, w_8, w_9, w_10, w_11, w_12, w_13, w_14, w_15, w_16, w_17, w_18, w_19, w_20, w_21, w_22, w_23, w_24, w_25, w_26, w_27, w_28, w_29, w_30, w_31, w_32))
    else (if w_17 ≤ x1 then
    (some ((-1 : Int32), w_5, w_6, w_7, w_8, w_9, w_10, w_11, w_12, w_13, w_14, w_15, w_16, w_17, w_18, w_19, w_20, w_21, w_22, w_23, w_24, w_25, w_26, w_27, w_28, w_29, w_30, w_31, w_32))
    else (mm_ck (mm_inb x1 w_32.length) (some ((mm_ig w_32 x1), w_5, w_6, w_7, w_8, w_9, w_10, w_11, w_12, w_13, w_14, w_15, w_16, w_17, w_18, w_19, w_20, w_21, w_22, w_23, w_24, w_25, w_26, w_27, w_28, w_29, w_30, w_31, w_32)))))))))
    else (some ((-5 : Int32), v_base, v_at, v_ends, v_fault, v_opened, v_bentMany, v_bentWrong, v_moreWorn, v_wishedField, v_isFound, v_bestWrong, v_bestWorn, v_bestMany, v_shapeRows, v_shapeColumns, v_row, v_column, v_below, v_face, v_worn, v_lastBend, v_names, v_bends, v_high, v_to, v_pileSize, v_way1, v_bestWay))))
    else (some ((-1 : Int32), v_base, v_at, v_ends, v_fault, v_opened, v_bentMany, v_bentWrong, v_moreWorn, v_wishedField, v_isFound, v_bestWrong, v_bestWorn, v_bestMany, v_shapeRows, v_shapeColumns, v_row, v_column, v_below, v_face, v_worn, v_lastBend, v_names, v_bends, v_high, v_to, v_pileSize, v_way1, v_bestWay))

set_option maxHeartbeats 4000000 in
set_option maxRecDepth 100000 in
theorem ctX9_right {l : Launch} {D : va_G} {cI cL cS cH : ClassId} {a : Nat → Nat} {x1 : Int32} {v_keptMany : Int32} {v_done : Int32} {v_rowsOf : Int32} {v_columnsOf : Int32} {v_folded : Int32} {v_wronged : Int32} {v_tapeMany : Int32} {v_textMany : Int32} {v_base : Int32} {v_at : Int32} {v_ends : Int32} {v_fault : Int32} {v_opened : Int32} {v_bentMany : Int32} {v_bentWrong : Int32} {v_moreWorn : Int32} {v_planned : Int32} {v_allWrong : Int32} {v_allWorn : Int32} {v_z : Int32} {v_wishedField : Int32} {v_isFound : Bool} {v_bestWrong : Int32} {v_bestWorn : Int32} {v_bestMany : Int32} {v_soughtBy : Int32} {v_sought : Int32} {v_soughtAt : Int32} {v_foundMany : Int32} {v_foundOrder : Int32} {v_isKept : Bool} {v_imageRows : Int32} {v_imageColumns : Int32} {v_imageFolded : Int32} {v_imageWronged : Int32} {v_bodies : Int32} {v_ran : Int32} {v_ownKind : Int32} {v_ownNumber : Int32} {v_limit : List Int32} {v_changeWas : List Int32} {v_changeIs : List Int32} {v_shapeRows : List Int32} {v_shapeColumns : List Int32} {v_row : List Int32} {v_column : List Int32} {v_below : List Int32} {v_face : List Int32} {v_worn : List Int32} {v_lastBend : List Int32} {v_tape : List Int32} {v_text : List Int32} {v_names : List Int32} {v_bends : List Int32} {v_high : List Int32} {v_to : List Int32} {v_pileSize : List Int32} {v_planLine : List Int32} {v_planWay : List Int32} {v_way1 : List Int32} {v_bestWay : List Int32} {v_order1 : List Int32} {v_placeIn : List Int32} {v_bodyKind : List Int32} {v_trace : List Int32} {v_shelf : List Int32} {v_many : List Int32} {v_items : List Int64} {v_carried : List Int64} {r : Int32} {w_base : Int32} {w_at : Int32} {w_ends : Int32} {w_fault : Int32} {w_opened : Int32} {w_bentMany : Int32} {w_bentWrong : Int32} {w_moreWorn : Int32} {w_wishedField : Int32} {w_isFound : Bool} {w_bestWrong : Int32} {w_bestWorn : Int32} {w_bestMany : Int32} {w_shapeRows : List Int32} {w_shapeColumns : List Int32} {w_row : List Int32} {w_column : List Int32} {w_below : List Int32} {w_face : List Int32} {w_worn : List Int32} {w_lastBend : List Int32} {w_names : List Int32} {w_bends : List Int32} {w_high : List Int32} {w_to : List Int32} {w_pileSize : List Int32} {w_way1 : List Int32} {w_bestWay : List Int32} {N d : Nat} (hd : 66 ≤ d) (hf : fX9_right N x1 v_rowsOf v_columnsOf v_textMany v_base v_at v_ends v_fault v_opened v_bentMany v_bentWrong v_moreWorn v_wishedField v_isFound v_bestWrong v_bestWorn v_bestMany v_limit v_shapeRows v_shapeColumns v_row v_column v_below v_face v_worn v_lastBend v_tape v_text v_names v_bends v_high v_to v_pileSize v_way1 v_bestWay = some (r, w_base, w_at, w_ends, w_fault, w_opened, w_bentMany, w_bentWrong, w_moreWorn, w_wishedField, w_isFound, w_bestWrong, w_bestWorn, w_bestMany, w_shapeRows, w_shapeColumns, w_row, w_column, w_below, w_face, w_worn, w_lastBend, w_names, w_bends, w_high, w_to, w_pileSize, w_way1, w_bestWay)) : mm_Ct l yX9_right cX9_right 2 (some .int) d D (mm_T cI cL cS cH) [.ref (a 0), .int x1] (wd_X9 cI cL cS cH a v_keptMany v_done v_rowsOf v_columnsOf v_folded v_wronged v_tapeMany v_textMany v_base v_at v_ends v_fault v_opened v_bentMany v_bentWrong v_moreWorn v_planned v_allWrong v_allWorn v_z v_wishedField v_isFound v_bestWrong v_bestWorn v_bestMany v_soughtBy v_sought v_soughtAt v_foundMany v_foundOrder v_isKept v_imageRows v_imageColumns v_imageFolded v_imageWronged v_bodies v_ran v_ownKind v_ownNumber v_limit v_changeWas v_changeIs v_shapeRows v_shapeColumns v_row v_column v_below v_face v_worn v_lastBend v_tape v_text v_names v_bends v_high v_to v_pileSize v_planLine v_planWay v_way1 v_bestWay v_order1 v_placeIn v_bodyKind v_trace v_shelf v_many v_items v_carried) (wd_X9 cI cL cS cH a v_keptMany v_done v_rowsOf v_columnsOf v_folded v_wronged v_tapeMany v_textMany w_base w_at w_ends w_fault w_opened w_bentMany w_bentWrong w_moreWorn v_planned v_allWrong v_allWorn v_z w_wishedField w_isFound w_bestWrong w_bestWorn w_bestMany v_soughtBy v_sought v_soughtAt v_foundMany v_foundOrder v_isKept v_imageRows v_imageColumns v_imageFolded v_imageWronged v_bodies v_ran v_ownKind v_ownNumber v_limit v_changeWas v_changeIs w_shapeRows w_shapeColumns w_row w_column w_below w_face w_worn w_lastBend v_tape v_text w_names w_bends w_high w_to w_pileSize v_planLine v_planWay w_way1 w_bestWay v_order1 v_placeIn v_bodyKind v_trace v_shelf v_many v_items v_carried) (some (.int r)) := by
  refine mm_of (by decide) (Nat.le_of_ble_eq_true rfl) ?_
  intro p e s m args below meth c A H locs ls C0 hP hD hA hS hl
  have C0 : mm_Cx p s m args meth c RX9 cX9_right 2 (some .int) D (mm_T cI cL cS cH) A := C0
  obtain ⟨hx, hb, hml, hown, hts, hr, hlocks, hK, hSt⟩ := id C0
  have hl : lv_has ls 2 [(0, .ref (a 0)), (1, .int x1)] := hl
  unfold fX9_right at hf
  refine lv_iload_n hx hb dX9_right_0 rfl (lv_at hl 1 rfl) ?_
  refine lv_bipush (v := -3) hx hb dX9_right_1 (by decide) ?_
  refine lv_icmp_ge (tgt := 8) hx hb dX9_right_3 (by decide) (fun c_1 => ?_) (fun c_1 => ?_)
  · have hf := mm_ip hf c_1
    refine lv_aload_n hx hb dX9_right_8 rfl (lv_at hl 0 rfl) ?_
    obtain ⟨r_2, hc_3, hf⟩ := mm_bd1s hf
    refine mm_callVF (q0 := 0) (ci := 9) (rest := []) C0 lk_X9_127 (ctX9_fields (a := a) (d := d - 1) (by omega) hc_3) (by omega) rfl hl.1 rfl (mm_cat rfl) dX9_right_9 hP hD hA hS rfl rfl (fun H locs hP hD hS => ?_)
    refine W.eq (g2 := F0 m 12 ls [.int r_2]) rfl ?_
    refine lv_bipush (v := 16) hx hb dX9_right_12 (by decide) ?_
    refine lv_icmp_le (tgt := 20) hx hb dX9_right_14 (by decide) (fun c_4 => ?_) (fun c_4 => ?_)
    · have hf := mm_ip hf c_4
      refine lv_aload_n hx hb dX9_right_20 rfl (lv_at hl 0 rfl) ?_
      refine lv_iconst (v := -1) hx hb dX9_right_21 (by decide) ?_
      refine mm_ct28 hf (fun w_5 w_6 w_7 w_8 w_9 w_10 w_11 w_12 w_13 w_14 w_15 w_16 w_17 w_18 w_19 w_20 w_21 w_22 w_23 w_24 w_25 w_26 w_27 w_28 w_29 w_30 w_31 w_32 hc_33 hf => ?_)
      refine mm_callVF (q0 := 0) (ci := 9) (rest := []) C0 lk_X9_332 (ctX9_searches (a := a) (d := d - 1) (by omega) hc_33) (by omega) rfl hl.1 rfl (mm_cat rfl) dX9_right_22 hP hD hA hS rfl rfl (fun H locs hP hD hS => ?_)
      refine W.eq (g2 := F0 m 25 ls []) rfl ?_
      refine lv_aload_n hx hb dX9_right_25 rfl (lv_at hl 0 rfl) ?_
      refine mm_get C0 hP iw_X9 0 rfl rfl 43 (by decide) fl_X9_307 rfl dX9_right_26 ?_
      refine lv_if_ne (tgt := 35) hx hb dX9_right_29 (by decide) (fun c_34 => ?_) (fun c_34 => ?_)
      · have hf := mm_in hf (mm_b1 c_34)
        refine lv_iload_n hx hb dX9_right_35 rfl (lv_at hl 1 rfl) ?_
        by_cases c_35 : x1 = (-3 : Int32)
        · have hf := mm_ip hf c_35
          refine lv_tableIn (off := 38) (tgt := 74) hx hb dX9_right_36 (by rw [c_35]; decide) (by rw [c_35]; decide) (by rw [c_35]; first | done | rfl) (by decide) ?_
          refine lv_aload_n hx hb dX9_right_74 rfl (lv_at hl 0 rfl) ?_
          refine mm_get C0 hP iw_X9 0 rfl rfl 46 (by decide) fl_X9_311 rfl dX9_right_75 ?_
          apply mm_sub29 hf
          exact mm_iret C0 hP hD hS dX9_right_78
        · have hf := mm_in hf c_35
          by_cases c_36 : x1 = (-2 : Int32)
          · have hf := mm_ip hf c_36
            refine lv_tableIn (off := 33) (tgt := 69) hx hb dX9_right_36 (by rw [c_36]; decide) (by rw [c_36]; decide) (by rw [c_36]; first | done | rfl) (by decide) ?_
            refine lv_aload_n hx hb dX9_right_69 rfl (lv_at hl 0 rfl) ?_
            refine mm_get C0 hP iw_X9 0 rfl rfl 45 (by decide) fl_X9_317 rfl dX9_right_70 ?_
            apply mm_sub29 hf
            exact mm_iret C0 hP hD hS dX9_right_73
          · have hf := mm_in hf c_36
            by_cases c_37 : x1 = (-1 : Int32)
            · have hf := mm_ip hf c_37
              refine lv_tableIn (off := 28) (tgt := 64) hx hb dX9_right_36 (by rw [c_37]; decide) (by rw [c_37]; decide) (by rw [c_37]; first | done | rfl) (by decide) ?_
              refine lv_aload_n hx hb dX9_right_64 rfl (lv_at hl 0 rfl) ?_
              refine mm_get C0 hP iw_X9 0 rfl rfl 44 (by decide) fl_X9_314 rfl dX9_right_65 ?_
              apply mm_sub29 hf
              exact mm_iret C0 hP hD hS dX9_right_68
            · have hf := mm_in hf c_37
              refine lv_tableOut (tgt := 79) hx hb dX9_right_36 (by have nc_35 := lv_neT c_35 (a := -3) (by decide); have nc_36 := lv_neT c_36 (a := -2) (by decide); have nc_37 := lv_neT c_37 (a := -1) (by decide); omega) (by decide) ?_
              refine lv_iload_n hx hb dX9_right_79 rfl (lv_at hl 1 rfl) ?_
              refine lv_aload_n hx hb dX9_right_80 rfl (lv_at hl 0 rfl) ?_
              refine mm_get C0 hP iw_X9 0 rfl rfl 46 (by decide) fl_X9_311 rfl dX9_right_81 ?_
              refine lv_icmp_ge (tgt := 96) hx hb dX9_right_84 (by decide) (fun c_38 => ?_) (fun c_38 => ?_)
              · have hf := mm_ip hf c_38
                refine lv_iconst (v := -1) hx hb dX9_right_96 (by decide) ?_
                apply mm_sub29 hf
                exact mm_iret C0 hP hD hS dX9_right_97
              · have hf := mm_in hf c_38
                refine lv_aload_n hx hb dX9_right_87 rfl (lv_at hl 0 rfl) ?_
                refine mm_get C0 hP iw_X9 0 rfl rfl 42 (by decide) fl_X9_73 rfl dX9_right_88 ?_
                refine lv_iload_n hx hb dX9_right_91 rfl (lv_at hl 1 rfl) ?_
                obtain ⟨h_39, hf⟩ := mm_cks hf
                refine mm_iald C0 hP 22 rfl h_39 dX9_right_92 ?_
                refine lv_goto (tgt := 97) hx hb dX9_right_93 (by decide) ?_
                apply mm_sub29 hf
                exact mm_iret C0 hP hD hS dX9_right_97
      · have hf := mm_ip hf (mm_b0 c_34)
        refine lv_bipush (v := -2) hx hb dX9_right_32 (by decide) ?_
        apply mm_sub29 hf
        exact mm_iret C0 hP hD hS dX9_right_34
    · have hf := mm_in hf c_4
      refine lv_bipush (v := -5) hx hb dX9_right_17 (by decide) ?_
      apply mm_sub29 hf
      exact mm_iret C0 hP hD hS dX9_right_19
  · have hf := mm_in hf c_1
    refine lv_iconst (v := -1) hx hb dX9_right_6 (by decide) ?_
    apply mm_sub29 hf
    exact mm_iret C0 hP hD hS dX9_right_7

theorem dX9_wind_0 : decode cX9_wind 0 = .ok (.iload_n 2, 1) := by decide +kernel
theorem dX9_wind_1 : decode cX9_wind 1 = .ok (.ifCond .lt 39, 3) := by decide +kernel
theorem dX9_wind_4 : decode cX9_wind 4 = .ok (.iload_n 2, 1) := by decide +kernel
theorem dX9_wind_5 : decode cX9_wind 5 = .ok (.sipush 1000, 3) := by decide +kernel
theorem dX9_wind_8 : decode cX9_wind 8 = .ok (.idiv, 1) := by decide +kernel
theorem dX9_wind_9 : decode cX9_wind 9 = .ok (.i2l, 1) := by decide +kernel
theorem dX9_wind_10 : decode cX9_wind 10 = .ok (.lconst 1, 1) := by decide +kernel
theorem dX9_wind_11 : decode cX9_wind 11 = .ok (.ldc2_w 335, 3) := by decide +kernel
theorem dX9_wind_14 : decode cX9_wind 14 = .ok (.invokestatic 111, 3) := by decide +kernel
theorem dX9_wind_17 : decode cX9_wind 17 = .ok (.ifCond .eq 23, 3) := by decide +kernel
theorem dX9_wind_20 : decode cX9_wind 20 = .ok (.iload_n 2, 1) := by decide +kernel
theorem dX9_wind_21 : decode cX9_wind 21 = .ok (.sipush 1000, 3) := by decide +kernel
theorem dX9_wind_24 : decode cX9_wind 24 = .ok (.irem, 1) := by decide +kernel
theorem dX9_wind_25 : decode cX9_wind 25 = .ok (.bipush 100, 2) := by decide +kernel
theorem dX9_wind_27 : decode cX9_wind 27 = .ok (.if_icmp .gt 13, 3) := by decide +kernel
theorem dX9_wind_30 : decode cX9_wind 30 = .ok (.iload_n 3, 1) := by decide +kernel
theorem dX9_wind_31 : decode cX9_wind 31 = .ok (.i2l, 1) := by decide +kernel
theorem dX9_wind_32 : decode cX9_wind 32 = .ok (.lconst 0, 1) := by decide +kernel
theorem dX9_wind_33 : decode cX9_wind 33 = .ok (.lconst 1, 1) := by decide +kernel
theorem dX9_wind_34 : decode cX9_wind 34 = .ok (.invokestatic 111, 3) := by decide +kernel
theorem dX9_wind_37 : decode cX9_wind 37 = .ok (.ifCond .ne 5, 3) := by decide +kernel
theorem dX9_wind_40 : decode cX9_wind 40 = .ok (.iconst (-1), 1) := by decide +kernel
theorem dX9_wind_41 : decode cX9_wind 41 = .ok (.ireturn, 1) := by decide +kernel
theorem dX9_wind_42 : decode cX9_wind 42 = .ok (.aload_n 0, 1) := by decide +kernel
theorem dX9_wind_43 : decode cX9_wind 43 = .ok (.iload_n 1, 1) := by decide +kernel
theorem dX9_wind_44 : decode cX9_wind 44 = .ok (.putfield 288, 3) := by decide +kernel
theorem dX9_wind_47 : decode cX9_wind 47 = .ok (.iconst 0, 1) := by decide +kernel
theorem dX9_wind_48 : decode cX9_wind 48 = .ok (.istore 4, 2) := by decide +kernel
theorem dX9_wind_50 : decode cX9_wind 50 = .ok (.iconst 0, 1) := by decide +kernel
theorem dX9_wind_51 : decode cX9_wind 51 = .ok (.istore 5, 2) := by decide +kernel
theorem dX9_wind_53 : decode cX9_wind 53 = .ok (.iload 5, 2) := by decide +kernel
theorem dX9_wind_55 : decode cX9_wind 55 = .ok (.iload_n 2, 1) := by decide +kernel
theorem dX9_wind_56 : decode cX9_wind 56 = .ok (.sipush 1000, 3) := by decide +kernel
theorem dX9_wind_59 : decode cX9_wind 59 = .ok (.idiv, 1) := by decide +kernel
theorem dX9_wind_60 : decode cX9_wind 60 = .ok (.if_icmp .ge 42, 3) := by decide +kernel
theorem dX9_wind_63 : decode cX9_wind 63 = .ok (.aload_n 0, 1) := by decide +kernel
theorem dX9_wind_64 : decode cX9_wind 64 = .ok (.bipush 12, 2) := by decide +kernel
theorem dX9_wind_66 : decode cX9_wind 66 = .ok (.iload_n 2, 1) := by decide +kernel
theorem dX9_wind_67 : decode cX9_wind 67 = .ok (.sipush 1000, 3) := by decide +kernel
theorem dX9_wind_70 : decode cX9_wind 70 = .ok (.irem, 1) := by decide +kernel
theorem dX9_wind_71 : decode cX9_wind 71 = .ok (.invokevirtual 292, 3) := by decide +kernel
theorem dX9_wind_74 : decode cX9_wind 74 = .ok (.istore 6, 2) := by decide +kernel
theorem dX9_wind_76 : decode cX9_wind 76 = .ok (.iload 4, 2) := by decide +kernel
theorem dX9_wind_78 : decode cX9_wind 78 = .ok (.iload_n 3, 1) := by decide +kernel
theorem dX9_wind_79 : decode cX9_wind 79 = .ok (.ifCond .ne 10, 3) := by decide +kernel
theorem dX9_wind_82 : decode cX9_wind 82 = .ok (.aload_n 0, 1) := by decide +kernel
theorem dX9_wind_83 : decode cX9_wind 83 = .ok (.getfield 282, 3) := by decide +kernel
theorem dX9_wind_86 : decode cX9_wind 86 = .ok (.goto 7, 3) := by decide +kernel
theorem dX9_wind_89 : decode cX9_wind 89 = .ok (.aload_n 0, 1) := by decide +kernel
theorem dX9_wind_90 : decode cX9_wind 90 = .ok (.getfield 285, 3) := by decide +kernel
theorem dX9_wind_93 : decode cX9_wind 93 = .ok (.iadd, 1) := by decide +kernel
theorem dX9_wind_94 : decode cX9_wind 94 = .ok (.istore 4, 2) := by decide +kernel
theorem dX9_wind_96 : decode cX9_wind 96 = .ok (.iinc 5 1, 3) := by decide +kernel
theorem dX9_wind_99 : decode cX9_wind 99 = .ok (.goto (-46), 3) := by decide +kernel
theorem dX9_wind_102 : decode cX9_wind 102 = .ok (.iload 4, 2) := by decide +kernel
theorem dX9_wind_104 : decode cX9_wind 104 = .ok (.iload_n 2, 1) := by decide +kernel
theorem dX9_wind_105 : decode cX9_wind 105 = .ok (.sipush 1000, 3) := by decide +kernel
theorem dX9_wind_108 : decode cX9_wind 108 = .ok (.idiv, 1) := by decide +kernel
theorem dX9_wind_109 : decode cX9_wind 109 = .ok (.idiv, 1) := by decide +kernel
theorem dX9_wind_110 : decode cX9_wind 110 = .ok (.ireturn, 1) := by decide +kernel
def fX9_wind_93 (N : Nat) (k_53 : Int32 → Int32 → Int32 → Int32 → Int32 → Int32 → Int32 → Int32 → Int32 → Int32 → Int32 → Int32 → Int32 → Int32 → Int32 → Int32 → Int32 → Int32 → Int32 → List Int32 → List Int32 → List Int32 → List Int32 → List Int32 → List Int32 → List Int32 → List Int32 → List Int32 → List Int32 → List Int32 → List Int32 → List Int32 → List Int32 → List Int32 → List Int32 → List Int32 → List Int32 → Option (Int32 × Int32 × Int32 × Int32 × Int32 × Int32 × Int32 × Int32 × Int32 × Int32 × Int32 × Int32 × List Int32 × List Int32 × List Int32 × List Int32 × List Int32 × List Int32 × List Int32 × List Int32 × List Int32 × List Int32 × List Int32 × List Int32 × List Int32)) (x2 : Int32) (x3 : Int32) (x5 : Int32) (s0 : Int32) (s1 : Int32) (v_rowsOf : Int32) (v_columnsOf : Int32) (v_textMany : Int32) (v_base : Int32) (v_at : Int32) (v_ends : Int32) (v_fault : Int32) (v_opened : Int32) (v_bentMany : Int32) (v_bentWrong : Int32) (v_moreWorn : Int32) (v_planned : Int32) (v_allWrong : Int32) (v_allWorn : Int32) (v_z : Int32) (v_limit : List Int32) (v_shapeRows : List Int32) (v_shapeColumns : List Int32) (v_row : List Int32) (v_column : List Int32) (v_below : List Int32) (v_face : List Int32) (v_worn : List Int32) (v_lastBend : List Int32) (v_tape : List Int32) (v_text : List Int32) (v_names : List Int32) (v_bends : List Int32) (v_high : List Int32) (v_to : List Int32) (v_pileSize : List Int32) (v_planLine : List Int32) (v_planWay : List Int32) : Option (Int32 × Int32 × Int32 × Int32 × Int32 × Int32 × Int32 × Int32 × Int32 × Int32 × Int32 × Int32 × List Int32 × List Int32 × List Int32 × List Int32 × List Int32 × List Int32 × List Int32 × List Int32 × List Int32 × List Int32 × List Int32 × List Int32 × List Int32) :=
    mm_nm ((s1 + s0)) (fun (y_43 : Int32) =>
    mm_nm (x5 + (1 : Int32)) (fun (y_44 : Int32) =>
    k_53 x2 x3 y_43 y_44 v_rowsOf v_columnsOf v_textMany v_base v_at v_ends v_fault v_opened v_bentMany v_bentWrong v_moreWorn v_planned v_allWrong v_allWorn v_z v_limit v_shapeRows v_shapeColumns v_row v_column v_below v_face v_worn v_lastBend v_tape v_text v_names v_bends v_high v_to v_pileSize v_planLine v_planWay))

set_option maxHeartbeats 4000000 in
set_option maxRecDepth 100000 in
theorem tX9_wind_93 {p : Program} {l : Launch} {e : Env} {s : State} {m : MethodId} {args : Array Value} {below : List Frame} {meth : Method} {c : Code} {D : va_G} {cI cL cS cH : ClassId} {A : Nat → Prop} {d : Nat} {a : Nat → Nat} (hd : 61 ≤ d) (C0 : mm_Cx p s m args meth c RX9 cX9_wind 7 (some .int) D (mm_T cI cL cS cH) A) (hA : ∀ q, s.heap.size ≤ q → A q) {v_keptMany : Int32} {v_done : Int32} {v_folded : Int32} {v_wronged : Int32} {v_tapeMany : Int32} {v_wishedField : Int32} {v_isFound : Bool} {v_bestWrong : Int32} {v_bestWorn : Int32} {v_bestMany : Int32} {v_soughtBy : Int32} {v_sought : Int32} {v_soughtAt : Int32} {v_foundMany : Int32} {v_foundOrder : Int32} {v_isKept : Bool} {v_imageRows : Int32} {v_imageColumns : Int32} {v_imageFolded : Int32} {v_imageWronged : Int32} {v_bodies : Int32} {v_ran : Int32} {v_ownKind : Int32} {v_ownNumber : Int32} {v_changeWas : List Int32} {v_changeIs : List Int32} {v_way1 : List Int32} {v_bestWay : List Int32} {v_order1 : List Int32} {v_placeIn : List Int32} {v_bodyKind : List Int32} {v_trace : List Int32} {v_shelf : List Int32} {v_many : List Int32} {v_items : List Int64} {v_carried : List Int64} {r : Int32} {w_base : Int32} {w_at : Int32} {w_ends : Int32} {w_fault : Int32} {w_opened : Int32} {w_bentMany : Int32} {w_bentWrong : Int32} {w_moreWorn : Int32} {w_allWrong : Int32} {w_allWorn : Int32} {w_z : Int32} {w_shapeRows : List Int32} {w_shapeColumns : List Int32} {w_row : List Int32} {w_column : List Int32} {w_below : List Int32} {w_face : List Int32} {w_worn : List Int32} {w_lastBend : List Int32} {w_names : List Int32} {w_bends : List Int32} {w_high : List Int32} {w_to : List Int32} {w_pileSize : List Int32} (N : Nat) {k_53 : Int32 → Int32 → Int32 → Int32 → Int32 → Int32 → Int32 → Int32 → Int32 → Int32 → Int32 → Int32 → Int32 → Int32 → Int32 → Int32 → Int32 → Int32 → Int32 → List Int32 → List Int32 → List Int32 → List Int32 → List Int32 → List Int32 → List Int32 → List Int32 → List Int32 → List Int32 → List Int32 → List Int32 → List Int32 → List Int32 → List Int32 → List Int32 → List Int32 → List Int32 → Option (Int32 × Int32 × Int32 × Int32 × Int32 × Int32 × Int32 × Int32 × Int32 × Int32 × Int32 × Int32 × List Int32 × List Int32 × List Int32 × List Int32 × List Int32 × List Int32 × List Int32 × List Int32 × List Int32 × List Int32 × List Int32 × List Int32 × List Int32)} (hk_53 : ∀ (x2 : Int32) (x3 : Int32) (x4 : Int32) (x5 : Int32) (v_rowsOf : Int32) (v_columnsOf : Int32) (v_textMany : Int32) (v_base : Int32) (v_at : Int32) (v_ends : Int32) (v_fault : Int32) (v_opened : Int32) (v_bentMany : Int32) (v_bentWrong : Int32) (v_moreWorn : Int32) (v_planned : Int32) (v_allWrong : Int32) (v_allWorn : Int32) (v_z : Int32) (v_limit : List Int32) (v_shapeRows : List Int32) (v_shapeColumns : List Int32) (v_row : List Int32) (v_column : List Int32) (v_below : List Int32) (v_face : List Int32) (v_worn : List Int32) (v_lastBend : List Int32) (v_tape : List Int32) (v_text : List Int32) (v_names : List Int32) (v_bends : List Int32) (v_high : List Int32) (v_to : List Int32) (v_pileSize : List Int32) (v_planLine : List Int32) (v_planWay : List Int32) (H : Heap) (locs : List Loc) (ls : Array Slot), k_53 x2 x3 x4 x5 v_rowsOf v_columnsOf v_textMany v_base v_at v_ends v_fault v_opened v_bentMany v_bentWrong v_moreWorn v_planned v_allWrong v_allWorn v_z v_limit v_shapeRows v_shapeColumns v_row v_column v_below v_face v_worn v_lastBend v_tape v_text v_names v_bends v_high v_to v_pileSize v_planLine v_planWay = some (r, w_base, w_at, w_ends, w_fault, w_opened, w_bentMany, w_bentWrong, w_moreWorn, w_allWrong, w_allWorn, w_z, w_shapeRows, w_shapeColumns, w_row, w_column, w_below, w_face, w_worn, w_lastBend, w_names, w_bends, w_high, w_to, w_pileSize) → va_P D mm_cl (wd_X9 cI cL cS cH a v_keptMany v_done v_rowsOf v_columnsOf v_folded v_wronged v_tapeMany v_textMany v_base v_at v_ends v_fault v_opened v_bentMany v_bentWrong v_moreWorn v_planned v_allWrong v_allWorn v_z v_wishedField v_isFound v_bestWrong v_bestWorn v_bestMany v_soughtBy v_sought v_soughtAt v_foundMany v_foundOrder v_isKept v_imageRows v_imageColumns v_imageFolded v_imageWronged v_bodies v_ran v_ownKind v_ownNumber v_limit v_changeWas v_changeIs v_shapeRows v_shapeColumns v_row v_column v_below v_face v_worn v_lastBend v_tape v_text v_names v_bends v_high v_to v_pileSize v_planLine v_planWay v_way1 v_bestWay v_order1 v_placeIn v_bodyKind v_trace v_shelf v_many v_items v_carried) H → va_D A (wd_X9 cI cL cS cH a v_keptMany v_done v_rowsOf v_columnsOf v_folded v_wronged v_tapeMany v_textMany v_base v_at v_ends v_fault v_opened v_bentMany v_bentWrong v_moreWorn v_planned v_allWrong v_allWorn v_z v_wishedField v_isFound v_bestWrong v_bestWorn v_bestMany v_soughtBy v_sought v_soughtAt v_foundMany v_foundOrder v_isKept v_imageRows v_imageColumns v_imageFolded v_imageWronged v_bodies v_ran v_ownKind v_ownNumber v_limit v_changeWas v_changeIs v_shapeRows v_shapeColumns v_row v_column v_below v_face v_worn v_lastBend v_tape v_text v_names v_bends v_high v_to v_pileSize v_planLine v_planWay v_way1 v_bestWay v_order1 v_placeIn v_bodyKind v_trace v_shelf v_many v_items v_carried) → va_S A s.heap H locs → lv_has ls 7 [(0, .ref (a 0)), (2, .int x2), (3, .int x3), (4, .int x4), (5, .int x5)] → W p l e (mm_rr d) s m args below meth c H locs 0 0 (mm_Z below D A (wd_X9 cI cL cS cH a v_keptMany v_done v_rowsOf v_columnsOf v_folded v_wronged v_tapeMany v_textMany w_base w_at w_ends w_fault w_opened w_bentMany w_bentWrong w_moreWorn v_planned w_allWrong w_allWorn w_z v_wishedField v_isFound v_bestWrong v_bestWorn v_bestMany v_soughtBy v_sought v_soughtAt v_foundMany v_foundOrder v_isKept v_imageRows v_imageColumns v_imageFolded v_imageWronged v_bodies v_ran v_ownKind v_ownNumber v_limit v_changeWas v_changeIs w_shapeRows w_shapeColumns w_row w_column w_below w_face w_worn w_lastBend v_tape v_text w_names w_bends w_high w_to w_pileSize v_planLine v_planWay v_way1 v_bestWay v_order1 v_placeIn v_bodyKind v_trace v_shelf v_many v_items v_carried) (some (.int r)) args s) (F0 m 53 ls [])) : ∀ (x2 : Int32) (x3 : Int32) (x5 : Int32) (s0 : Int32) (s1 : Int32) (v_rowsOf : Int32) (v_columnsOf : Int32) (v_textMany : Int32) (v_base : Int32) (v_at : Int32) (v_ends : Int32) (v_fault : Int32) (v_opened : Int32) (v_bentMany : Int32) (v_bentWrong : Int32) (v_moreWorn : Int32) (v_planned : Int32) (v_allWrong : Int32) (v_allWorn : Int32) (v_z : Int32) (v_limit : List Int32) (v_shapeRows : List Int32) (v_shapeColumns : List Int32) (v_row : List Int32) (v_column : List Int32) (v_below : List Int32) (v_face : List Int32) (v_worn : List Int32) (v_lastBend : List Int32) (v_tape : List Int32) (v_text : List Int32) (v_names : List Int32) (v_bends : List Int32) (v_high : List Int32) (v_to : List Int32) (v_pileSize : List Int32) (v_planLine : List Int32) (v_planWay : List Int32) (H : Heap) (locs : List Loc) (ls : Array Slot), fX9_wind_93 N k_53 x2 x3 x5 s0 s1 v_rowsOf v_columnsOf v_textMany v_base v_at v_ends v_fault v_opened v_bentMany v_bentWrong v_moreWorn v_planned v_allWrong v_allWorn v_z v_limit v_shapeRows v_shapeColumns v_row v_column v_below v_face v_worn v_lastBend v_tape v_text v_names v_bends v_high v_to v_pileSize v_planLine v_planWay = some (r, w_base, w_at, w_ends, w_fault, w_opened, w_bentMany, w_bentWrong, w_moreWorn, w_allWrong, w_allWorn, w_z, w_shapeRows, w_shapeColumns, w_row, w_column, w_below, w_face, w_worn, w_lastBend, w_names, w_bends, w_high, w_to, w_pileSize) → va_P D mm_cl (wd_X9 cI cL cS cH a v_keptMany v_done v_rowsOf v_columnsOf v_folded v_wronged v_tapeMany v_textMany v_base v_at v_ends v_fault v_opened v_bentMany v_bentWrong v_moreWorn v_planned v_allWrong v_allWorn v_z v_wishedField v_isFound v_bestWrong v_bestWorn v_bestMany v_soughtBy v_sought v_soughtAt v_foundMany v_foundOrder v_isKept v_imageRows v_imageColumns v_imageFolded v_imageWronged v_bodies v_ran v_ownKind v_ownNumber v_limit v_changeWas v_changeIs v_shapeRows v_shapeColumns v_row v_column v_below v_face v_worn v_lastBend v_tape v_text v_names v_bends v_high v_to v_pileSize v_planLine v_planWay v_way1 v_bestWay v_order1 v_placeIn v_bodyKind v_trace v_shelf v_many v_items v_carried) H → va_D A (wd_X9 cI cL cS cH a v_keptMany v_done v_rowsOf v_columnsOf v_folded v_wronged v_tapeMany v_textMany v_base v_at v_ends v_fault v_opened v_bentMany v_bentWrong v_moreWorn v_planned v_allWrong v_allWorn v_z v_wishedField v_isFound v_bestWrong v_bestWorn v_bestMany v_soughtBy v_sought v_soughtAt v_foundMany v_foundOrder v_isKept v_imageRows v_imageColumns v_imageFolded v_imageWronged v_bodies v_ran v_ownKind v_ownNumber v_limit v_changeWas v_changeIs v_shapeRows v_shapeColumns v_row v_column v_below v_face v_worn v_lastBend v_tape v_text v_names v_bends v_high v_to v_pileSize v_planLine v_planWay v_way1 v_bestWay v_order1 v_placeIn v_bodyKind v_trace v_shelf v_many v_items v_carried) → va_S A s.heap H locs → lv_has ls 7 [(0, .ref (a 0)), (2, .int x2), (3, .int x3), (5, .int x5)] → W p l e (mm_rr d) s m args below meth c H locs 0 0 (mm_Z below D A (wd_X9 cI cL cS cH a v_keptMany v_done v_rowsOf v_columnsOf v_folded v_wronged v_tapeMany v_textMany w_base w_at w_ends w_fault w_opened w_bentMany w_bentWrong w_moreWorn v_planned w_allWrong w_allWorn w_z v_wishedField v_isFound v_bestWrong v_bestWorn v_bestMany v_soughtBy v_sought v_soughtAt v_foundMany v_foundOrder v_isKept v_imageRows v_imageColumns v_imageFolded v_imageWronged v_bodies v_ran v_ownKind v_ownNumber v_limit v_changeWas v_changeIs w_shapeRows w_shapeColumns w_row w_column w_below w_face w_worn w_lastBend v_tape v_text w_names w_bends w_high w_to w_pileSize v_planLine v_planWay v_way1 v_bestWay v_order1 v_placeIn v_bodyKind v_trace v_shelf v_many v_items v_carried) (some (.int r)) args s) (F0 m 93 ls [.int s0, .int s1]) := by
  obtain ⟨hx, hb, hml, hown, hts, hr, hlocks, hK, hSt⟩ := id C0
  intro x2 x3 x5 s0 s1 v_rowsOf v_columnsOf v_textMany v_base v_at v_ends v_fault v_opened v_bentMany v_bentWrong v_moreWorn v_planned v_allWrong v_allWorn v_z v_limit v_shapeRows v_shapeColumns v_row v_column v_below v_face v_worn v_lastBend v_tape v_text v_names v_bends v_high v_to v_pileSize v_planLine v_planWay H locs ls hf hP hD hS hl
  unfold fX9_wind_93 at hf
  refine lv_iadd hx hb dX9_wind_93 ?_
  refine lv_topi (fun y_43 ey_43 => ?_)
  have hf := mm_nms hf ey_43
  refine lv_istore (lv' := [(4, .int y_43), (0, .ref (a 0)), (2, .int x2), (3, .int x3), (5, .int x5)]) hx hb dX9_wind_94 hl (by decide) rfl (fun ls hl => ?_)
  obtain ⟨y_44, ey_44⟩ : ∃ z : Int32, z = x5 + (1 : Int32) := ⟨_, rfl⟩
  have hf := mm_nms hf ey_44
  refine lv_iinc (v := y_44) (lv' := [(5, .int y_44), (4, .int y_43), (0, .ref (a 0)), (2, .int x2), (3, .int x3)]) hx hb dX9_wind_96 hl (k := 4) rfl (by rw [ey_44]; rfl) (by decide) rfl (fun ls hl => ?_)
  refine lv_goto (tgt := 53) hx hb dX9_wind_99 (by decide) ?_
  exact hk_53 _ _ _ _ _ _ _ _ _ _ _ _ _ _ _ _ _ _ _ _ _ _ _ _ _ _ _ _ _ _ _ _ _ _ _ _ _ H locs ls hf hP hD hS (lv_sub hl [2, 3, 4, 1, 0] rfl)

def fX9_wind_53 (N : Nat)  : Nat → Int32 → Int32 → Int32 → Int32 → Int32 → Int32 → Int32 → Int32 → Int32 → Int32 → Int32 → Int32 → Int32 → Int32 → Int32 → Int32 → Int32 → Int32 → Int32 → List Int32 → List Int32 → List Int32 → List Int32 → List Int32 → List Int32 → List Int32 → List Int32 → List Int32 → List Int32 → List Int32 → List Int32 → List Int32 → List Int32 → List Int32 → List Int32 → List Int32 → List Int32 → Option (Int32 × Int32 × Int32 × Int32 × Int32 × Int32 × Int32 × Int32 × Int32 × Int32 × Int32 × Int32 × List Int32 × List Int32 × List Int32 × List Int32 × List Int32 × List Int32 × List Int32 × List Int32 × List Int32 × List Int32 × List Int32 × List Int32 × List Int32)
  | 0 => fun _ _ _ _ _ _ _ _ _ _ _ _ _ _ _ _ _ _ _ _ _ _ _ _ _ _ _ _ _ _ _ _ _ _ _ _ _ => none
  | n + 1 => fun x2 x3 x4 x5 v_rowsOf v_columnsOf v_textMany v_base v_at v_ends v_fault v_opened v_bentMany v_bentWrong v_moreWorn v_planned v_allWrong v_allWorn v_z v_limit v_shapeRows v_shapeColumns v_row v_column v_below v_face v_worn v_lastBend v_tape v_text v_names v_bends v_high v_to v_pileSize v_planLine v_planWay =>
    mm_ck (mm_nz (1000 : Int32)) (if (x2 / (1000 : Int32)) ≤ x5 then
    (mm_ck (mm_nz (1000 : Int32)) (mm_ck (mm_nz (x2 / (1000 : Int32))) (some ((x4 / (x2 / (1000 : Int32))), v_base, v_at, v_ends, v_fault, v_opened, v_bentMany, v_bentWrong, v_moreWorn, v_allWrong, v_allWorn, v_z, v_shapeRows, v_shapeColumns, v_row, v_column, v_below, v_face, v_worn, v_lastBend, v_names, v_bends, v_high, v_to, v_pileSize))))
    else (mm_ck (mm_nz (1000 : Int32)) (mm_bd25 (fX9_goesPlan N (12 : Int32) (mm_rem x2 (1000 : Int32)) v_rowsOf v_columnsOf v_textMany v_base v_at v_ends v_fault v_opened v_bentMany v_bentWrong v_moreWorn v_planned v_allWrong v_allWorn v_z v_limit v_shapeRows v_shapeColumns v_row v_column v_below v_face v_worn v_lastBend v_tape v_text v_names v_bends v_high v_to v_pileSize v_planLine v_planWay) (fun (r_16 : Int32) (w_17 : Int32) (w_18 : Int32) (w_19 : Int32) (w_20 : Int32) (w_21 : Int32) (w_22 : Int32) (w_23 : Int32) (w_24 : Int32) (w_25 : Int32) (w_26 : Int32) (w_27 : Int32) (w_28 : List Int32) (w_29 : List Int32) (w_30 : List Int32) (w_31 : List Int32) (w_32 : List Int32) (w_33 : List Int32) (w_34 : List Int32) (w_35 : List Int32) (w_36 : List Int32) (w_37 : List Int32) (w_38 : List Int32) (w_39 : List Int32) (w_40 : List Int32) =>
    if x3 = 0 then
    (fX9_wind_93 N (fX9_wind_53 N n) x2 x3 x5 w_25 x4 v_rowsOf v_columnsOf v_textMany w_17 w_18 w_19 w_20 w_21 w_22 w_23 w_24 v_planned w_25 w_26 w_27 v_limit w_28 w_29 w_30 w_31 w_32 w_33 w_34 w_35 v_tape v_text w_36 w_37 w_38 w_39 w_40 v_planLine v_planWay)
    else (fX9_wind_93 N (fX9_wind_53 N n) x2 x3 x5 w_26 x4 v_rowsOf v_columnsOf v_textMany w_17 w_18 w_19 w_20 w_21 w_22 w_23 w_24 v_planned w_25 w_26 w_27 v_limit w_28 w_29 w_30 w_31 w_32 w_33 w_34 w_35 v_tape v_text w_36 w_37 w_38 w_39 w_40 v_planLine v_planWay)))))

set_option maxHeartbeats 4000000 in
set_option maxRecDepth 100000 in
theorem tX9_wind_53 {p : Program} {l : Launch} {e : Env} {s : State} {m : MethodId} {args : Array Value} {below : List Frame} {meth : Method} {c : Code} {D : va_G} {cI cL cS cH : ClassId} {A : Nat → Prop} {d : Nat} {a : Nat → Nat} (hd : 61 ≤ d) (C0 : mm_Cx p s m args meth c RX9 cX9_wind 7 (some .int) D (mm_T cI cL cS cH) A) (hA : ∀ q, s.heap.size ≤ q → A q) {v_keptMany : Int32} {v_done : Int32} {v_folded : Int32} {v_wronged : Int32} {v_tapeMany : Int32} {v_wishedField : Int32} {v_isFound : Bool} {v_bestWrong : Int32} {v_bestWorn : Int32} {v_bestMany : Int32} {v_soughtBy : Int32} {v_sought : Int32} {v_soughtAt : Int32} {v_foundMany : Int32} {v_foundOrder : Int32} {v_isKept : Bool} {v_imageRows : Int32} {v_imageColumns : Int32} {v_imageFolded : Int32} {v_imageWronged : Int32} {v_bodies : Int32} {v_ran : Int32} {v_ownKind : Int32} {v_ownNumber : Int32} {v_changeWas : List Int32} {v_changeIs : List Int32} {v_way1 : List Int32} {v_bestWay : List Int32} {v_order1 : List Int32} {v_placeIn : List Int32} {v_bodyKind : List Int32} {v_trace : List Int32} {v_shelf : List Int32} {v_many : List Int32} {v_items : List Int64} {v_carried : List Int64} {r : Int32} {w_base : Int32} {w_at : Int32} {w_ends : Int32} {w_fault : Int32} {w_opened : Int32} {w_bentMany : Int32} {w_bentWrong : Int32} {w_moreWorn : Int32} {w_allWrong : Int32} {w_allWorn : Int32} {w_z : Int32} {w_shapeRows : List Int32} {w_shapeColumns : List Int32} {w_row : List Int32} {w_column : List Int32} {w_below : List Int32} {w_face : List Int32} {w_worn : List Int32} {w_lastBend : List Int32} {w_names : List Int32} {w_bends : List Int32} {w_high : List Int32} {w_to : List Int32} {w_pileSize : List Int32} (N : Nat)  : ∀ (n : Nat), ∀ (x2 : Int32) (x3 : Int32) (x4 : Int32) (x5 : Int32) (v_rowsOf : Int32) (v_columnsOf : Int32) (v_textMany : Int32) (v_base : Int32) (v_at : Int32) (v_ends : Int32) (v_fault : Int32) (v_opened : Int32) (v_bentMany : Int32) (v_bentWrong : Int32) (v_moreWorn : Int32) (v_planned : Int32) (v_allWrong : Int32) (v_allWorn : Int32) (v_z : Int32) (v_limit : List Int32) (v_shapeRows : List Int32) (v_shapeColumns : List Int32) (v_row : List Int32) (v_column : List Int32) (v_below : List Int32) (v_face : List Int32) (v_worn : List Int32) (v_lastBend : List Int32) (v_tape : List Int32) (v_text : List Int32) (v_names : List Int32) (v_bends : List Int32) (v_high : List Int32) (v_to : List Int32) (v_pileSize : List Int32) (v_planLine : List Int32) (v_planWay : List Int32) (H : Heap) (locs : List Loc) (ls : Array Slot), fX9_wind_53 N n x2 x3 x4 x5 v_rowsOf v_columnsOf v_textMany v_base v_at v_ends v_fault v_opened v_bentMany v_bentWrong v_moreWorn v_planned v_allWrong v_allWorn v_z v_limit v_shapeRows v_shapeColumns v_row v_column v_below v_face v_worn v_lastBend v_tape v_text v_names v_bends v_high v_to v_pileSize v_planLine v_planWay = some (r, w_base, w_at, w_ends, w_fault, w_opened, w_bentMany, w_bentWrong, w_moreWorn, w_allWrong, w_allWorn, w_z, w_shapeRows, w_shapeColumns, w_row, w_column, w_below, w_face, w_worn, w_lastBend, w_names, w_bends, w_high, w_to, w_pileSize) → va_P D mm_cl (wd_X9 cI cL cS cH a v_keptMany v_done v_rowsOf v_columnsOf v_folded v_wronged v_tapeMany v_textMany v_base v_at v_ends v_fault v_opened v_bentMany v_bentWrong v_moreWorn v_planned v_allWrong v_allWorn v_z v_wishedField v_isFound v_bestWrong v_bestWorn v_bestMany v_soughtBy v_sought v_soughtAt v_foundMany v_foundOrder v_isKept v_imageRows v_imageColumns v_imageFolded v_imageWronged v_bodies v_ran v_ownKind v_ownNumber v_limit v_changeWas v_changeIs v_shapeRows v_shapeColumns v_row v_column v_below v_face v_worn v_lastBend v_tape v_text v_names v_bends v_high v_to v_pileSize v_planLine v_planWay v_way1 v_bestWay v_order1 v_placeIn v_bodyKind v_trace v_shelf v_many v_items v_carried) H → va_D A (wd_X9 cI cL cS cH a v_keptMany v_done v_rowsOf v_columnsOf v_folded v_wronged v_tapeMany v_textMany v_base v_at v_ends v_fault v_opened v_bentMany v_bentWrong v_moreWorn v_planned v_allWrong v_allWorn v_z v_wishedField v_isFound v_bestWrong v_bestWorn v_bestMany v_soughtBy v_sought v_soughtAt v_foundMany v_foundOrder v_isKept v_imageRows v_imageColumns v_imageFolded v_imageWronged v_bodies v_ran v_ownKind v_ownNumber v_limit v_changeWas v_changeIs v_shapeRows v_shapeColumns v_row v_column v_below v_face v_worn v_lastBend v_tape v_text v_names v_bends v_high v_to v_pileSize v_planLine v_planWay v_way1 v_bestWay v_order1 v_placeIn v_bodyKind v_trace v_shelf v_many v_items v_carried) → va_S A s.heap H locs → lv_has ls 7 [(0, .ref (a 0)), (2, .int x2), (3, .int x3), (4, .int x4), (5, .int x5)] → W p l e (mm_rr d) s m args below meth c H locs 0 0 (mm_Z below D A (wd_X9 cI cL cS cH a v_keptMany v_done v_rowsOf v_columnsOf v_folded v_wronged v_tapeMany v_textMany w_base w_at w_ends w_fault w_opened w_bentMany w_bentWrong w_moreWorn v_planned w_allWrong w_allWorn w_z v_wishedField v_isFound v_bestWrong v_bestWorn v_bestMany v_soughtBy v_sought v_soughtAt v_foundMany v_foundOrder v_isKept v_imageRows v_imageColumns v_imageFolded v_imageWronged v_bodies v_ran v_ownKind v_ownNumber v_limit v_changeWas v_changeIs w_shapeRows w_shapeColumns w_row w_column w_below w_face w_worn w_lastBend v_tape v_text w_names w_bends w_high w_to w_pileSize v_planLine v_planWay v_way1 v_bestWay v_order1 v_placeIn v_bodyKind v_trace v_shelf v_many v_items v_carried) (some (.int r)) args s) (F0 m 53 ls []) := by
  obtain ⟨hx, hb, hml, hown, hts, hr, hlocks, hK, hSt⟩ := id C0
  intro n
  induction n with
  | zero =>
    intro x2 x3 x4 x5 v_rowsOf v_columnsOf v_textMany v_base v_at v_ends v_fault v_opened v_bentMany v_bentWrong v_moreWorn v_planned v_allWrong v_allWorn v_z v_limit v_shapeRows v_shapeColumns v_row v_column v_below v_face v_worn v_lastBend v_tape v_text v_names v_bends v_high v_to v_pileSize v_planLine v_planWay H locs ls hf
    cases (show none = some _ from hf)
  | succ n ih =>
    intro x2 x3 x4 x5 v_rowsOf v_columnsOf v_textMany v_base v_at v_ends v_fault v_opened v_bentMany v_bentWrong v_moreWorn v_planned v_allWrong v_allWorn v_z v_limit v_shapeRows v_shapeColumns v_row v_column v_below v_face v_worn v_lastBend v_tape v_text v_names v_bends v_high v_to v_pileSize v_planLine v_planWay H locs ls hf hP hD hS hl
    unfold fX9_wind_53 at hf
    refine lv_iload hx hb dX9_wind_53 (lv_at hl 4 rfl) ?_
    refine lv_iload_n hx hb dX9_wind_55 rfl (lv_at hl 1 rfl) ?_
    refine lv_sipush (v := 1000) hx hb dX9_wind_56 (by decide) ?_
    obtain ⟨h_11, hf⟩ := mm_cks hf
    refine lv_idiv hx hb dX9_wind_59 (mm_nzs h_11) ?_
    refine lv_icmp_ge (tgt := 102) hx hb dX9_wind_60 (by decide) (fun c_12 => ?_) (fun c_12 => ?_)
    · have hf := mm_ip hf c_12
      refine lv_iload hx hb dX9_wind_102 (lv_at hl 3 rfl) ?_
      refine lv_iload_n hx hb dX9_wind_104 rfl (lv_at hl 1 rfl) ?_
      refine lv_sipush (v := 1000) hx hb dX9_wind_105 (by decide) ?_
      obtain ⟨h_13, hf⟩ := mm_cks hf
      refine lv_idiv hx hb dX9_wind_108 (mm_nzs h_13) ?_
      obtain ⟨h_14, hf⟩ := mm_cks hf
      refine lv_idiv hx hb dX9_wind_109 (mm_nzs h_14) ?_
      apply mm_sub25 hf
      exact mm_iret C0 hP hD hS dX9_wind_110
    · have hf := mm_in hf c_12
      refine lv_aload_n hx hb dX9_wind_63 rfl (lv_at hl 0 rfl) ?_
      refine lv_bipush (v := 12) hx hb dX9_wind_64 (by decide) ?_
      refine lv_iload_n hx hb dX9_wind_66 rfl (lv_at hl 1 rfl) ?_
      refine lv_sipush (v := 1000) hx hb dX9_wind_67 (by decide) ?_
      obtain ⟨h_15, hf⟩ := mm_cks hf
      refine lv_irem hx hb dX9_wind_70 (mm_nzs h_15) ?_
      refine mm_ct25 hf (fun r_16 w_17 w_18 w_19 w_20 w_21 w_22 w_23 w_24 w_25 w_26 w_27 w_28 w_29 w_30 w_31 w_32 w_33 w_34 w_35 w_36 w_37 w_38 w_39 w_40 hc_41 hf => ?_)
      refine mm_callVF (q0 := 0) (ci := 9) (rest := []) C0 lk_X9_292 (ctX9_goesPlan (a := a) (d := d - 1) (by omega) hc_41) (by omega) rfl hl.1 rfl (mm_cat rfl) dX9_wind_71 hP hD hA hS rfl rfl (fun H locs hP hD hS => ?_)
      refine W.eq (g2 := F0 m 74 ls [.int r_16]) rfl ?_
      refine lv_istore (lv' := [(6, .int r_16), (0, .ref (a 0)), (2, .int x2), (3, .int x3), (4, .int x4), (5, .int x5)]) hx hb dX9_wind_74 hl (by decide) rfl (fun ls hl => ?_)
      refine lv_iload hx hb dX9_wind_76 (lv_at hl 4 rfl) ?_
      refine lv_iload_n hx hb dX9_wind_78 rfl (lv_at hl 3 rfl) ?_
      refine lv_if_ne (tgt := 89) hx hb dX9_wind_79 (by decide) (fun c_42 => ?_) (fun c_42 => ?_)
      · have hf := mm_in hf c_42
        refine lv_aload_n hx hb dX9_wind_89 rfl (lv_at hl 1 rfl) ?_
        refine mm_get C0 hP iw_X9 0 rfl rfl 38 (by decide) fl_X9_285 rfl dX9_wind_90 ?_
        exact tX9_wind_93 hd C0 hA N ih _ _ _ _ _ _ _ _ _ _ _ _ _ _ _ _ _ _ _ _ _ _ _ _ _ _ _ _ _ _ _ _ _ _ _ _ _ _ H locs ls hf hP hD hS (lv_sub hl [1, 2, 3, 5] rfl)
      · have hf := mm_ip hf c_42
        refine lv_aload_n hx hb dX9_wind_82 rfl (lv_at hl 1 rfl) ?_
        refine mm_get C0 hP iw_X9 0 rfl rfl 37 (by decide) fl_X9_282 rfl dX9_wind_83 ?_
        refine lv_goto (tgt := 93) hx hb dX9_wind_86 (by decide) ?_
        exact tX9_wind_93 hd C0 hA N ih _ _ _ _ _ _ _ _ _ _ _ _ _ _ _ _ _ _ _ _ _ _ _ _ _ _ _ _ _ _ _ _ _ _ _ _ _ _ H locs ls hf hP hD hS (lv_sub hl [1, 2, 3, 5] rfl)

def fX9_wind (N : Nat) (x1 : Int32) (x2 : Int32) (x3 : Int32) (v_rowsOf : Int32) (v_columnsOf : Int32) (v_textMany : Int32) (v_base : Int32) (v_at : Int32) (v_ends : Int32) (v_fault : Int32) (v_opened : Int32) (v_bentMany : Int32) (v_bentWrong : Int32) (v_moreWorn : Int32) (v_planned : Int32) (v_allWrong : Int32) (v_allWorn : Int32) (v_z : Int32) (v_limit : List Int32) (v_shapeRows : List Int32) (v_shapeColumns : List Int32) (v_row : List Int32) (v_column : List Int32) (v_below : List Int32) (v_face : List Int32) (v_worn : List Int32) (v_lastBend : List Int32) (v_tape : List Int32) (v_text : List Int32) (v_names : List Int32) (v_bends : List Int32) (v_high : List Int32) (v_to : List Int32) (v_pileSize : List Int32) (v_planLine : List Int32) (v_planWay : List Int32) : Option (Int32 × Int32 × Int32 × Int32 × Int32 × Int32 × Int32 × Int32 × Int32 × Int32 × Int32 × Int32 × List Int32 × List Int32 × List Int32 × List Int32 × List Int32 × List Int32 × List Int32 × List Int32 × List Int32 × List Int32 × List Int32 × List Int32 × List Int32) :=
    if x2 < 0 then
    (some ((-1 : Int32), v_base, v_at, v_ends, v_fault, v_opened, v_bentMany, v_bentWrong, v_moreWorn, v_allWrong, v_allWorn, v_z, v_shapeRows, v_shapeColumns, v_row, v_column, v_below, v_face, v_worn, v_lastBend, v_names, v_bends, v_high, v_to, v_pileSize))
    else (mm_ck (mm_nz (1000 : Int32)) (mm_bd1 (fX9_within N ((x2 / (1000 : Int32)).toInt64) (1 : Int64) (20 : Int64)) (fun (r_3 : Bool) =>
    if r_3 = false then
    (some ((-1 : Int32), v_base, v_at, v_ends, v_fault, v_opened, v_bentMany, v_bentWrong, v_moreWorn, v_allWrong, v_allWorn, v_z, v_shapeRows, v_shapeColumns, v_row, v_column, v_below, v_face, v_worn, v_lastBend, v_names, v_bends, v_high, v_to, v_pileSize))
    else (mm_ck (mm_nz (1000 : Int32)) (if (100 : Int32) < (mm_rem x2 (1000 : Int32)) then
    (some ((-1 : Int32), v_base, v_at, v_ends, v_fault, v_opened, v_bentMany, v_bentWrong, v_moreWorn, v_allWrong, v_allWorn, v_z, v_shapeRows, v_shapeColumns, v_row, v_column, v_below, v_face, v_worn, v_lastBend, v_names, v_bends, v_high, v_to, v_pileSize))
    else (mm_bd1 (fX9_within N ((x3).toInt64) (0 : Int64) (1 : Int64)) (fun (r_8 : Bool) =>
    if r_8 = false then
    (some ((-1 : Int32), v_base, v_at, v_ends, v_fault, v_opened, v_bentMany, v_bentWrong, v_moreWorn, v_allWrong, v_allWorn, v_z, v_shapeRows, v_shapeColumns, v_row, v_column, v_below, v_face, v_worn, v_lastBend, v_names, v_bends, v_high, v_to, v_pileSize))
    else (fX9_wind_53 N N x2 x3 (0 : Int32) (0 : Int32) v_rowsOf v_columnsOf v_textMany v_base v_at v_ends v_fault v_opened v_bentMany v_bentWrong v_moreWorn v_planned v_allWrong v_allWorn x1 v_limit v_shapeRows v_shapeColumns v_row v_column v_below v_face v_worn v_lastBend v_tape v_text v_names v_bends v_high v_to v_pileSize v_planLine v_planWay))))))))

set_option maxHeartbeats 4000000 in
set_option maxRecDepth 100000 in
theorem ctX9_wind {l : Launch} {D : va_G} {cI cL cS cH : ClassId} {a : Nat → Nat} {x1 : Int32} {x2 : Int32} {x3 : Int32} {v_keptMany : Int32} {v_done : Int32} {v_rowsOf : Int32} {v_columnsOf : Int32} {v_folded : Int32} {v_wronged : Int32} {v_tapeMany : Int32} {v_textMany : Int32} {v_base : Int32} {v_at : Int32} {v_ends : Int32} {v_fault : Int32} {v_opened : Int32} {v_bentMany : Int32} {v_bentWrong : Int32} {v_moreWorn : Int32} {v_planned : Int32} {v_allWrong : Int32} {v_allWorn : Int32} {v_z : Int32} {v_wishedField : Int32} {v_isFound : Bool} {v_bestWrong : Int32} {v_bestWorn : Int32} {v_bestMany : Int32} {v_soughtBy : Int32} {v_sought : Int32} {v_soughtAt : Int32} {v_foundMany : Int32} {v_foundOrder : Int32} {v_isKept : Bool} {v_imageRows : Int32} {v_imageColumns : Int32} {v_imageFolded : Int32} {v_imageWronged : Int32} {v_bodies : Int32} {v_ran : Int32} {v_ownKind : Int32} {v_ownNumber : Int32} {v_limit : List Int32} {v_changeWas : List Int32} {v_changeIs : List Int32} {v_shapeRows : List Int32} {v_shapeColumns : List Int32} {v_row : List Int32} {v_column : List Int32} {v_below : List Int32} {v_face : List Int32} {v_worn : List Int32} {v_lastBend : List Int32} {v_tape : List Int32} {v_text : List Int32} {v_names : List Int32} {v_bends : List Int32} {v_high : List Int32} {v_to : List Int32} {v_pileSize : List Int32} {v_planLine : List Int32} {v_planWay : List Int32} {v_way1 : List Int32} {v_bestWay : List Int32} {v_order1 : List Int32} {v_placeIn : List Int32} {v_bodyKind : List Int32} {v_trace : List Int32} {v_shelf : List Int32} {v_many : List Int32} {v_items : List Int64} {v_carried : List Int64} {r : Int32} {w_base : Int32} {w_at : Int32} {w_ends : Int32} {w_fault : Int32} {w_opened : Int32} {w_bentMany : Int32} {w_bentWrong : Int32} {w_moreWorn : Int32} {w_allWrong : Int32} {w_allWorn : Int32} {w_z : Int32} {w_shapeRows : List Int32} {w_shapeColumns : List Int32} {w_row : List Int32} {w_column : List Int32} {w_below : List Int32} {w_face : List Int32} {w_worn : List Int32} {w_lastBend : List Int32} {w_names : List Int32} {w_bends : List Int32} {w_high : List Int32} {w_to : List Int32} {w_pileSize : List Int32} {N d : Nat} (hd : 61 ≤ d) (hf : fX9_wind N x1 x2 x3 v_rowsOf v_columnsOf v_textMany v_base v_at v_ends v_fault v_opened v_bentMany v_bentWrong v_moreWorn v_planned v_allWrong v_allWorn v_z v_limit v_shapeRows v_shapeColumns v_row v_column v_below v_face v_worn v_lastBend v_tape v_text v_names v_bends v_high v_to v_pileSize v_planLine v_planWay = some (r, w_base, w_at, w_ends, w_fault, w_opened, w_bentMany, w_bentWrong, w_moreWorn, w_allWrong, w_allWorn, w_z, w_shapeRows, w_shapeColumns, w_row, w_column, w_below, w_face, w_worn, w_lastBend, w_names, w_bends, w_high, w_to, w_pileSize)) : mm_Ct l yX9_wind cX9_wind 7 (some .int) d D (mm_T cI cL cS cH) [.ref (a 0), .int x1, .int x2, .int x3] (wd_X9 cI cL cS cH a v_keptMany v_done v_rowsOf v_columnsOf v_folded v_wronged v_tapeMany v_textMany v_base v_at v_ends v_fault v_opened v_bentMany v_bentWrong v_moreWorn v_planned v_allWrong v_allWorn v_z v_wishedField v_isFound v_bestWrong v_bestWorn v_bestMany v_soughtBy v_sought v_soughtAt v_foundMany v_foundOrder v_isKept v_imageRows v_imageColumns v_imageFolded v_imageWronged v_bodies v_ran v_ownKind v_ownNumber v_limit v_changeWas v_changeIs v_shapeRows v_shapeColumns v_row v_column v_below v_face v_worn v_lastBend v_tape v_text v_names v_bends v_high v_to v_pileSize v_planLine v_planWay v_way1 v_bestWay v_order1 v_placeIn v_bodyKind v_trace v_shelf v_many v_items v_carried) (wd_X9 cI cL cS cH a v_keptMany v_done v_rowsOf v_columnsOf v_folded v_wronged v_tapeMany v_textMany w_base w_at w_ends w_fault w_opened w_bentMany w_bentWrong w_moreWorn v_planned w_allWrong w_allWorn w_z v_wishedField v_isFound v_bestWrong v_bestWorn v_bestMany v_soughtBy v_sought v_soughtAt v_foundMany v_foundOrder v_isKept v_imageRows v_imageColumns v_imageFolded v_imageWronged v_bodies v_ran v_ownKind v_ownNumber v_limit v_changeWas v_changeIs w_shapeRows w_shapeColumns w_row w_column w_below w_face w_worn w_lastBend v_tape v_text w_names w_bends w_high w_to w_pileSize v_planLine v_planWay v_way1 v_bestWay v_order1 v_placeIn v_bodyKind v_trace v_shelf v_many v_items v_carried) (some (.int r)) := by
  refine mm_of (by decide) (Nat.le_of_ble_eq_true rfl) ?_
  intro p e s m args below meth c A H locs ls C0 hP hD hA hS hl
  have C0 : mm_Cx p s m args meth c RX9 cX9_wind 7 (some .int) D (mm_T cI cL cS cH) A := C0
  obtain ⟨hx, hb, hml, hown, hts, hr, hlocks, hK, hSt⟩ := id C0
  have hl : lv_has ls 7 [(0, .ref (a 0)), (1, .int x1), (2, .int x2), (3, .int x3)] := hl
  unfold fX9_wind at hf
  refine lv_iload_n hx hb dX9_wind_0 rfl (lv_at hl 2 rfl) ?_
  refine lv_if_lt (tgt := 40) hx hb dX9_wind_1 (by decide) (fun c_1 => ?_) (fun c_1 => ?_)
  · have hf := mm_ip hf c_1
    refine lv_iconst (v := -1) hx hb dX9_wind_40 (by decide) ?_
    apply mm_sub25 hf
    exact mm_iret C0 hP hD hS dX9_wind_41
  · have hf := mm_in hf c_1
    refine lv_iload_n hx hb dX9_wind_4 rfl (lv_at hl 2 rfl) ?_
    refine lv_sipush (v := 1000) hx hb dX9_wind_5 (by decide) ?_
    obtain ⟨h_2, hf⟩ := mm_cks hf
    refine lv_idiv hx hb dX9_wind_8 (mm_nzs h_2) ?_
    refine lv_i2l hx hb dX9_wind_9 rfl ?_
    refine lv_lconst (v := 1) hx hb dX9_wind_10 (by decide) ?_
    refine lv_ldc2 hx hb hown (hts _ kc_X9_335) dX9_wind_11 ?_
    obtain ⟨r_3, hc_4, hf⟩ := mm_bd1s hf
    refine mm_callS0 (rest := []) C0 lk_X9_111 (ctX9_within (d := d - 1) (by omega) hc_4) (by omega) rfl hl.1 rfl (mm_cat rfl) dX9_wind_14 hP hD hA hS (fun H locs hP hS => ?_)
    refine W.eq (g2 := F0 m 17 ls [.int (mm_b r_3)]) rfl ?_
    refine lv_if_eq (tgt := 40) hx hb dX9_wind_17 (by decide) (fun c_5 => ?_) (fun c_5 => ?_)
    · have hf := mm_ip hf (mm_b0 c_5)
      refine lv_iconst (v := -1) hx hb dX9_wind_40 (by decide) ?_
      apply mm_sub25 hf
      exact mm_iret C0 hP hD hS dX9_wind_41
    · have hf := mm_in hf (mm_b1 c_5)
      refine lv_iload_n hx hb dX9_wind_20 rfl (lv_at hl 2 rfl) ?_
      refine lv_sipush (v := 1000) hx hb dX9_wind_21 (by decide) ?_
      obtain ⟨h_6, hf⟩ := mm_cks hf
      refine lv_irem hx hb dX9_wind_24 (mm_nzs h_6) ?_
      refine lv_bipush (v := 100) hx hb dX9_wind_25 (by decide) ?_
      refine lv_icmp_gt (tgt := 40) hx hb dX9_wind_27 (by decide) (fun c_7 => ?_) (fun c_7 => ?_)
      · have hf := mm_ip hf c_7
        refine lv_iconst (v := -1) hx hb dX9_wind_40 (by decide) ?_
        apply mm_sub25 hf
        exact mm_iret C0 hP hD hS dX9_wind_41
      · have hf := mm_in hf c_7
        refine lv_iload_n hx hb dX9_wind_30 rfl (lv_at hl 3 rfl) ?_
        refine lv_i2l hx hb dX9_wind_31 rfl ?_
        refine lv_lconst (v := 0) hx hb dX9_wind_32 (by decide) ?_
        refine lv_lconst (v := 1) hx hb dX9_wind_33 (by decide) ?_
        obtain ⟨r_8, hc_9, hf⟩ := mm_bd1s hf
        refine mm_callS0 (rest := []) C0 lk_X9_111 (ctX9_within (d := d - 1) (by omega) hc_9) (by omega) rfl hl.1 rfl (mm_cat rfl) dX9_wind_34 hP hD hA hS (fun H locs hP hS => ?_)
        refine W.eq (g2 := F0 m 37 ls [.int (mm_b r_8)]) rfl ?_
        refine lv_if_ne (tgt := 42) hx hb dX9_wind_37 (by decide) (fun c_10 => ?_) (fun c_10 => ?_)
        · have hf := mm_in hf (mm_b1 c_10)
          refine lv_aload_n hx hb dX9_wind_42 rfl (lv_at hl 0 rfl) ?_
          refine lv_iload_n hx hb dX9_wind_43 rfl (lv_at hl 1 rfl) ?_
          refine mm_put C0 hP hD hS iw_X9 tyX9 tyX9_ok nmX9 0 rfl rfl 39 (by decide) fl_X9_288 rfl rfl rfl (Nat.le_of_ble_eq_true rfl) dX9_wind_44 (w2 := (wd_X9 cI cL cS cH a v_keptMany v_done v_rowsOf v_columnsOf v_folded v_wronged v_tapeMany v_textMany v_base v_at v_ends v_fault v_opened v_bentMany v_bentWrong v_moreWorn v_planned v_allWrong v_allWorn x1 v_wishedField v_isFound v_bestWrong v_bestWorn v_bestMany v_soughtBy v_sought v_soughtAt v_foundMany v_foundOrder v_isKept v_imageRows v_imageColumns v_imageFolded v_imageWronged v_bodies v_ran v_ownKind v_ownNumber v_limit v_changeWas v_changeIs v_shapeRows v_shapeColumns v_row v_column v_below v_face v_worn v_lastBend v_tape v_text v_names v_bends v_high v_to v_pileSize v_planLine v_planWay v_way1 v_bestWay v_order1 v_placeIn v_bodyKind v_trace v_shelf v_many v_items v_carried)) rfl (fun H locs hP hD hS => ?_)
          refine lv_iconst (v := 0) hx hb dX9_wind_47 (by decide) ?_
          refine lv_istore (lv' := [(4, .int (0 : Int32)), (0, .ref (a 0)), (1, .int x1), (2, .int x2), (3, .int x3)]) hx hb dX9_wind_48 hl (by decide) rfl (fun ls hl => ?_)
          refine lv_iconst (v := 0) hx hb dX9_wind_50 (by decide) ?_
          refine lv_istore (lv' := [(5, .int (0 : Int32)), (4, .int (0 : Int32)), (0, .ref (a 0)), (1, .int x1), (2, .int x2), (3, .int x3)]) hx hb dX9_wind_51 hl (by decide) rfl (fun ls hl => ?_)
          exact tX9_wind_53 hd C0 hA N  N _ _ _ _ _ _ _ _ _ _ _ _ _ _ _ _ _ _ _ _ _ _ _ _ _ _ _ _ _ _ _ _ _ _ _ _ _ H locs ls hf hP hD hS (lv_sub hl [2, 4, 5, 1, 0] rfl)
        · have hf := mm_ip hf (mm_b0 c_10)
          refine lv_iconst (v := -1) hx hb dX9_wind_40 (by decide) ?_
          apply mm_sub25 hf
          exact mm_iret C0 hP hD hS dX9_wind_41

theorem dX9_isStrip_0 : decode cX9_isStrip 0 = .ok (.iload_n 0, 1) := by decide +kernel
theorem dX9_isStrip_1 : decode cX9_isStrip 1 = .ok (.i2l, 1) := by decide +kernel
theorem dX9_isStrip_2 : decode cX9_isStrip 2 = .ok (.ldc2_w 247, 3) := by decide +kernel
theorem dX9_isStrip_5 : decode cX9_isStrip 5 = .ok (.ldc2_w 238, 3) := by decide +kernel
theorem dX9_isStrip_8 : decode cX9_isStrip 8 = .ok (.invokestatic 111, 3) := by decide +kernel
theorem dX9_isStrip_11 : decode cX9_isStrip 11 = .ok (.ireturn, 1) := by decide +kernel
def fX9_isStrip (N : Nat) (x0 : Int32) : Option (Bool) :=
    mm_bd1 (fX9_within N ((x0).toInt64) (2 : Int64) (7 : Int64)) (fun (r_1 : Bool) =>
    some (r_1))

set_option maxHeartbeats 4000000 in
set_option maxRecDepth 100000 in
theorem ctX9_isStrip {l : Launch} {D : va_G} {cI cL cS cH : ClassId} {x0 : Int32}  {r : Bool} {N d : Nat} (hd : 2 ≤ d) (hf : fX9_isStrip N x0 = some r) : mm_Ct l yX9_isStrip cX9_isStrip 1 (some .boolean) d D (mm_T cI cL cS cH) [.int x0] ([] : va_W) ([] : va_W) (some (.int (mm_b r))) := by
  refine mm_of (by decide) (Nat.le_of_ble_eq_true rfl) ?_
  intro p e s m args below meth c A H locs ls C0 hP hD hA hS hl
  have C0 : mm_Cx p s m args meth c RX9 cX9_isStrip 1 (some .boolean) D (mm_T cI cL cS cH) A := C0
  obtain ⟨hx, hb, hml, hown, hts, hr, hlocks, hK, hSt⟩ := id C0
  have hl : lv_has ls 1 [(0, .int x0)] := hl
  unfold fX9_isStrip at hf
  refine lv_iload_n hx hb dX9_isStrip_0 rfl (lv_at hl 0 rfl) ?_
  refine lv_i2l hx hb dX9_isStrip_1 rfl ?_
  refine lv_ldc2 hx hb hown (hts _ kc_X9_247) dX9_isStrip_2 ?_
  refine lv_ldc2 hx hb hown (hts _ kc_X9_238) dX9_isStrip_5 ?_
  obtain ⟨r_1, hc_2, hf⟩ := mm_bd1s hf
  refine mm_callS0 (rest := []) C0 lk_X9_111 (ctX9_within (d := d - 1) (by omega) hc_2) (by omega) rfl hl.1 rfl (mm_cat rfl) dX9_isStrip_8 hP hD hA hS (fun H locs hP hS => ?_)
  refine W.eq (g2 := F0 m 11 ls [.int (mm_b r_1)]) rfl ?_
  obtain rfl := mm_inj1 hf
  exact mm_zret C0 hP hD hS dX9_isStrip_11 rfl

theorem dX9_isOrder_0 : decode cX9_isOrder 0 = .ok (.iconst 0, 1) := by decide +kernel
theorem dX9_isOrder_1 : decode cX9_isOrder 1 = .ok (.istore_n 3, 1) := by decide +kernel
theorem dX9_isOrder_2 : decode cX9_isOrder 2 = .ok (.iload_n 2, 1) := by decide +kernel
theorem dX9_isOrder_3 : decode cX9_isOrder 3 = .ok (.istore 4, 2) := by decide +kernel
theorem dX9_isOrder_5 : decode cX9_isOrder 5 = .ok (.iload_n 1, 1) := by decide +kernel
theorem dX9_isOrder_6 : decode cX9_isOrder 6 = .ok (.iconst 1, 1) := by decide +kernel
theorem dX9_isOrder_7 : decode cX9_isOrder 7 = .ok (.isub, 1) := by decide +kernel
theorem dX9_isOrder_8 : decode cX9_isOrder 8 = .ok (.istore 5, 2) := by decide +kernel
theorem dX9_isOrder_10 : decode cX9_isOrder 10 = .ok (.iload 5, 2) := by decide +kernel
theorem dX9_isOrder_12 : decode cX9_isOrder 12 = .ok (.ifCond .lt 81, 3) := by decide +kernel
theorem dX9_isOrder_15 : decode cX9_isOrder 15 = .ok (.iload 4, 2) := by decide +kernel
theorem dX9_isOrder_17 : decode cX9_isOrder 17 = .ok (.bipush 10, 2) := by decide +kernel
theorem dX9_isOrder_19 : decode cX9_isOrder 19 = .ok (.irem, 1) := by decide +kernel
theorem dX9_isOrder_20 : decode cX9_isOrder 20 = .ok (.iconst 1, 1) := by decide +kernel
theorem dX9_isOrder_21 : decode cX9_isOrder 21 = .ok (.isub, 1) := by decide +kernel
theorem dX9_isOrder_22 : decode cX9_isOrder 22 = .ok (.istore 6, 2) := by decide +kernel
theorem dX9_isOrder_24 : decode cX9_isOrder 24 = .ok (.iload 4, 2) := by decide +kernel
theorem dX9_isOrder_26 : decode cX9_isOrder 26 = .ok (.ifCond .le 27, 3) := by decide +kernel
theorem dX9_isOrder_29 : decode cX9_isOrder 29 = .ok (.iload 6, 2) := by decide +kernel
theorem dX9_isOrder_31 : decode cX9_isOrder 31 = .ok (.i2l, 1) := by decide +kernel
theorem dX9_isOrder_32 : decode cX9_isOrder 32 = .ok (.lconst 0, 1) := by decide +kernel
theorem dX9_isOrder_33 : decode cX9_isOrder 33 = .ok (.iload_n 1, 1) := by decide +kernel
theorem dX9_isOrder_34 : decode cX9_isOrder 34 = .ok (.iconst 1, 1) := by decide +kernel
theorem dX9_isOrder_35 : decode cX9_isOrder 35 = .ok (.isub, 1) := by decide +kernel
theorem dX9_isOrder_36 : decode cX9_isOrder 36 = .ok (.i2l, 1) := by decide +kernel
theorem dX9_isOrder_37 : decode cX9_isOrder 37 = .ok (.invokestatic 111, 3) := by decide +kernel
theorem dX9_isOrder_40 : decode cX9_isOrder 40 = .ok (.ifCond .eq 13, 3) := by decide +kernel
theorem dX9_isOrder_43 : decode cX9_isOrder 43 = .ok (.iload_n 3, 1) := by decide +kernel
theorem dX9_isOrder_44 : decode cX9_isOrder 44 = .ok (.iload 6, 2) := by decide +kernel
theorem dX9_isOrder_46 : decode cX9_isOrder 46 = .ok (.ishr, 1) := by decide +kernel
theorem dX9_isOrder_47 : decode cX9_isOrder 47 = .ok (.iconst 1, 1) := by decide +kernel
theorem dX9_isOrder_48 : decode cX9_isOrder 48 = .ok (.iand, 1) := by decide +kernel
theorem dX9_isOrder_49 : decode cX9_isOrder 49 = .ok (.iconst 1, 1) := by decide +kernel
theorem dX9_isOrder_50 : decode cX9_isOrder 50 = .ok (.if_icmp .ne 5, 3) := by decide +kernel
theorem dX9_isOrder_53 : decode cX9_isOrder 53 = .ok (.iconst 0, 1) := by decide +kernel
theorem dX9_isOrder_54 : decode cX9_isOrder 54 = .ok (.ireturn, 1) := by decide +kernel
theorem dX9_isOrder_55 : decode cX9_isOrder 55 = .ok (.iload_n 3, 1) := by decide +kernel
theorem dX9_isOrder_56 : decode cX9_isOrder 56 = .ok (.iconst 1, 1) := by decide +kernel
theorem dX9_isOrder_57 : decode cX9_isOrder 57 = .ok (.iload 6, 2) := by decide +kernel
theorem dX9_isOrder_59 : decode cX9_isOrder 59 = .ok (.ishl, 1) := by decide +kernel
theorem dX9_isOrder_60 : decode cX9_isOrder 60 = .ok (.ior, 1) := by decide +kernel
theorem dX9_isOrder_61 : decode cX9_isOrder 61 = .ok (.istore_n 3, 1) := by decide +kernel
theorem dX9_isOrder_62 : decode cX9_isOrder 62 = .ok (.aload_n 0, 1) := by decide +kernel
theorem dX9_isOrder_63 : decode cX9_isOrder 63 = .ok (.getfield 76, 3) := by decide +kernel
theorem dX9_isOrder_66 : decode cX9_isOrder 66 = .ok (.iload 5, 2) := by decide +kernel
theorem dX9_isOrder_68 : decode cX9_isOrder 68 = .ok (.iload 6, 2) := by decide +kernel
theorem dX9_isOrder_70 : decode cX9_isOrder 70 = .ok (.iastore, 1) := by decide +kernel
theorem dX9_isOrder_71 : decode cX9_isOrder 71 = .ok (.aload_n 0, 1) := by decide +kernel
theorem dX9_isOrder_72 : decode cX9_isOrder 72 = .ok (.getfield 79, 3) := by decide +kernel
theorem dX9_isOrder_75 : decode cX9_isOrder 75 = .ok (.iload 6, 2) := by decide +kernel
theorem dX9_isOrder_77 : decode cX9_isOrder 77 = .ok (.iload 5, 2) := by decide +kernel
theorem dX9_isOrder_79 : decode cX9_isOrder 79 = .ok (.iastore, 1) := by decide +kernel
theorem dX9_isOrder_80 : decode cX9_isOrder 80 = .ok (.iload 4, 2) := by decide +kernel
theorem dX9_isOrder_82 : decode cX9_isOrder 82 = .ok (.bipush 10, 2) := by decide +kernel
theorem dX9_isOrder_84 : decode cX9_isOrder 84 = .ok (.idiv, 1) := by decide +kernel
theorem dX9_isOrder_85 : decode cX9_isOrder 85 = .ok (.istore 4, 2) := by decide +kernel
theorem dX9_isOrder_87 : decode cX9_isOrder 87 = .ok (.iinc 5 (-1), 3) := by decide +kernel
theorem dX9_isOrder_90 : decode cX9_isOrder 90 = .ok (.goto (-80), 3) := by decide +kernel
theorem dX9_isOrder_93 : decode cX9_isOrder 93 = .ok (.iload 4, 2) := by decide +kernel
theorem dX9_isOrder_95 : decode cX9_isOrder 95 = .ok (.ifCond .ne 7, 3) := by decide +kernel
theorem dX9_isOrder_98 : decode cX9_isOrder 98 = .ok (.iconst 1, 1) := by decide +kernel
theorem dX9_isOrder_99 : decode cX9_isOrder 99 = .ok (.goto 4, 3) := by decide +kernel
theorem dX9_isOrder_102 : decode cX9_isOrder 102 = .ok (.iconst 0, 1) := by decide +kernel
theorem dX9_isOrder_103 : decode cX9_isOrder 103 = .ok (.ireturn, 1) := by decide +kernel
def fX9_isOrder_10 (N : Nat)  : Nat → Int32 → Int32 → Int32 → Int32 → List Int32 → List Int32 → Option (Bool × List Int32 × List Int32)
  | 0 => fun _ _ _ _ _ _ => none
  | n + 1 => fun x1 x3 x4 x5 v_order1 v_placeIn =>
    if x5 < 0 then
    (if x4 = 0 then
    (some (true, v_order1, v_placeIn))
    else (some (false, v_order1, v_placeIn)))
    else (mm_ck (mm_nz (10 : Int32)) (mm_nm (((mm_rem x4 (10 : Int32)) - (1 : Int32))) (fun (y_5 : Int32) =>
    if x4 ≤ 0 then
    (some (false, v_order1, v_placeIn))
    else (mm_bd1 (fX9_within N ((y_5).toInt64) (0 : Int64) ((x1 - (1 : Int32)).toInt64)) (fun (r_7 : Bool) =>
    if r_7 = false then
    (some (false, v_order1, v_placeIn))
    else (if ((x3 >>> (y_5 &&& 31)) &&& (1 : Int32)) = (1 : Int32) then
    (some (false, v_order1, v_placeIn))
    else (mm_nm ((x3 ||| ((1 : Int32) <<< (y_5 &&& 31)))) (fun (y_11 : Int32) =>
    mm_ck (mm_inb x5 v_order1.length) (mm_nm (mm_is v_order1 x5 y_5) (fun (l_13 : List Int32) =>
    mm_ck (mm_inb y_5 v_placeIn.length) (mm_nm (mm_is v_placeIn y_5 x5) (fun (l_15 : List Int32) =>
    mm_ck (mm_nz (10 : Int32)) (mm_nm ((x4 / (10 : Int32))) (fun (y_17 : Int32) =>
    mm_nm (x5 + (-1 : Int32)) (fun (y_18 : Int32) =>
    fX9_isOrder_10 N n x1 y_11 y_17 y_18 l_13 l_15)))))))))))))))

set_option maxHeartbeats 4000000 in
set_option maxRecDepth 100000 in
theorem tX9_isOrder_10 {p : Program} {l : Launch} {e : Env} {s : State} {m : MethodId} {args : Array Value} {below : List Frame} {meth : Method} {c : Code} {D : va_G} {cI cL cS cH : ClassId} {A : Nat → Prop} {d : Nat} {a : Nat → Nat} (hd : 2 ≤ d) (C0 : mm_Cx p s m args meth c RX9 cX9_isOrder 7 (some .boolean) D (mm_T cI cL cS cH) A) (hA : ∀ q, s.heap.size ≤ q → A q) {v_keptMany : Int32} {v_done : Int32} {v_rowsOf : Int32} {v_columnsOf : Int32} {v_folded : Int32} {v_wronged : Int32} {v_tapeMany : Int32} {v_textMany : Int32} {v_base : Int32} {v_at : Int32} {v_ends : Int32} {v_fault : Int32} {v_opened : Int32} {v_bentMany : Int32} {v_bentWrong : Int32} {v_moreWorn : Int32} {v_planned : Int32} {v_allWrong : Int32} {v_allWorn : Int32} {v_z : Int32} {v_wishedField : Int32} {v_isFound : Bool} {v_bestWrong : Int32} {v_bestWorn : Int32} {v_bestMany : Int32} {v_soughtBy : Int32} {v_sought : Int32} {v_soughtAt : Int32} {v_foundMany : Int32} {v_foundOrder : Int32} {v_isKept : Bool} {v_imageRows : Int32} {v_imageColumns : Int32} {v_imageFolded : Int32} {v_imageWronged : Int32} {v_bodies : Int32} {v_ran : Int32} {v_ownKind : Int32} {v_ownNumber : Int32} {v_limit : List Int32} {v_changeWas : List Int32} {v_changeIs : List Int32} {v_shapeRows : List Int32} {v_shapeColumns : List Int32} {v_row : List Int32} {v_column : List Int32} {v_below : List Int32} {v_face : List Int32} {v_worn : List Int32} {v_lastBend : List Int32} {v_tape : List Int32} {v_text : List Int32} {v_names : List Int32} {v_bends : List Int32} {v_high : List Int32} {v_to : List Int32} {v_pileSize : List Int32} {v_planLine : List Int32} {v_planWay : List Int32} {v_way1 : List Int32} {v_bestWay : List Int32} {v_bodyKind : List Int32} {v_trace : List Int32} {v_shelf : List Int32} {v_many : List Int32} {v_items : List Int64} {v_carried : List Int64} {r : Bool} {w_order1 : List Int32} {w_placeIn : List Int32} (N : Nat)  : ∀ (n : Nat), ∀ (x1 : Int32) (x3 : Int32) (x4 : Int32) (x5 : Int32) (v_order1 : List Int32) (v_placeIn : List Int32) (H : Heap) (locs : List Loc) (ls : Array Slot), fX9_isOrder_10 N n x1 x3 x4 x5 v_order1 v_placeIn = some (r, w_order1, w_placeIn) → va_P D mm_cl (wd_X9 cI cL cS cH a v_keptMany v_done v_rowsOf v_columnsOf v_folded v_wronged v_tapeMany v_textMany v_base v_at v_ends v_fault v_opened v_bentMany v_bentWrong v_moreWorn v_planned v_allWrong v_allWorn v_z v_wishedField v_isFound v_bestWrong v_bestWorn v_bestMany v_soughtBy v_sought v_soughtAt v_foundMany v_foundOrder v_isKept v_imageRows v_imageColumns v_imageFolded v_imageWronged v_bodies v_ran v_ownKind v_ownNumber v_limit v_changeWas v_changeIs v_shapeRows v_shapeColumns v_row v_column v_below v_face v_worn v_lastBend v_tape v_text v_names v_bends v_high v_to v_pileSize v_planLine v_planWay v_way1 v_bestWay v_order1 v_placeIn v_bodyKind v_trace v_shelf v_many v_items v_carried) H → va_D A (wd_X9 cI cL cS cH a v_keptMany v_done v_rowsOf v_columnsOf v_folded v_wronged v_tapeMany v_textMany v_base v_at v_ends v_fault v_opened v_bentMany v_bentWrong v_moreWorn v_planned v_allWrong v_allWorn v_z v_wishedField v_isFound v_bestWrong v_bestWorn v_bestMany v_soughtBy v_sought v_soughtAt v_foundMany v_foundOrder v_isKept v_imageRows v_imageColumns v_imageFolded v_imageWronged v_bodies v_ran v_ownKind v_ownNumber v_limit v_changeWas v_changeIs v_shapeRows v_shapeColumns v_row v_column v_below v_face v_worn v_lastBend v_tape v_text v_names v_bends v_high v_to v_pileSize v_planLine v_planWay v_way1 v_bestWay v_order1 v_placeIn v_bodyKind v_trace v_shelf v_many v_items v_carried) → va_S A s.heap H locs → lv_has ls 7 [(0, .ref (a 0)), (1, .int x1), (3, .int x3), (4, .int x4), (5, .int x5)] → W p l e (mm_rr d) s m args below meth c H locs 0 0 (mm_Z below D A (wd_X9 cI cL cS cH a v_keptMany v_done v_rowsOf v_columnsOf v_folded v_wronged v_tapeMany v_textMany v_base v_at v_ends v_fault v_opened v_bentMany v_bentWrong v_moreWorn v_planned v_allWrong v_allWorn v_z v_wishedField v_isFound v_bestWrong v_bestWorn v_bestMany v_soughtBy v_sought v_soughtAt v_foundMany v_foundOrder v_isKept v_imageRows v_imageColumns v_imageFolded v_imageWronged v_bodies v_ran v_ownKind v_ownNumber v_limit v_changeWas v_changeIs v_shapeRows v_shapeColumns v_row v_column v_below v_face v_worn v_lastBend v_tape v_text v_names v_bends v_high v_to v_pileSize v_planLine v_planWay v_way1 v_bestWay w_order1 w_placeIn v_bodyKind v_trace v_shelf v_many v_items v_carried) (some (.int (mm_b r))) args s) (F0 m 10 ls []) := by
  obtain ⟨hx, hb, hml, hown, hts, hr, hlocks, hK, hSt⟩ := id C0
  intro n
  induction n with
  | zero =>
    intro x1 x3 x4 x5 v_order1 v_placeIn H locs ls hf
    cases (show none = some _ from hf)
  | succ n ih =>
    intro x1 x3 x4 x5 v_order1 v_placeIn H locs ls hf hP hD hS hl
    unfold fX9_isOrder_10 at hf
    refine lv_iload hx hb dX9_isOrder_10 (lv_at hl 4 rfl) ?_
    refine lv_if_lt (tgt := 93) hx hb dX9_isOrder_12 (by decide) (fun c_2 => ?_) (fun c_2 => ?_)
    · have hf := mm_ip hf c_2
      refine lv_iload hx hb dX9_isOrder_93 (lv_at hl 3 rfl) ?_
      refine lv_if_ne (tgt := 102) hx hb dX9_isOrder_95 (by decide) (fun c_3 => ?_) (fun c_3 => ?_)
      · have hf := mm_in hf c_3
        refine lv_iconst (v := 0) hx hb dX9_isOrder_102 (by decide) ?_
        apply mm_sub3 hf
        exact mm_zret (v := false) C0 hP hD hS dX9_isOrder_103 (by decide)
      · have hf := mm_ip hf c_3
        refine lv_iconst (v := 1) hx hb dX9_isOrder_98 (by decide) ?_
        refine lv_goto (tgt := 103) hx hb dX9_isOrder_99 (by decide) ?_
        apply mm_sub3 hf
        exact mm_zret (v := true) C0 hP hD hS dX9_isOrder_103 (by decide)
    · have hf := mm_in hf c_2
      refine lv_iload hx hb dX9_isOrder_15 (lv_at hl 3 rfl) ?_
      refine lv_bipush (v := 10) hx hb dX9_isOrder_17 (by decide) ?_
      obtain ⟨h_4, hf⟩ := mm_cks hf
      refine lv_irem hx hb dX9_isOrder_19 (mm_nzs h_4) ?_
      refine lv_iconst (v := 1) hx hb dX9_isOrder_20 (by decide) ?_
      refine lv_isub hx hb dX9_isOrder_21 ?_
      refine lv_topi (fun y_5 ey_5 => ?_)
      have hf := mm_nms hf ey_5
      refine lv_istore (lv' := [(6, .int y_5), (0, .ref (a 0)), (1, .int x1), (3, .int x3), (4, .int x4), (5, .int x5)]) hx hb dX9_isOrder_22 hl (by decide) rfl (fun ls hl => ?_)
      refine lv_iload hx hb dX9_isOrder_24 (lv_at hl 4 rfl) ?_
      refine lv_if_le (tgt := 53) hx hb dX9_isOrder_26 (by decide) (fun c_6 => ?_) (fun c_6 => ?_)
      · have hf := mm_ip hf c_6
        refine lv_iconst (v := 0) hx hb dX9_isOrder_53 (by decide) ?_
        apply mm_sub3 hf
        exact mm_zret (v := false) C0 hP hD hS dX9_isOrder_54 (by decide)
      · have hf := mm_in hf c_6
        refine lv_iload hx hb dX9_isOrder_29 (lv_at hl 0 rfl) ?_
        refine lv_i2l hx hb dX9_isOrder_31 rfl ?_
        refine lv_lconst (v := 0) hx hb dX9_isOrder_32 (by decide) ?_
        refine lv_iload_n hx hb dX9_isOrder_33 rfl (lv_at hl 2 rfl) ?_
        refine lv_iconst (v := 1) hx hb dX9_isOrder_34 (by decide) ?_
        refine lv_isub hx hb dX9_isOrder_35 ?_
        refine lv_i2l hx hb dX9_isOrder_36 rfl ?_
        obtain ⟨r_7, hc_8, hf⟩ := mm_bd1s hf
        refine mm_callS0 (rest := []) C0 lk_X9_111 (ctX9_within (d := d - 1) (by omega) hc_8) (by omega) rfl hl.1 rfl (mm_cat rfl) dX9_isOrder_37 hP hD hA hS (fun H locs hP hS => ?_)
        refine W.eq (g2 := F0 m 40 ls [.int (mm_b r_7)]) rfl ?_
        refine lv_if_eq (tgt := 53) hx hb dX9_isOrder_40 (by decide) (fun c_9 => ?_) (fun c_9 => ?_)
        · have hf := mm_ip hf (mm_b0 c_9)
          refine lv_iconst (v := 0) hx hb dX9_isOrder_53 (by decide) ?_
          apply mm_sub3 hf
          exact mm_zret (v := false) C0 hP hD hS dX9_isOrder_54 (by decide)
        · have hf := mm_in hf (mm_b1 c_9)
          refine lv_iload_n hx hb dX9_isOrder_43 rfl (lv_at hl 3 rfl) ?_
          refine lv_iload hx hb dX9_isOrder_44 (lv_at hl 0 rfl) ?_
          refine lv_ishr hx hb dX9_isOrder_46 ?_
          refine lv_iconst (v := 1) hx hb dX9_isOrder_47 (by decide) ?_
          refine lv_iand hx hb dX9_isOrder_48 ?_
          refine lv_iconst (v := 1) hx hb dX9_isOrder_49 (by decide) ?_
          refine lv_icmp_ne (tgt := 55) hx hb dX9_isOrder_50 (by decide) (fun c_10 => ?_) (fun c_10 => ?_)
          · have hf := mm_in hf c_10
            refine lv_iload_n hx hb dX9_isOrder_55 rfl (lv_at hl 3 rfl) ?_
            refine lv_iconst (v := 1) hx hb dX9_isOrder_56 (by decide) ?_
            refine lv_iload hx hb dX9_isOrder_57 (lv_at hl 0 rfl) ?_
            refine lv_ishl hx hb dX9_isOrder_59 ?_
            refine lv_ior hx hb dX9_isOrder_60 ?_
            refine lv_topi (fun y_11 ey_11 => ?_)
            have hf := mm_nms hf ey_11
            refine lv_istore_n (lv' := [(3, .int y_11), (6, .int y_5), (0, .ref (a 0)), (1, .int x1), (4, .int x4), (5, .int x5)]) hx hb dX9_isOrder_61 rfl hl (by decide) rfl (fun ls hl => ?_)
            refine lv_aload_n hx hb dX9_isOrder_62 rfl (lv_at hl 2 rfl) ?_
            refine mm_get C0 hP iw_X9 0 rfl rfl 47 (by decide) fl_X9_76 rfl dX9_isOrder_63 ?_
            refine lv_iload hx hb dX9_isOrder_66 (lv_at hl 5 rfl) ?_
            refine lv_iload hx hb dX9_isOrder_68 (lv_at hl 1 rfl) ?_
            obtain ⟨h_12, hf⟩ := mm_cks hf
            refine mm_iast C0 hP hD hS 23 rfl h_12 dX9_isOrder_70 (w2 := (wd_X9 cI cL cS cH a v_keptMany v_done v_rowsOf v_columnsOf v_folded v_wronged v_tapeMany v_textMany v_base v_at v_ends v_fault v_opened v_bentMany v_bentWrong v_moreWorn v_planned v_allWrong v_allWorn v_z v_wishedField v_isFound v_bestWrong v_bestWorn v_bestMany v_soughtBy v_sought v_soughtAt v_foundMany v_foundOrder v_isKept v_imageRows v_imageColumns v_imageFolded v_imageWronged v_bodies v_ran v_ownKind v_ownNumber v_limit v_changeWas v_changeIs v_shapeRows v_shapeColumns v_row v_column v_below v_face v_worn v_lastBend v_tape v_text v_names v_bends v_high v_to v_pileSize v_planLine v_planWay v_way1 v_bestWay (mm_is v_order1 x5 y_5) v_placeIn v_bodyKind v_trace v_shelf v_many v_items v_carried)) rfl (fun H locs hP hD hS => ?_)
            generalize el_13 : (mm_is v_order1 x5 y_5) = l_13 at hP hD
            have hf := mm_nms hf el_13.symm
            refine lv_aload_n hx hb dX9_isOrder_71 rfl (lv_at hl 2 rfl) ?_
            refine mm_get C0 hP iw_X9 0 rfl rfl 48 (by decide) fl_X9_79 rfl dX9_isOrder_72 ?_
            refine lv_iload hx hb dX9_isOrder_75 (lv_at hl 1 rfl) ?_
            refine lv_iload hx hb dX9_isOrder_77 (lv_at hl 5 rfl) ?_
            obtain ⟨h_14, hf⟩ := mm_cks hf
            refine mm_iast C0 hP hD hS 24 rfl h_14 dX9_isOrder_79 (w2 := (wd_X9 cI cL cS cH a v_keptMany v_done v_rowsOf v_columnsOf v_folded v_wronged v_tapeMany v_textMany v_base v_at v_ends v_fault v_opened v_bentMany v_bentWrong v_moreWorn v_planned v_allWrong v_allWorn v_z v_wishedField v_isFound v_bestWrong v_bestWorn v_bestMany v_soughtBy v_sought v_soughtAt v_foundMany v_foundOrder v_isKept v_imageRows v_imageColumns v_imageFolded v_imageWronged v_bodies v_ran v_ownKind v_ownNumber v_limit v_changeWas v_changeIs v_shapeRows v_shapeColumns v_row v_column v_below v_face v_worn v_lastBend v_tape v_text v_names v_bends v_high v_to v_pileSize v_planLine v_planWay v_way1 v_bestWay l_13 (mm_is v_placeIn y_5 x5) v_bodyKind v_trace v_shelf v_many v_items v_carried)) rfl (fun H locs hP hD hS => ?_)
            generalize el_15 : (mm_is v_placeIn y_5 x5) = l_15 at hP hD
            have hf := mm_nms hf el_15.symm
            refine lv_iload hx hb dX9_isOrder_80 (lv_at hl 4 rfl) ?_
            refine lv_bipush (v := 10) hx hb dX9_isOrder_82 (by decide) ?_
            obtain ⟨h_16, hf⟩ := mm_cks hf
            refine lv_idiv hx hb dX9_isOrder_84 (mm_nzs h_16) ?_
            refine lv_topi (fun y_17 ey_17 => ?_)
            have hf := mm_nms hf ey_17
            refine lv_istore (lv' := [(4, .int y_17), (3, .int y_11), (6, .int y_5), (0, .ref (a 0)), (1, .int x1), (5, .int x5)]) hx hb dX9_isOrder_85 hl (by decide) rfl (fun ls hl => ?_)
            obtain ⟨y_18, ey_18⟩ : ∃ z : Int32, z = x5 + (-1 : Int32) := ⟨_, rfl⟩
            have hf := mm_nms hf ey_18
            refine lv_iinc (v := y_18) (lv' := [(5, .int y_18), (4, .int y_17), (3, .int y_11), (6, .int y_5), (0, .ref (a 0)), (1, .int x1)]) hx hb dX9_isOrder_87 hl (k := 5) rfl (by rw [ey_18]; rfl) (by decide) rfl (fun ls hl => ?_)
            refine lv_goto (tgt := 10) hx hb dX9_isOrder_90 (by decide) ?_
            exact ih _ _ _ _ _ _ H locs ls hf hP hD hS (lv_sub hl [4, 5, 2, 1, 0] rfl)
          · have hf := mm_ip hf c_10
            refine lv_iconst (v := 0) hx hb dX9_isOrder_53 (by decide) ?_
            apply mm_sub3 hf
            exact mm_zret (v := false) C0 hP hD hS dX9_isOrder_54 (by decide)

def fX9_isOrder (N : Nat) (x1 : Int32) (x2 : Int32) (v_order1 : List Int32) (v_placeIn : List Int32) : Option (Bool × List Int32 × List Int32) :=
    mm_nm ((x1 - (1 : Int32))) (fun (y_1 : Int32) =>
    fX9_isOrder_10 N N x1 (0 : Int32) x2 y_1 v_order1 v_placeIn)

set_option maxHeartbeats 4000000 in
set_option maxRecDepth 100000 in
theorem ctX9_isOrder {l : Launch} {D : va_G} {cI cL cS cH : ClassId} {a : Nat → Nat} {x1 : Int32} {x2 : Int32} {v_keptMany : Int32} {v_done : Int32} {v_rowsOf : Int32} {v_columnsOf : Int32} {v_folded : Int32} {v_wronged : Int32} {v_tapeMany : Int32} {v_textMany : Int32} {v_base : Int32} {v_at : Int32} {v_ends : Int32} {v_fault : Int32} {v_opened : Int32} {v_bentMany : Int32} {v_bentWrong : Int32} {v_moreWorn : Int32} {v_planned : Int32} {v_allWrong : Int32} {v_allWorn : Int32} {v_z : Int32} {v_wishedField : Int32} {v_isFound : Bool} {v_bestWrong : Int32} {v_bestWorn : Int32} {v_bestMany : Int32} {v_soughtBy : Int32} {v_sought : Int32} {v_soughtAt : Int32} {v_foundMany : Int32} {v_foundOrder : Int32} {v_isKept : Bool} {v_imageRows : Int32} {v_imageColumns : Int32} {v_imageFolded : Int32} {v_imageWronged : Int32} {v_bodies : Int32} {v_ran : Int32} {v_ownKind : Int32} {v_ownNumber : Int32} {v_limit : List Int32} {v_changeWas : List Int32} {v_changeIs : List Int32} {v_shapeRows : List Int32} {v_shapeColumns : List Int32} {v_row : List Int32} {v_column : List Int32} {v_below : List Int32} {v_face : List Int32} {v_worn : List Int32} {v_lastBend : List Int32} {v_tape : List Int32} {v_text : List Int32} {v_names : List Int32} {v_bends : List Int32} {v_high : List Int32} {v_to : List Int32} {v_pileSize : List Int32} {v_planLine : List Int32} {v_planWay : List Int32} {v_way1 : List Int32} {v_bestWay : List Int32} {v_order1 : List Int32} {v_placeIn : List Int32} {v_bodyKind : List Int32} {v_trace : List Int32} {v_shelf : List Int32} {v_many : List Int32} {v_items : List Int64} {v_carried : List Int64} {r : Bool} {w_order1 : List Int32} {w_placeIn : List Int32} {N d : Nat} (hd : 2 ≤ d) (hf : fX9_isOrder N x1 x2 v_order1 v_placeIn = some (r, w_order1, w_placeIn)) : mm_Ct l yX9_isOrder cX9_isOrder 7 (some .boolean) d D (mm_T cI cL cS cH) [.ref (a 0), .int x1, .int x2] (wd_X9 cI cL cS cH a v_keptMany v_done v_rowsOf v_columnsOf v_folded v_wronged v_tapeMany v_textMany v_base v_at v_ends v_fault v_opened v_bentMany v_bentWrong v_moreWorn v_planned v_allWrong v_allWorn v_z v_wishedField v_isFound v_bestWrong v_bestWorn v_bestMany v_soughtBy v_sought v_soughtAt v_foundMany v_foundOrder v_isKept v_imageRows v_imageColumns v_imageFolded v_imageWronged v_bodies v_ran v_ownKind v_ownNumber v_limit v_changeWas v_changeIs v_shapeRows v_shapeColumns v_row v_column v_below v_face v_worn v_lastBend v_tape v_text v_names v_bends v_high v_to v_pileSize v_planLine v_planWay v_way1 v_bestWay v_order1 v_placeIn v_bodyKind v_trace v_shelf v_many v_items v_carried) (wd_X9 cI cL cS cH a v_keptMany v_done v_rowsOf v_columnsOf v_folded v_wronged v_tapeMany v_textMany v_base v_at v_ends v_fault v_opened v_bentMany v_bentWrong v_moreWorn v_planned v_allWrong v_allWorn v_z v_wishedField v_isFound v_bestWrong v_bestWorn v_bestMany v_soughtBy v_sought v_soughtAt v_foundMany v_foundOrder v_isKept v_imageRows v_imageColumns v_imageFolded v_imageWronged v_bodies v_ran v_ownKind v_ownNumber v_limit v_changeWas v_changeIs v_shapeRows v_shapeColumns v_row v_column v_below v_face v_worn v_lastBend v_tape v_text v_names v_bends v_high v_to v_pileSize v_planLine v_planWay v_way1 v_bestWay w_order1 w_placeIn v_bodyKind v_trace v_shelf v_many v_items v_carried) (some (.int (mm_b r))) := by
  refine mm_of (by decide) (Nat.le_of_ble_eq_true rfl) ?_
  intro p e s m args below meth c A H locs ls C0 hP hD hA hS hl
  have C0 : mm_Cx p s m args meth c RX9 cX9_isOrder 7 (some .boolean) D (mm_T cI cL cS cH) A := C0
  obtain ⟨hx, hb, hml, hown, hts, hr, hlocks, hK, hSt⟩ := id C0
  have hl : lv_has ls 7 [(0, .ref (a 0)), (1, .int x1), (2, .int x2)] := hl
  unfold fX9_isOrder at hf
  refine lv_iconst (v := 0) hx hb dX9_isOrder_0 (by decide) ?_
  refine lv_istore_n (lv' := [(3, .int (0 : Int32)), (0, .ref (a 0)), (1, .int x1), (2, .int x2)]) hx hb dX9_isOrder_1 rfl hl (by decide) rfl (fun ls hl => ?_)
  refine lv_iload_n hx hb dX9_isOrder_2 rfl (lv_at hl 3 rfl) ?_
  refine lv_istore (lv' := [(4, .int x2), (3, .int (0 : Int32)), (0, .ref (a 0)), (1, .int x1), (2, .int x2)]) hx hb dX9_isOrder_3 hl (by decide) rfl (fun ls hl => ?_)
  refine lv_iload_n hx hb dX9_isOrder_5 rfl (lv_at hl 3 rfl) ?_
  refine lv_iconst (v := 1) hx hb dX9_isOrder_6 (by decide) ?_
  refine lv_isub hx hb dX9_isOrder_7 ?_
  refine lv_topi (fun y_1 ey_1 => ?_)
  have hf := mm_nms hf ey_1
  refine lv_istore (lv' := [(5, .int y_1), (4, .int x2), (3, .int (0 : Int32)), (0, .ref (a 0)), (1, .int x1), (2, .int x2)]) hx hb dX9_isOrder_8 hl (by decide) rfl (fun ls hl => ?_)
  exact tX9_isOrder_10 hd C0 hA N  N _ _ _ _ _ _ H locs ls hf hP hD hS (lv_sub hl [3, 4, 2, 1, 0] rfl)

theorem dX9_isInside_0 : decode cX9_isInside 0 = .ok (.aload_n 0, 1) := by decide +kernel
theorem dX9_isInside_1 : decode cX9_isInside 1 = .ok (.getfield 79, 3) := by decide +kernel
theorem dX9_isInside_4 : decode cX9_isInside 4 = .ok (.iload_n 2, 1) := by decide +kernel
theorem dX9_isInside_5 : decode cX9_isInside 5 = .ok (.iaload, 1) := by decide +kernel
theorem dX9_isInside_6 : decode cX9_isInside 6 = .ok (.istore_n 3, 1) := by decide +kernel
theorem dX9_isInside_7 : decode cX9_isInside 7 = .ok (.aload_n 0, 1) := by decide +kernel
theorem dX9_isInside_8 : decode cX9_isInside 8 = .ok (.getfield 79, 3) := by decide +kernel
theorem dX9_isInside_11 : decode cX9_isInside 11 = .ok (.iload_n 2, 1) := by decide +kernel
theorem dX9_isInside_12 : decode cX9_isInside 12 = .ok (.iconst 1, 1) := by decide +kernel
theorem dX9_isInside_13 : decode cX9_isInside 13 = .ok (.iadd, 1) := by decide +kernel
theorem dX9_isInside_14 : decode cX9_isInside 14 = .ok (.iaload, 1) := by decide +kernel
theorem dX9_isInside_15 : decode cX9_isInside 15 = .ok (.istore 4, 2) := by decide +kernel
theorem dX9_isInside_17 : decode cX9_isInside 17 = .ok (.iload_n 3, 1) := by decide +kernel
theorem dX9_isInside_18 : decode cX9_isInside 18 = .ok (.iload 4, 2) := by decide +kernel
theorem dX9_isInside_20 : decode cX9_isInside 20 = .ok (.if_icmp .ge 22, 3) := by decide +kernel
theorem dX9_isInside_23 : decode cX9_isInside 23 = .ok (.iload_n 3, 1) := by decide +kernel
theorem dX9_isInside_24 : decode cX9_isInside 24 = .ok (.iload_n 1, 1) := by decide +kernel
theorem dX9_isInside_25 : decode cX9_isInside 25 = .ok (.if_icmp .ge 13, 3) := by decide +kernel
theorem dX9_isInside_28 : decode cX9_isInside 28 = .ok (.iload_n 1, 1) := by decide +kernel
theorem dX9_isInside_29 : decode cX9_isInside 29 = .ok (.iload 4, 2) := by decide +kernel
theorem dX9_isInside_31 : decode cX9_isInside 31 = .ok (.if_icmp .ge 7, 3) := by decide +kernel
theorem dX9_isInside_34 : decode cX9_isInside 34 = .ok (.iconst 1, 1) := by decide +kernel
theorem dX9_isInside_35 : decode cX9_isInside 35 = .ok (.goto 23, 3) := by decide +kernel
theorem dX9_isInside_38 : decode cX9_isInside 38 = .ok (.iconst 0, 1) := by decide +kernel
theorem dX9_isInside_39 : decode cX9_isInside 39 = .ok (.goto 19, 3) := by decide +kernel
theorem dX9_isInside_42 : decode cX9_isInside 42 = .ok (.iload 4, 2) := by decide +kernel
theorem dX9_isInside_44 : decode cX9_isInside 44 = .ok (.iload_n 1, 1) := by decide +kernel
theorem dX9_isInside_45 : decode cX9_isInside 45 = .ok (.if_icmp .ge 12, 3) := by decide +kernel
theorem dX9_isInside_48 : decode cX9_isInside 48 = .ok (.iload_n 1, 1) := by decide +kernel
theorem dX9_isInside_49 : decode cX9_isInside 49 = .ok (.iload_n 3, 1) := by decide +kernel
theorem dX9_isInside_50 : decode cX9_isInside 50 = .ok (.if_icmp .ge 7, 3) := by decide +kernel
theorem dX9_isInside_53 : decode cX9_isInside 53 = .ok (.iconst 1, 1) := by decide +kernel
theorem dX9_isInside_54 : decode cX9_isInside 54 = .ok (.goto 4, 3) := by decide +kernel
theorem dX9_isInside_57 : decode cX9_isInside 57 = .ok (.iconst 0, 1) := by decide +kernel
theorem dX9_isInside_58 : decode cX9_isInside 58 = .ok (.ireturn, 1) := by decide +kernel
def fX9_isInside (N : Nat) (x1 : Int32) (x2 : Int32) (v_placeIn : List Int32) : Option (Bool) :=
    mm_ck (mm_inb x2 v_placeIn.length) (mm_nm ((mm_ig v_placeIn x2)) (fun (y_2 : Int32) =>
    mm_ck (mm_inb (x2 + (1 : Int32)) v_placeIn.length) (mm_nm ((mm_ig v_placeIn (x2 + (1 : Int32)))) (fun (y_4 : Int32) =>
    if y_4 ≤ y_2 then
    (if x1 ≤ y_4 then
    (some (false))
    else (if y_2 ≤ x1 then
    (some (false))
    else (some (true))))
    else (if x1 ≤ y_2 then
    (some (false))
    else (if y_4 ≤ x1 then
    (some (false))
    else (some (true))))))))

set_option maxHeartbeats 4000000 in
set_option maxRecDepth 100000 in
theorem ctX9_isInside {l : Launch} {D : va_G} {cI cL cS cH : ClassId} {a : Nat → Nat} {x1 : Int32} {x2 : Int32} {v_keptMany : Int32} {v_done : Int32} {v_rowsOf : Int32} {v_columnsOf : Int32} {v_folded : Int32} {v_wronged : Int32} {v_tapeMany : Int32} {v_textMany : Int32} {v_base : Int32} {v_at : Int32} {v_ends : Int32} {v_fault : Int32} {v_opened : Int32} {v_bentMany : Int32} {v_bentWrong : Int32} {v_moreWorn : Int32} {v_planned : Int32} {v_allWrong : Int32} {v_allWorn : Int32} {v_z : Int32} {v_wishedField : Int32} {v_isFound : Bool} {v_bestWrong : Int32} {v_bestWorn : Int32} {v_bestMany : Int32} {v_soughtBy : Int32} {v_sought : Int32} {v_soughtAt : Int32} {v_foundMany : Int32} {v_foundOrder : Int32} {v_isKept : Bool} {v_imageRows : Int32} {v_imageColumns : Int32} {v_imageFolded : Int32} {v_imageWronged : Int32} {v_bodies : Int32} {v_ran : Int32} {v_ownKind : Int32} {v_ownNumber : Int32} {v_limit : List Int32} {v_changeWas : List Int32} {v_changeIs : List Int32} {v_shapeRows : List Int32} {v_shapeColumns : List Int32} {v_row : List Int32} {v_column : List Int32} {v_below : List Int32} {v_face : List Int32} {v_worn : List Int32} {v_lastBend : List Int32} {v_tape : List Int32} {v_text : List Int32} {v_names : List Int32} {v_bends : List Int32} {v_high : List Int32} {v_to : List Int32} {v_pileSize : List Int32} {v_planLine : List Int32} {v_planWay : List Int32} {v_way1 : List Int32} {v_bestWay : List Int32} {v_order1 : List Int32} {v_placeIn : List Int32} {v_bodyKind : List Int32} {v_trace : List Int32} {v_shelf : List Int32} {v_many : List Int32} {v_items : List Int64} {v_carried : List Int64} {r : Bool} {N d : Nat} (hd : 1 ≤ d) (hf : fX9_isInside N x1 x2 v_placeIn = some r) : mm_Ct l yX9_isInside cX9_isInside 5 (some .boolean) d D (mm_T cI cL cS cH) [.ref (a 0), .int x1, .int x2] (wd_X9 cI cL cS cH a v_keptMany v_done v_rowsOf v_columnsOf v_folded v_wronged v_tapeMany v_textMany v_base v_at v_ends v_fault v_opened v_bentMany v_bentWrong v_moreWorn v_planned v_allWrong v_allWorn v_z v_wishedField v_isFound v_bestWrong v_bestWorn v_bestMany v_soughtBy v_sought v_soughtAt v_foundMany v_foundOrder v_isKept v_imageRows v_imageColumns v_imageFolded v_imageWronged v_bodies v_ran v_ownKind v_ownNumber v_limit v_changeWas v_changeIs v_shapeRows v_shapeColumns v_row v_column v_below v_face v_worn v_lastBend v_tape v_text v_names v_bends v_high v_to v_pileSize v_planLine v_planWay v_way1 v_bestWay v_order1 v_placeIn v_bodyKind v_trace v_shelf v_many v_items v_carried) (wd_X9 cI cL cS cH a v_keptMany v_done v_rowsOf v_columnsOf v_folded v_wronged v_tapeMany v_textMany v_base v_at v_ends v_fault v_opened v_bentMany v_bentWrong v_moreWorn v_planned v_allWrong v_allWorn v_z v_wishedField v_isFound v_bestWrong v_bestWorn v_bestMany v_soughtBy v_sought v_soughtAt v_foundMany v_foundOrder v_isKept v_imageRows v_imageColumns v_imageFolded v_imageWronged v_bodies v_ran v_ownKind v_ownNumber v_limit v_changeWas v_changeIs v_shapeRows v_shapeColumns v_row v_column v_below v_face v_worn v_lastBend v_tape v_text v_names v_bends v_high v_to v_pileSize v_planLine v_planWay v_way1 v_bestWay v_order1 v_placeIn v_bodyKind v_trace v_shelf v_many v_items v_carried) (some (.int (mm_b r))) := by
  refine mm_of (by decide) (Nat.le_of_ble_eq_true rfl) ?_
  intro p e s m args below meth c A H locs ls C0 hP hD hA hS hl
  have C0 : mm_Cx p s m args meth c RX9 cX9_isInside 5 (some .boolean) D (mm_T cI cL cS cH) A := C0
  obtain ⟨hx, hb, hml, hown, hts, hr, hlocks, hK, hSt⟩ := id C0
  have hl : lv_has ls 5 [(0, .ref (a 0)), (1, .int x1), (2, .int x2)] := hl
  unfold fX9_isInside at hf
  refine lv_aload_n hx hb dX9_isInside_0 rfl (lv_at hl 0 rfl) ?_
  refine mm_get C0 hP iw_X9 0 rfl rfl 48 (by decide) fl_X9_79 rfl dX9_isInside_1 ?_
  refine lv_iload_n hx hb dX9_isInside_4 rfl (lv_at hl 2 rfl) ?_
  obtain ⟨h_1, hf⟩ := mm_cks hf
  refine mm_iald C0 hP 24 rfl h_1 dX9_isInside_5 ?_
  refine lv_topi (fun y_2 ey_2 => ?_)
  have hf := mm_nms hf ey_2
  refine lv_istore_n (lv' := [(3, .int y_2), (0, .ref (a 0)), (1, .int x1), (2, .int x2)]) hx hb dX9_isInside_6 rfl hl (by decide) rfl (fun ls hl => ?_)
  refine lv_aload_n hx hb dX9_isInside_7 rfl (lv_at hl 1 rfl) ?_
  refine mm_get C0 hP iw_X9 0 rfl rfl 48 (by decide) fl_X9_79 rfl dX9_isInside_8 ?_
  refine lv_iload_n hx hb dX9_isInside_11 rfl (lv_at hl 3 rfl) ?_
  refine lv_iconst (v := 1) hx hb dX9_isInside_12 (by decide) ?_
  refine lv_iadd hx hb dX9_isInside_13 ?_
  obtain ⟨h_3, hf⟩ := mm_cks hf
  refine mm_iald C0 hP 24 rfl h_3 dX9_isInside_14 ?_
  refine lv_topi (fun y_4 ey_4 => ?_)
  have hf := mm_nms hf ey_4
  refine lv_istore (lv' := [(4, .int y_4), (3, .int y_2), (0, .ref (a 0)), (1, .int x1), (2, .int x2)]) hx hb dX9_isInside_15 hl (by decide) rfl (fun ls hl => ?_)
  refine lv_iload_n hx hb dX9_isInside_17 rfl (lv_at hl 1 rfl) ?_
  refine lv_iload hx hb dX9_isInside_18 (lv_at hl 0 rfl) ?_
  refine lv_icmp_ge (tgt := 42) hx hb dX9_isInside_20 (by decide) (fun c_5 => ?_) (fun c_5 => ?_)
  · have hf := mm_ip hf c_5
    refine lv_iload hx hb dX9_isInside_42 (lv_at hl 0 rfl) ?_
    refine lv_iload_n hx hb dX9_isInside_44 rfl (lv_at hl 3 rfl) ?_
    refine lv_icmp_ge (tgt := 57) hx hb dX9_isInside_45 (by decide) (fun c_6 => ?_) (fun c_6 => ?_)
    · have hf := mm_ip hf c_6
      refine lv_iconst (v := 0) hx hb dX9_isInside_57 (by decide) ?_
      obtain rfl := mm_inj1 hf
      exact mm_zret (v := false) C0 hP hD hS dX9_isInside_58 (by decide)
    · have hf := mm_in hf c_6
      refine lv_iload_n hx hb dX9_isInside_48 rfl (lv_at hl 3 rfl) ?_
      refine lv_iload_n hx hb dX9_isInside_49 rfl (lv_at hl 1 rfl) ?_
      refine lv_icmp_ge (tgt := 57) hx hb dX9_isInside_50 (by decide) (fun c_7 => ?_) (fun c_7 => ?_)
      · have hf := mm_ip hf c_7
        refine lv_iconst (v := 0) hx hb dX9_isInside_57 (by decide) ?_
        obtain rfl := mm_inj1 hf
        exact mm_zret (v := false) C0 hP hD hS dX9_isInside_58 (by decide)
      · have hf := mm_in hf c_7
        refine lv_iconst (v := 1) hx hb dX9_isInside_53 (by decide) ?_
        refine lv_goto (tgt := 58) hx hb dX9_isInside_54 (by decide) ?_
        obtain rfl := mm_inj1 hf
        exact mm_zret (v := true) C0 hP hD hS dX9_isInside_58 (by decide)
  · have hf := mm_in hf c_5
    refine lv_iload_n hx hb dX9_isInside_23 rfl (lv_at hl 1 rfl) ?_
    refine lv_iload_n hx hb dX9_isInside_24 rfl (lv_at hl 3 rfl) ?_
    refine lv_icmp_ge (tgt := 38) hx hb dX9_isInside_25 (by decide) (fun c_8 => ?_) (fun c_8 => ?_)
    · have hf := mm_ip hf c_8
      refine lv_iconst (v := 0) hx hb dX9_isInside_38 (by decide) ?_
      refine lv_goto (tgt := 58) hx hb dX9_isInside_39 (by decide) ?_
      obtain rfl := mm_inj1 hf
      exact mm_zret (v := false) C0 hP hD hS dX9_isInside_58 (by decide)
    · have hf := mm_in hf c_8
      refine lv_iload_n hx hb dX9_isInside_28 rfl (lv_at hl 3 rfl) ?_
      refine lv_iload hx hb dX9_isInside_29 (lv_at hl 0 rfl) ?_
      refine lv_icmp_ge (tgt := 38) hx hb dX9_isInside_31 (by decide) (fun c_9 => ?_) (fun c_9 => ?_)
      · have hf := mm_ip hf c_9
        refine lv_iconst (v := 0) hx hb dX9_isInside_38 (by decide) ?_
        refine lv_goto (tgt := 58) hx hb dX9_isInside_39 (by decide) ?_
        obtain rfl := mm_inj1 hf
        exact mm_zret (v := false) C0 hP hD hS dX9_isInside_58 (by decide)
      · have hf := mm_in hf c_9
        refine lv_iconst (v := 1) hx hb dX9_isInside_34 (by decide) ?_
        refine lv_goto (tgt := 58) hx hb dX9_isInside_35 (by decide) ?_
        obtain rfl := mm_inj1 hf
        exact mm_zret (v := true) C0 hP hD hS dX9_isInside_58 (by decide)

theorem dX9_areCrossed_0 : decode cX9_areCrossed 0 = .ok (.aload_n 0, 1) := by decide +kernel
theorem dX9_areCrossed_1 : decode cX9_areCrossed 1 = .ok (.aload_n 0, 1) := by decide +kernel
theorem dX9_areCrossed_2 : decode cX9_areCrossed 2 = .ok (.getfield 79, 3) := by decide +kernel
theorem dX9_areCrossed_5 : decode cX9_areCrossed 5 = .ok (.iload_n 2, 1) := by decide +kernel
theorem dX9_areCrossed_6 : decode cX9_areCrossed 6 = .ok (.iaload, 1) := by decide +kernel
theorem dX9_areCrossed_7 : decode cX9_areCrossed 7 = .ok (.iload_n 1, 1) := by decide +kernel
theorem dX9_areCrossed_8 : decode cX9_areCrossed 8 = .ok (.invokevirtual 337, 3) := by decide +kernel
theorem dX9_areCrossed_11 : decode cX9_areCrossed 11 = .ok (.aload_n 0, 1) := by decide +kernel
theorem dX9_areCrossed_12 : decode cX9_areCrossed 12 = .ok (.aload_n 0, 1) := by decide +kernel
theorem dX9_areCrossed_13 : decode cX9_areCrossed 13 = .ok (.getfield 79, 3) := by decide +kernel
theorem dX9_areCrossed_16 : decode cX9_areCrossed 16 = .ok (.iload_n 2, 1) := by decide +kernel
theorem dX9_areCrossed_17 : decode cX9_areCrossed 17 = .ok (.iconst 1, 1) := by decide +kernel
theorem dX9_areCrossed_18 : decode cX9_areCrossed 18 = .ok (.iadd, 1) := by decide +kernel
theorem dX9_areCrossed_19 : decode cX9_areCrossed 19 = .ok (.iaload, 1) := by decide +kernel
theorem dX9_areCrossed_20 : decode cX9_areCrossed 20 = .ok (.iload_n 1, 1) := by decide +kernel
theorem dX9_areCrossed_21 : decode cX9_areCrossed 21 = .ok (.invokevirtual 337, 3) := by decide +kernel
theorem dX9_areCrossed_24 : decode cX9_areCrossed 24 = .ok (.if_icmp .eq 34, 3) := by decide +kernel
theorem dX9_areCrossed_27 : decode cX9_areCrossed 27 = .ok (.aload_n 0, 1) := by decide +kernel
theorem dX9_areCrossed_28 : decode cX9_areCrossed 28 = .ok (.aload_n 0, 1) := by decide +kernel
theorem dX9_areCrossed_29 : decode cX9_areCrossed 29 = .ok (.getfield 79, 3) := by decide +kernel
theorem dX9_areCrossed_32 : decode cX9_areCrossed 32 = .ok (.iload_n 1, 1) := by decide +kernel
theorem dX9_areCrossed_33 : decode cX9_areCrossed 33 = .ok (.iaload, 1) := by decide +kernel
theorem dX9_areCrossed_34 : decode cX9_areCrossed 34 = .ok (.iload_n 2, 1) := by decide +kernel
theorem dX9_areCrossed_35 : decode cX9_areCrossed 35 = .ok (.invokevirtual 337, 3) := by decide +kernel
theorem dX9_areCrossed_38 : decode cX9_areCrossed 38 = .ok (.aload_n 0, 1) := by decide +kernel
theorem dX9_areCrossed_39 : decode cX9_areCrossed 39 = .ok (.aload_n 0, 1) := by decide +kernel
theorem dX9_areCrossed_40 : decode cX9_areCrossed 40 = .ok (.getfield 79, 3) := by decide +kernel
theorem dX9_areCrossed_43 : decode cX9_areCrossed 43 = .ok (.iload_n 1, 1) := by decide +kernel
theorem dX9_areCrossed_44 : decode cX9_areCrossed 44 = .ok (.iconst 1, 1) := by decide +kernel
theorem dX9_areCrossed_45 : decode cX9_areCrossed 45 = .ok (.iadd, 1) := by decide +kernel
theorem dX9_areCrossed_46 : decode cX9_areCrossed 46 = .ok (.iaload, 1) := by decide +kernel
theorem dX9_areCrossed_47 : decode cX9_areCrossed 47 = .ok (.iload_n 2, 1) := by decide +kernel
theorem dX9_areCrossed_48 : decode cX9_areCrossed 48 = .ok (.invokevirtual 337, 3) := by decide +kernel
theorem dX9_areCrossed_51 : decode cX9_areCrossed 51 = .ok (.if_icmp .eq 7, 3) := by decide +kernel
theorem dX9_areCrossed_54 : decode cX9_areCrossed 54 = .ok (.iconst 1, 1) := by decide +kernel
theorem dX9_areCrossed_55 : decode cX9_areCrossed 55 = .ok (.goto 4, 3) := by decide +kernel
theorem dX9_areCrossed_58 : decode cX9_areCrossed 58 = .ok (.iconst 0, 1) := by decide +kernel
theorem dX9_areCrossed_59 : decode cX9_areCrossed 59 = .ok (.ireturn, 1) := by decide +kernel
def fX9_areCrossed (N : Nat) (x1 : Int32) (x2 : Int32) (v_placeIn : List Int32) : Option (Bool) :=
    mm_ck (mm_inb x2 v_placeIn.length) (mm_bd1 (fX9_isInside N (mm_ig v_placeIn x2) x1 v_placeIn) (fun (r_2 : Bool) =>
    mm_ck (mm_inb (x2 + (1 : Int32)) v_placeIn.length) (mm_bd1 (fX9_isInside N (mm_ig v_placeIn (x2 + (1 : Int32))) x1 v_placeIn) (fun (r_5 : Bool) =>
    if (mm_b r_2) = (mm_b r_5) then
    (some (false))
    else (mm_ck (mm_inb x1 v_placeIn.length) (mm_bd1 (fX9_isInside N (mm_ig v_placeIn x1) x2 v_placeIn) (fun (r_9 : Bool) =>
    mm_ck (mm_inb (x1 + (1 : Int32)) v_placeIn.length) (mm_bd1 (fX9_isInside N (mm_ig v_placeIn (x1 + (1 : Int32))) x2 v_placeIn) (fun (r_12 : Bool) =>
    if (mm_b r_9) = (mm_b r_12) then
    (some (false))
    else (some (true)))))))))))

set_option maxHeartbeats 4000000 in
set_option maxRecDepth 100000 in
theorem ctX9_areCrossed {l : Launch} {D : va_G} {cI cL cS cH : ClassId} {a : Nat → Nat} {x1 : Int32} {x2 : Int32} {v_keptMany : Int32} {v_done : Int32} {v_rowsOf : Int32} {v_columnsOf : Int32} {v_folded : Int32} {v_wronged : Int32} {v_tapeMany : Int32} {v_textMany : Int32} {v_base : Int32} {v_at : Int32} {v_ends : Int32} {v_fault : Int32} {v_opened : Int32} {v_bentMany : Int32} {v_bentWrong : Int32} {v_moreWorn : Int32} {v_planned : Int32} {v_allWrong : Int32} {v_allWorn : Int32} {v_z : Int32} {v_wishedField : Int32} {v_isFound : Bool} {v_bestWrong : Int32} {v_bestWorn : Int32} {v_bestMany : Int32} {v_soughtBy : Int32} {v_sought : Int32} {v_soughtAt : Int32} {v_foundMany : Int32} {v_foundOrder : Int32} {v_isKept : Bool} {v_imageRows : Int32} {v_imageColumns : Int32} {v_imageFolded : Int32} {v_imageWronged : Int32} {v_bodies : Int32} {v_ran : Int32} {v_ownKind : Int32} {v_ownNumber : Int32} {v_limit : List Int32} {v_changeWas : List Int32} {v_changeIs : List Int32} {v_shapeRows : List Int32} {v_shapeColumns : List Int32} {v_row : List Int32} {v_column : List Int32} {v_below : List Int32} {v_face : List Int32} {v_worn : List Int32} {v_lastBend : List Int32} {v_tape : List Int32} {v_text : List Int32} {v_names : List Int32} {v_bends : List Int32} {v_high : List Int32} {v_to : List Int32} {v_pileSize : List Int32} {v_planLine : List Int32} {v_planWay : List Int32} {v_way1 : List Int32} {v_bestWay : List Int32} {v_order1 : List Int32} {v_placeIn : List Int32} {v_bodyKind : List Int32} {v_trace : List Int32} {v_shelf : List Int32} {v_many : List Int32} {v_items : List Int64} {v_carried : List Int64} {r : Bool} {N d : Nat} (hd : 2 ≤ d) (hf : fX9_areCrossed N x1 x2 v_placeIn = some r) : mm_Ct l yX9_areCrossed cX9_areCrossed 3 (some .boolean) d D (mm_T cI cL cS cH) [.ref (a 0), .int x1, .int x2] (wd_X9 cI cL cS cH a v_keptMany v_done v_rowsOf v_columnsOf v_folded v_wronged v_tapeMany v_textMany v_base v_at v_ends v_fault v_opened v_bentMany v_bentWrong v_moreWorn v_planned v_allWrong v_allWorn v_z v_wishedField v_isFound v_bestWrong v_bestWorn v_bestMany v_soughtBy v_sought v_soughtAt v_foundMany v_foundOrder v_isKept v_imageRows v_imageColumns v_imageFolded v_imageWronged v_bodies v_ran v_ownKind v_ownNumber v_limit v_changeWas v_changeIs v_shapeRows v_shapeColumns v_row v_column v_below v_face v_worn v_lastBend v_tape v_text v_names v_bends v_high v_to v_pileSize v_planLine v_planWay v_way1 v_bestWay v_order1 v_placeIn v_bodyKind v_trace v_shelf v_many v_items v_carried) (wd_X9 cI cL cS cH a v_keptMany v_done v_rowsOf v_columnsOf v_folded v_wronged v_tapeMany v_textMany v_base v_at v_ends v_fault v_opened v_bentMany v_bentWrong v_moreWorn v_planned v_allWrong v_allWorn v_z v_wishedField v_isFound v_bestWrong v_bestWorn v_bestMany v_soughtBy v_sought v_soughtAt v_foundMany v_foundOrder v_isKept v_imageRows v_imageColumns v_imageFolded v_imageWronged v_bodies v_ran v_ownKind v_ownNumber v_limit v_changeWas v_changeIs v_shapeRows v_shapeColumns v_row v_column v_below v_face v_worn v_lastBend v_tape v_text v_names v_bends v_high v_to v_pileSize v_planLine v_planWay v_way1 v_bestWay v_order1 v_placeIn v_bodyKind v_trace v_shelf v_many v_items v_carried) (some (.int (mm_b r))) := by
  refine mm_of (by decide) (Nat.le_of_ble_eq_true rfl) ?_
  intro p e s m args below meth c A H locs ls C0 hP hD hA hS hl
  have C0 : mm_Cx p s m args meth c RX9 cX9_areCrossed 3 (some .boolean) D (mm_T cI cL cS cH) A := C0
  obtain ⟨hx, hb, hml, hown, hts, hr, hlocks, hK, hSt⟩ := id C0
  have hl : lv_has ls 3 [(0, .ref (a 0)), (1, .int x1), (2, .int x2)] := hl
  unfold fX9_areCrossed at hf
  refine lv_aload_n hx hb dX9_areCrossed_0 rfl (lv_at hl 0 rfl) ?_
  refine lv_aload_n hx hb dX9_areCrossed_1 rfl (lv_at hl 0 rfl) ?_
  refine mm_get C0 hP iw_X9 0 rfl rfl 48 (by decide) fl_X9_79 rfl dX9_areCrossed_2 ?_
  refine lv_iload_n hx hb dX9_areCrossed_5 rfl (lv_at hl 2 rfl) ?_
  obtain ⟨h_1, hf⟩ := mm_cks hf
  refine mm_iald C0 hP 24 rfl h_1 dX9_areCrossed_6 ?_
  refine lv_iload_n hx hb dX9_areCrossed_7 rfl (lv_at hl 1 rfl) ?_
  obtain ⟨r_2, hc_3, hf⟩ := mm_bd1s hf
  refine mm_callVF (q0 := 0) (ci := 9) (rest := []) C0 lk_X9_337 (ctX9_isInside (a := a) (d := d - 1) (by omega) hc_3) (by omega) rfl hl.1 rfl (mm_cat rfl) dX9_areCrossed_8 hP hD hA hS rfl rfl (fun H locs hP hD hS => ?_)
  refine W.eq (g2 := F0 m 11 ls [.int (mm_b r_2)]) rfl ?_
  refine lv_aload_n hx hb dX9_areCrossed_11 rfl (lv_at hl 0 rfl) ?_
  refine lv_aload_n hx hb dX9_areCrossed_12 rfl (lv_at hl 0 rfl) ?_
  refine mm_get C0 hP iw_X9 0 rfl rfl 48 (by decide) fl_X9_79 rfl dX9_areCrossed_13 ?_
  refine lv_iload_n hx hb dX9_areCrossed_16 rfl (lv_at hl 2 rfl) ?_
  refine lv_iconst (v := 1) hx hb dX9_areCrossed_17 (by decide) ?_
  refine lv_iadd hx hb dX9_areCrossed_18 ?_
  obtain ⟨h_4, hf⟩ := mm_cks hf
  refine mm_iald C0 hP 24 rfl h_4 dX9_areCrossed_19 ?_
  refine lv_iload_n hx hb dX9_areCrossed_20 rfl (lv_at hl 1 rfl) ?_
  obtain ⟨r_5, hc_6, hf⟩ := mm_bd1s hf
  refine mm_callVF (q0 := 0) (ci := 9) (rest := [.int (mm_b r_2)]) C0 lk_X9_337 (ctX9_isInside (a := a) (d := d - 1) (by omega) hc_6) (by omega) rfl hl.1 rfl (mm_cat rfl) dX9_areCrossed_21 hP hD hA hS rfl rfl (fun H locs hP hD hS => ?_)
  refine W.eq (g2 := F0 m 24 ls [.int (mm_b r_5), .int (mm_b r_2)]) rfl ?_
  refine lv_icmp_eq (tgt := 58) hx hb dX9_areCrossed_24 (by decide) (fun c_7 => ?_) (fun c_7 => ?_)
  · have hf := mm_ip hf c_7
    refine lv_iconst (v := 0) hx hb dX9_areCrossed_58 (by decide) ?_
    obtain rfl := mm_inj1 hf
    exact mm_zret (v := false) C0 hP hD hS dX9_areCrossed_59 (by decide)
  · have hf := mm_in hf c_7
    refine lv_aload_n hx hb dX9_areCrossed_27 rfl (lv_at hl 0 rfl) ?_
    refine lv_aload_n hx hb dX9_areCrossed_28 rfl (lv_at hl 0 rfl) ?_
    refine mm_get C0 hP iw_X9 0 rfl rfl 48 (by decide) fl_X9_79 rfl dX9_areCrossed_29 ?_
    refine lv_iload_n hx hb dX9_areCrossed_32 rfl (lv_at hl 1 rfl) ?_
    obtain ⟨h_8, hf⟩ := mm_cks hf
    refine mm_iald C0 hP 24 rfl h_8 dX9_areCrossed_33 ?_
    refine lv_iload_n hx hb dX9_areCrossed_34 rfl (lv_at hl 2 rfl) ?_
    obtain ⟨r_9, hc_10, hf⟩ := mm_bd1s hf
    refine mm_callVF (q0 := 0) (ci := 9) (rest := []) C0 lk_X9_337 (ctX9_isInside (a := a) (d := d - 1) (by omega) hc_10) (by omega) rfl hl.1 rfl (mm_cat rfl) dX9_areCrossed_35 hP hD hA hS rfl rfl (fun H locs hP hD hS => ?_)
    refine W.eq (g2 := F0 m 38 ls [.int (mm_b r_9)]) rfl ?_
    refine lv_aload_n hx hb dX9_areCrossed_38 rfl (lv_at hl 0 rfl) ?_
    refine lv_aload_n hx hb dX9_areCrossed_39 rfl (lv_at hl 0 rfl) ?_
    refine mm_get C0 hP iw_X9 0 rfl rfl 48 (by decide) fl_X9_79 rfl dX9_areCrossed_40 ?_
    refine lv_iload_n hx hb dX9_areCrossed_43 rfl (lv_at hl 1 rfl) ?_
    refine lv_iconst (v := 1) hx hb dX9_areCrossed_44 (by decide) ?_
    refine lv_iadd hx hb dX9_areCrossed_45 ?_
    obtain ⟨h_11, hf⟩ := mm_cks hf
    refine mm_iald C0 hP 24 rfl h_11 dX9_areCrossed_46 ?_
    refine lv_iload_n hx hb dX9_areCrossed_47 rfl (lv_at hl 2 rfl) ?_
    obtain ⟨r_12, hc_13, hf⟩ := mm_bd1s hf
    refine mm_callVF (q0 := 0) (ci := 9) (rest := [.int (mm_b r_9)]) C0 lk_X9_337 (ctX9_isInside (a := a) (d := d - 1) (by omega) hc_13) (by omega) rfl hl.1 rfl (mm_cat rfl) dX9_areCrossed_48 hP hD hA hS rfl rfl (fun H locs hP hD hS => ?_)
    refine W.eq (g2 := F0 m 51 ls [.int (mm_b r_12), .int (mm_b r_9)]) rfl ?_
    refine lv_icmp_eq (tgt := 58) hx hb dX9_areCrossed_51 (by decide) (fun c_14 => ?_) (fun c_14 => ?_)
    · have hf := mm_ip hf c_14
      refine lv_iconst (v := 0) hx hb dX9_areCrossed_58 (by decide) ?_
      obtain rfl := mm_inj1 hf
      exact mm_zret (v := false) C0 hP hD hS dX9_areCrossed_59 (by decide)
    · have hf := mm_in hf c_14
      refine lv_iconst (v := 1) hx hb dX9_areCrossed_54 (by decide) ?_
      refine lv_goto (tgt := 59) hx hb dX9_areCrossed_55 (by decide) ?_
      obtain rfl := mm_inj1 hf
      exact mm_zret (v := true) C0 hP hD hS dX9_areCrossed_59 (by decide)

