/-! reference: X9_beside, X9_copies, X9_halvings -/
theorem dX9_beside_0 : decode cX9_beside 0 = .ok (.iload_n 2, 1) := by decide +kernel
theorem dX9_beside_1 : decode cX9_beside 1 = .ok (.ifCond .lt 44, 3) := by decide +kernel
theorem dX9_beside_4 : decode cX9_beside 4 = .ok (.aload_n 0, 1) := by decide +kernel
theorem dX9_beside_5 : decode cX9_beside 5 = .ok (.iload_n 2, 1) := by decide +kernel
theorem dX9_beside_6 : decode cX9_beside 6 = .ok (.bipush 100, 2) := by decide +kernel
theorem dX9_beside_8 : decode cX9_beside 8 = .ok (.idiv, 1) := by decide +kernel
theorem dX9_beside_9 : decode cX9_beside 9 = .ok (.invokevirtual 249, 3) := by decide +kernel
theorem dX9_beside_12 : decode cX9_beside 12 = .ok (.ifCond .eq 33, 3) := by decide +kernel
theorem dX9_beside_15 : decode cX9_beside 15 = .ok (.aload_n 0, 1) := by decide +kernel
theorem dX9_beside_16 : decode cX9_beside 16 = .ok (.iload_n 2, 1) := by decide +kernel
theorem dX9_beside_17 : decode cX9_beside 17 = .ok (.bipush 100, 2) := by decide +kernel
theorem dX9_beside_19 : decode cX9_beside 19 = .ok (.irem, 1) := by decide +kernel
theorem dX9_beside_20 : decode cX9_beside 20 = .ok (.invokevirtual 249, 3) := by decide +kernel
theorem dX9_beside_23 : decode cX9_beside 23 = .ok (.ifCond .eq 22, 3) := by decide +kernel
theorem dX9_beside_26 : decode cX9_beside 26 = .ok (.iload_n 2, 1) := by decide +kernel
theorem dX9_beside_27 : decode cX9_beside 27 = .ok (.bipush 100, 2) := by decide +kernel
theorem dX9_beside_29 : decode cX9_beside 29 = .ok (.idiv, 1) := by decide +kernel
theorem dX9_beside_30 : decode cX9_beside 30 = .ok (.iload_n 2, 1) := by decide +kernel
theorem dX9_beside_31 : decode cX9_beside 31 = .ok (.bipush 100, 2) := by decide +kernel
theorem dX9_beside_33 : decode cX9_beside 33 = .ok (.irem, 1) := by decide +kernel
theorem dX9_beside_34 : decode cX9_beside 34 = .ok (.if_icmp .eq 11, 3) := by decide +kernel
theorem dX9_beside_37 : decode cX9_beside 37 = .ok (.aload_n 0, 1) := by decide +kernel
theorem dX9_beside_38 : decode cX9_beside 38 = .ok (.iload_n 1, 1) := by decide +kernel
theorem dX9_beside_39 : decode cX9_beside 39 = .ok (.invokevirtual 295, 3) := by decide +kernel
theorem dX9_beside_42 : decode cX9_beside 42 = .ok (.ifCond .ne 5, 3) := by decide +kernel
theorem dX9_beside_45 : decode cX9_beside 45 = .ok (.iconst (-1), 1) := by decide +kernel
theorem dX9_beside_46 : decode cX9_beside 46 = .ok (.ireturn, 1) := by decide +kernel
theorem dX9_beside_47 : decode cX9_beside 47 = .ok (.aload_n 0, 1) := by decide +kernel
theorem dX9_beside_48 : decode cX9_beside 48 = .ok (.getfield 25, 3) := by decide +kernel
theorem dX9_beside_51 : decode cX9_beside 51 = .ok (.bipush 32, 2) := by decide +kernel
theorem dX9_beside_53 : decode cX9_beside 53 = .ok (.iload_n 2, 1) := by decide +kernel
theorem dX9_beside_54 : decode cX9_beside 54 = .ok (.bipush 100, 2) := by decide +kernel
theorem dX9_beside_56 : decode cX9_beside 56 = .ok (.idiv, 1) := by decide +kernel
theorem dX9_beside_57 : decode cX9_beside 57 = .ok (.iadd, 1) := by decide +kernel
theorem dX9_beside_58 : decode cX9_beside 58 = .ok (.iaload, 1) := by decide +kernel
theorem dX9_beside_59 : decode cX9_beside 59 = .ok (.aload_n 0, 1) := by decide +kernel
theorem dX9_beside_60 : decode cX9_beside 60 = .ok (.getfield 25, 3) := by decide +kernel
theorem dX9_beside_63 : decode cX9_beside 63 = .ok (.bipush 32, 2) := by decide +kernel
theorem dX9_beside_65 : decode cX9_beside 65 = .ok (.iload_n 2, 1) := by decide +kernel
theorem dX9_beside_66 : decode cX9_beside 66 = .ok (.bipush 100, 2) := by decide +kernel
theorem dX9_beside_68 : decode cX9_beside 68 = .ok (.irem, 1) := by decide +kernel
theorem dX9_beside_69 : decode cX9_beside 69 = .ok (.iadd, 1) := by decide +kernel
theorem dX9_beside_70 : decode cX9_beside 70 = .ok (.iaload, 1) := by decide +kernel
theorem dX9_beside_71 : decode cX9_beside 71 = .ok (.isub, 1) := by decide +kernel
theorem dX9_beside_72 : decode cX9_beside 72 = .ok (.istore_n 3, 1) := by decide +kernel
theorem dX9_beside_73 : decode cX9_beside 73 = .ok (.aload_n 0, 1) := by decide +kernel
theorem dX9_beside_74 : decode cX9_beside 74 = .ok (.getfield 28, 3) := by decide +kernel
theorem dX9_beside_77 : decode cX9_beside 77 = .ok (.bipush 32, 2) := by decide +kernel
theorem dX9_beside_79 : decode cX9_beside 79 = .ok (.iload_n 2, 1) := by decide +kernel
theorem dX9_beside_80 : decode cX9_beside 80 = .ok (.bipush 100, 2) := by decide +kernel
theorem dX9_beside_82 : decode cX9_beside 82 = .ok (.idiv, 1) := by decide +kernel
theorem dX9_beside_83 : decode cX9_beside 83 = .ok (.iadd, 1) := by decide +kernel
theorem dX9_beside_84 : decode cX9_beside 84 = .ok (.iaload, 1) := by decide +kernel
theorem dX9_beside_85 : decode cX9_beside 85 = .ok (.aload_n 0, 1) := by decide +kernel
theorem dX9_beside_86 : decode cX9_beside 86 = .ok (.getfield 28, 3) := by decide +kernel
theorem dX9_beside_89 : decode cX9_beside 89 = .ok (.bipush 32, 2) := by decide +kernel
theorem dX9_beside_91 : decode cX9_beside 91 = .ok (.iload_n 2, 1) := by decide +kernel
theorem dX9_beside_92 : decode cX9_beside 92 = .ok (.bipush 100, 2) := by decide +kernel
theorem dX9_beside_94 : decode cX9_beside 94 = .ok (.irem, 1) := by decide +kernel
theorem dX9_beside_95 : decode cX9_beside 95 = .ok (.iadd, 1) := by decide +kernel
theorem dX9_beside_96 : decode cX9_beside 96 = .ok (.iaload, 1) := by decide +kernel
theorem dX9_beside_97 : decode cX9_beside 97 = .ok (.isub, 1) := by decide +kernel
theorem dX9_beside_98 : decode cX9_beside 98 = .ok (.istore 4, 2) := by decide +kernel
theorem dX9_beside_100 : decode cX9_beside 100 = .ok (.iload_n 3, 1) := by decide +kernel
theorem dX9_beside_101 : decode cX9_beside 101 = .ok (.iload_n 3, 1) := by decide +kernel
theorem dX9_beside_102 : decode cX9_beside 102 = .ok (.imul, 1) := by decide +kernel
theorem dX9_beside_103 : decode cX9_beside 103 = .ok (.iload 4, 2) := by decide +kernel
theorem dX9_beside_105 : decode cX9_beside 105 = .ok (.iload 4, 2) := by decide +kernel
theorem dX9_beside_107 : decode cX9_beside 107 = .ok (.imul, 1) := by decide +kernel
theorem dX9_beside_108 : decode cX9_beside 108 = .ok (.iadd, 1) := by decide +kernel
theorem dX9_beside_109 : decode cX9_beside 109 = .ok (.iconst 1, 1) := by decide +kernel
theorem dX9_beside_110 : decode cX9_beside 110 = .ok (.if_icmp .ne 31, 3) := by decide +kernel
theorem dX9_beside_113 : decode cX9_beside 113 = .ok (.aload_n 0, 1) := by decide +kernel
theorem dX9_beside_114 : decode cX9_beside 114 = .ok (.iconst 1, 1) := by decide +kernel
theorem dX9_beside_115 : decode cX9_beside 115 = .ok (.iload_n 2, 1) := by decide +kernel
theorem dX9_beside_116 : decode cX9_beside 116 = .ok (.bipush 100, 2) := by decide +kernel
theorem dX9_beside_118 : decode cX9_beside 118 = .ok (.idiv, 1) := by decide +kernel
theorem dX9_beside_119 : decode cX9_beside 119 = .ok (.invokevirtual 301, 3) := by decide +kernel
theorem dX9_beside_122 : decode cX9_beside 122 = .ok (.ifCond .eq 19, 3) := by decide +kernel
theorem dX9_beside_125 : decode cX9_beside 125 = .ok (.aload_n 0, 1) := by decide +kernel
theorem dX9_beside_126 : decode cX9_beside 126 = .ok (.iconst 1, 1) := by decide +kernel
theorem dX9_beside_127 : decode cX9_beside 127 = .ok (.iload_n 2, 1) := by decide +kernel
theorem dX9_beside_128 : decode cX9_beside 128 = .ok (.bipush 100, 2) := by decide +kernel
theorem dX9_beside_130 : decode cX9_beside 130 = .ok (.irem, 1) := by decide +kernel
theorem dX9_beside_131 : decode cX9_beside 131 = .ok (.invokevirtual 301, 3) := by decide +kernel
theorem dX9_beside_134 : decode cX9_beside 134 = .ok (.ifCond .eq 7, 3) := by decide +kernel
theorem dX9_beside_137 : decode cX9_beside 137 = .ok (.iconst 1, 1) := by decide +kernel
theorem dX9_beside_138 : decode cX9_beside 138 = .ok (.goto 4, 3) := by decide +kernel
theorem dX9_beside_141 : decode cX9_beside 141 = .ok (.iconst 0, 1) := by decide +kernel
theorem dX9_beside_142 : decode cX9_beside 142 = .ok (.ireturn, 1) := by decide +kernel
def fX9_beside (N : Nat) (x1 : Int32) (x2 : Int32) (v_rowsOf : Int32) (v_columnsOf : Int32) (v_textMany : Int32) (v_base : Int32) (v_at : Int32) (v_ends : Int32) (v_fault : Int32) (v_opened : Int32) (v_bentMany : Int32) (v_bentWrong : Int32) (v_moreWorn : Int32) (v_planned : Int32) (v_allWrong : Int32) (v_allWorn : Int32) (v_z : Int32) (v_limit : List Int32) (v_shapeRows : List Int32) (v_shapeColumns : List Int32) (v_row : List Int32) (v_column : List Int32) (v_below : List Int32) (v_face : List Int32) (v_worn : List Int32) (v_lastBend : List Int32) (v_tape : List Int32) (v_text : List Int32) (v_names : List Int32) (v_bends : List Int32) (v_high : List Int32) (v_to : List Int32) (v_pileSize : List Int32) (v_planLine : List Int32) (v_planWay : List Int32) : Option (Int32 × Int32 × Int32 × Int32 × Int32 × Int32 × Int32 × Int32 × Int32 × Int32 × Int32 × Int32 × List Int32 × List Int32 × List Int32 × List Int32 × List Int32 × List Int32 × List Int32 × List Int32 × List Int32 × List Int32 × List Int32 × List Int32 × List Int32) :=
    if x2 < 0 then
    (some ((-1 : Int32), v_base, v_at, v_ends, v_fault, v_opened, v_bentMany, v_bentWrong, v_moreWorn, v_allWrong, v_allWorn, v_z, v_shapeRows, v_shapeColumns, v_row, v_column, v_below, v_face, v_worn, v_lastBend, v_names, v_bends, v_high, v_to, v_pileSize))
    else (mm_ck (mm_nz (100 : Int32)) (mm_bd1 (fX9_isField N (x2 / (100 : Int32)) v_rowsOf v_columnsOf) (fun (r_3 : Bool) =>
    if r_3 = false then
    (some ((-1 : Int32), v_base, v_at, v_ends, v_fault, v_opened, v_bentMany, v_bentWrong, v_moreWorn, v_allWrong, v_allWorn, v_z, v_shapeRows, v_shapeColumns, v_row, v_column, v_below, v_face, v_worn, v_lastBend, v_names, v_bends, v_high, v_to, v_pileSize))
    else (mm_ck (mm_nz (100 : Int32)) (mm_bd1 (fX9_isField N (mm_rem x2 (100 : Int32)) v_rowsOf v_columnsOf) (fun (r_7 : Bool) =>
    if r_7 = false then
    (some ((-1 : Int32), v_base, v_at, v_ends, v_fault, v_opened, v_bentMany, v_bentWrong, v_moreWorn, v_allWrong, v_allWorn, v_z, v_shapeRows, v_shapeColumns, v_row, v_column, v_below, v_face, v_worn, v_lastBend, v_names, v_bends, v_high, v_to, v_pileSize))
    else (mm_ck (mm_nz (100 : Int32)) (mm_ck (mm_nz (100 : Int32)) (if (x2 / (100 : Int32)) = (mm_rem x2 (100 : Int32)) then
    (some ((-1 : Int32), v_base, v_at, v_ends, v_fault, v_opened, v_bentMany, v_bentWrong, v_moreWorn, v_allWrong, v_allWorn, v_z, v_shapeRows, v_shapeColumns, v_row, v_column, v_below, v_face, v_worn, v_lastBend, v_names, v_bends, v_high, v_to, v_pileSize))
    else (mm_bd25 (fX9_isBehind N x1 v_rowsOf v_columnsOf v_textMany v_base v_at v_ends v_fault v_opened v_bentMany v_bentWrong v_moreWorn v_planned v_allWrong v_allWorn v_z v_limit v_shapeRows v_shapeColumns v_row v_column v_below v_face v_worn v_lastBend v_tape v_text v_names v_bends v_high v_to v_pileSize v_planLine v_planWay) (fun (r_13 : Bool) (w_14 : Int32) (w_15 : Int32) (w_16 : Int32) (w_17 : Int32) (w_18 : Int32) (w_19 : Int32) (w_20 : Int32) (w_21 : Int32) (w_22 : Int32) (w_23 : Int32) (w_24 : Int32) (w_25 : List Int32) (w_26 : List Int32) (w_27 : List Int32) (w_28 : List Int32) (w_29 : List Int32) (w_30 : List Int32) (w_31 : List Int32) (w_32 : List Int32) (w_33 : List Int32) (w_34 : List Int32) (w_35 : List Int32) (w_36 : List Int32) (w_37 : List Int32) =>
    if r_13 = false then
    (some ((-1 : Int32), w_14, w_15, w_16, w_17, w_18, w_19, w_20, w_21, w_22, w_23, w_24, w_25, w_26, w_27, w_28, w_29, w_30, w_31, w_32, w_33, w_34, w_35, w_36, w_37))
    else (mm_ck (mm_nz (100 : Int32)) (mm_ck (mm_inb ((32 : Int32) + (x2 / (100 : Int32))) w_27.length) (mm_ck (mm_nz (100 : Int32)) (mm_ck (mm_inb ((32 : Int32) + (mm_rem x2 (100 : Int32))) w_27.length) (mm_nm (((mm_ig w_27 ((32 : Int32) + (x2 / (100 : Int32)))) - (mm_ig w_27 ((32 : Int32) + (mm_rem x2 (100 : Int32)))))) (fun (y_44 : Int32) =>
    mm_ck (mm_nz (100 : Int32)) (mm_ck (mm_inb ((32 : Int32) + (x2 / (100 : Int32))) w_28.length) (mm_ck (mm_nz (100 : Int32)) (mm_ck (mm_inb ((32 : Int32) + (mm_rem x2 (100 : Int32))) w_28.length) (mm_nm (((mm_ig w_28 ((32 : Int32) + (x2 / (100 : Int32)))) - (mm_ig w_28 ((32 : Int32) + (mm_rem x2 (100 : Int32)))))) (fun (y_49 : Int32) =>
    if ((y_44 * y_44) + (y_49 * y_49)) = (1 : Int32) then
    (mm_ck (mm_nz (100 : Int32)) (mm_bd1 (fX9_isOnTop N (1 : Int32) (x2 / (100 : Int32)) v_rowsOf v_columnsOf w_27 w_28 w_29) (fun (r_52 : Bool) =>
    if r_52 = false then
    (some ((0 : Int32), w_14, w_15, w_16, w_17, w_18, w_19, w_20, w_21, w_22, w_23, w_24, w_25, w_26, w_27, w_28, w_29, w_30, w_31, w_32, w_33, w_34, w_35, w_36, w_37))
    else (mm_ck (mm_nz (100 : Int32)) (mm_bd1 (fX9_isOnTop N (1 : Int32) (mm_rem x2 (100 : Int32)) v_rowsOf v_columnsOf w_27 w_28 w_29) (fun (r_56 : Bool) =>
    if r_56 = false then
    (some ((0 : Int32), w_14, w_15, w_16, w_17, w_18, w_19, w_20, w_21, w_22, w_23, w_24, w_25, w_26, w_27, w_28, w_29, w_30, w_31, w_32, w_33, w_34, w_35, w_36, w_37))
    else (some ((1 : Int32), w_14, w_15, w_16, w_17, w_18, w_19, w_20, w_21, w_22, w_23, w_24, w_25, w_26, w_27, w_28, w_29, w_30, w_31, w_32, w_33, w_34, w_35, w_36, w_37))))))))
    else (some ((0 : Int32), w_14, w_15, w_16, w_17, w_18, w_19, w_20, w_21, w_22, w_23, w_24, w_25, w_26, w_27, w_28, w_29, w_30, w_31, w_32, w_33, w_34, w_35, w_36, w_37))))))))))))))))))))))))

set_option maxHeartbeats 4000000 in
set_option maxRecDepth 100000 in
theorem ctX9_beside {l : Launch} {D : va_G} {cI cL cS cH : ClassId} {a : Nat → Nat} {x1 : Int32} {x2 : Int32} {v_keptMany : Int32} {v_done : Int32} {v_rowsOf : Int32} {v_columnsOf : Int32} {v_folded : Int32} {v_wronged : Int32} {v_tapeMany : Int32} {v_textMany : Int32} {v_base : Int32} {v_at : Int32} {v_ends : Int32} {v_fault : Int32} {v_opened : Int32} {v_bentMany : Int32} {v_bentWrong : Int32} {v_moreWorn : Int32} {v_planned : Int32} {v_allWrong : Int32} {v_allWorn : Int32} {v_z : Int32} {v_wishedField : Int32} {v_isFound : Bool} {v_bestWrong : Int32} {v_bestWorn : Int32} {v_bestMany : Int32} {v_soughtBy : Int32} {v_sought : Int32} {v_soughtAt : Int32} {v_foundMany : Int32} {v_foundOrder : Int32} {v_isKept : Bool} {v_imageRows : Int32} {v_imageColumns : Int32} {v_imageFolded : Int32} {v_imageWronged : Int32} {v_bodies : Int32} {v_ran : Int32} {v_ownKind : Int32} {v_ownNumber : Int32} {v_limit : List Int32} {v_changeWas : List Int32} {v_changeIs : List Int32} {v_shapeRows : List Int32} {v_shapeColumns : List Int32} {v_row : List Int32} {v_column : List Int32} {v_below : List Int32} {v_face : List Int32} {v_worn : List Int32} {v_lastBend : List Int32} {v_tape : List Int32} {v_text : List Int32} {v_names : List Int32} {v_bends : List Int32} {v_high : List Int32} {v_to : List Int32} {v_pileSize : List Int32} {v_planLine : List Int32} {v_planWay : List Int32} {v_way1 : List Int32} {v_bestWay : List Int32} {v_order1 : List Int32} {v_placeIn : List Int32} {v_bodyKind : List Int32} {v_trace : List Int32} {v_shelf : List Int32} {v_many : List Int32} {v_items : List Int64} {v_carried : List Int64} {r : Int32} {w_base : Int32} {w_at : Int32} {w_ends : Int32} {w_fault : Int32} {w_opened : Int32} {w_bentMany : Int32} {w_bentWrong : Int32} {w_moreWorn : Int32} {w_allWrong : Int32} {w_allWorn : Int32} {w_z : Int32} {w_shapeRows : List Int32} {w_shapeColumns : List Int32} {w_row : List Int32} {w_column : List Int32} {w_below : List Int32} {w_face : List Int32} {w_worn : List Int32} {w_lastBend : List Int32} {w_names : List Int32} {w_bends : List Int32} {w_high : List Int32} {w_to : List Int32} {w_pileSize : List Int32} {N d : Nat} (hd : 62 ≤ d) (hf : fX9_beside N x1 x2 v_rowsOf v_columnsOf v_textMany v_base v_at v_ends v_fault v_opened v_bentMany v_bentWrong v_moreWorn v_planned v_allWrong v_allWorn v_z v_limit v_shapeRows v_shapeColumns v_row v_column v_below v_face v_worn v_lastBend v_tape v_text v_names v_bends v_high v_to v_pileSize v_planLine v_planWay = some (r, w_base, w_at, w_ends, w_fault, w_opened, w_bentMany, w_bentWrong, w_moreWorn, w_allWrong, w_allWorn, w_z, w_shapeRows, w_shapeColumns, w_row, w_column, w_below, w_face, w_worn, w_lastBend, w_names, w_bends, w_high, w_to, w_pileSize)) : mm_Ct l yX9_beside cX9_beside 5 (some .int) d D (mm_T cI cL cS cH) [.ref (a 0), .int x1, .int x2] (wd_X9 cI cL cS cH a v_keptMany v_done v_rowsOf v_columnsOf v_folded v_wronged v_tapeMany v_textMany v_base v_at v_ends v_fault v_opened v_bentMany v_bentWrong v_moreWorn v_planned v_allWrong v_allWorn v_z v_wishedField v_isFound v_bestWrong v_bestWorn v_bestMany v_soughtBy v_sought v_soughtAt v_foundMany v_foundOrder v_isKept v_imageRows v_imageColumns v_imageFolded v_imageWronged v_bodies v_ran v_ownKind v_ownNumber v_limit v_changeWas v_changeIs v_shapeRows v_shapeColumns v_row v_column v_below v_face v_worn v_lastBend v_tape v_text v_names v_bends v_high v_to v_pileSize v_planLine v_planWay v_way1 v_bestWay v_order1 v_placeIn v_bodyKind v_trace v_shelf v_many v_items v_carried) (wd_X9 cI cL cS cH a v_keptMany v_done v_rowsOf v_columnsOf v_folded v_wronged v_tapeMany v_textMany w_base w_at w_ends w_fault w_opened w_bentMany w_bentWrong w_moreWorn v_planned w_allWrong w_allWorn w_z v_wishedField v_isFound v_bestWrong v_bestWorn v_bestMany v_soughtBy v_sought v_soughtAt v_foundMany v_foundOrder v_isKept v_imageRows v_imageColumns v_imageFolded v_imageWronged v_bodies v_ran v_ownKind v_ownNumber v_limit v_changeWas v_changeIs w_shapeRows w_shapeColumns w_row w_column w_below w_face w_worn w_lastBend v_tape v_text w_names w_bends w_high w_to w_pileSize v_planLine v_planWay v_way1 v_bestWay v_order1 v_placeIn v_bodyKind v_trace v_shelf v_many v_items v_carried) (some (.int r)) := by
  refine mm_of (by decide) (Nat.le_of_ble_eq_true rfl) ?_
  intro p e s m args below meth c A H locs ls C0 hP hD hA hS hl
  have C0 : mm_Cx p s m args meth c RX9 cX9_beside 5 (some .int) D (mm_T cI cL cS cH) A := C0
  obtain ⟨hx, hb, hml, hown, hts, hr, hlocks, hK, hSt⟩ := id C0
  have hl : lv_has ls 5 [(0, .ref (a 0)), (1, .int x1), (2, .int x2)] := hl
  unfold fX9_beside at hf
  refine lv_iload_n hx hb dX9_beside_0 rfl (lv_at hl 2 rfl) ?_
  refine lv_if_lt (tgt := 45) hx hb dX9_beside_1 (by decide) (fun c_1 => ?_) (fun c_1 => ?_)
  · have hf := mm_ip hf c_1
    refine lv_iconst (v := -1) hx hb dX9_beside_45 (by decide) ?_
    apply mm_sub25 hf
    exact mm_iret C0 hP hD hS dX9_beside_46
  · have hf := mm_in hf c_1
    refine lv_aload_n hx hb dX9_beside_4 rfl (lv_at hl 0 rfl) ?_
    refine lv_iload_n hx hb dX9_beside_5 rfl (lv_at hl 2 rfl) ?_
    refine lv_bipush (v := 100) hx hb dX9_beside_6 (by decide) ?_
    obtain ⟨h_2, hf⟩ := mm_cks hf
    refine lv_idiv hx hb dX9_beside_8 (mm_nzs h_2) ?_
    obtain ⟨r_3, hc_4, hf⟩ := mm_bd1s hf
    refine mm_callVF (q0 := 0) (ci := 9) (rest := []) C0 lk_X9_249 (ctX9_isField (a := a) (d := d - 1) (by omega) hc_4) (by omega) rfl hl.1 rfl (mm_cat rfl) dX9_beside_9 hP hD hA hS rfl rfl (fun H locs hP hD hS => ?_)
    refine W.eq (g2 := F0 m 12 ls [.int (mm_b r_3)]) rfl ?_
    refine lv_if_eq (tgt := 45) hx hb dX9_beside_12 (by decide) (fun c_5 => ?_) (fun c_5 => ?_)
    · have hf := mm_ip hf (mm_b0 c_5)
      refine lv_iconst (v := -1) hx hb dX9_beside_45 (by decide) ?_
      apply mm_sub25 hf
      exact mm_iret C0 hP hD hS dX9_beside_46
    · have hf := mm_in hf (mm_b1 c_5)
      refine lv_aload_n hx hb dX9_beside_15 rfl (lv_at hl 0 rfl) ?_
      refine lv_iload_n hx hb dX9_beside_16 rfl (lv_at hl 2 rfl) ?_
      refine lv_bipush (v := 100) hx hb dX9_beside_17 (by decide) ?_
      obtain ⟨h_6, hf⟩ := mm_cks hf
      refine lv_irem hx hb dX9_beside_19 (mm_nzs h_6) ?_
      obtain ⟨r_7, hc_8, hf⟩ := mm_bd1s hf
      refine mm_callVF (q0 := 0) (ci := 9) (rest := []) C0 lk_X9_249 (ctX9_isField (a := a) (d := d - 1) (by omega) hc_8) (by omega) rfl hl.1 rfl (mm_cat rfl) dX9_beside_20 hP hD hA hS rfl rfl (fun H locs hP hD hS => ?_)
      refine W.eq (g2 := F0 m 23 ls [.int (mm_b r_7)]) rfl ?_
      refine lv_if_eq (tgt := 45) hx hb dX9_beside_23 (by decide) (fun c_9 => ?_) (fun c_9 => ?_)
      · have hf := mm_ip hf (mm_b0 c_9)
        refine lv_iconst (v := -1) hx hb dX9_beside_45 (by decide) ?_
        apply mm_sub25 hf
        exact mm_iret C0 hP hD hS dX9_beside_46
      · have hf := mm_in hf (mm_b1 c_9)
        refine lv_iload_n hx hb dX9_beside_26 rfl (lv_at hl 2 rfl) ?_
        refine lv_bipush (v := 100) hx hb dX9_beside_27 (by decide) ?_
        obtain ⟨h_10, hf⟩ := mm_cks hf
        refine lv_idiv hx hb dX9_beside_29 (mm_nzs h_10) ?_
        refine lv_iload_n hx hb dX9_beside_30 rfl (lv_at hl 2 rfl) ?_
        refine lv_bipush (v := 100) hx hb dX9_beside_31 (by decide) ?_
        obtain ⟨h_11, hf⟩ := mm_cks hf
        refine lv_irem hx hb dX9_beside_33 (mm_nzs h_11) ?_
        refine lv_icmp_eq (tgt := 45) hx hb dX9_beside_34 (by decide) (fun c_12 => ?_) (fun c_12 => ?_)
        · have hf := mm_ip hf c_12
          refine lv_iconst (v := -1) hx hb dX9_beside_45 (by decide) ?_
          apply mm_sub25 hf
          exact mm_iret C0 hP hD hS dX9_beside_46
        · have hf := mm_in hf c_12
          refine lv_aload_n hx hb dX9_beside_37 rfl (lv_at hl 0 rfl) ?_
          refine lv_iload_n hx hb dX9_beside_38 rfl (lv_at hl 1 rfl) ?_
          refine mm_ct25 hf (fun r_13 w_14 w_15 w_16 w_17 w_18 w_19 w_20 w_21 w_22 w_23 w_24 w_25 w_26 w_27 w_28 w_29 w_30 w_31 w_32 w_33 w_34 w_35 w_36 w_37 hc_38 hf => ?_)
          refine mm_callVF (q0 := 0) (ci := 9) (rest := []) C0 lk_X9_295 (ctX9_isBehind (a := a) (d := d - 1) (by omega) hc_38) (by omega) rfl hl.1 rfl (mm_cat rfl) dX9_beside_39 hP hD hA hS rfl rfl (fun H locs hP hD hS => ?_)
          refine W.eq (g2 := F0 m 42 ls [.int (mm_b r_13)]) rfl ?_
          refine lv_if_ne (tgt := 47) hx hb dX9_beside_42 (by decide) (fun c_39 => ?_) (fun c_39 => ?_)
          · have hf := mm_in hf (mm_b1 c_39)
            refine lv_aload_n hx hb dX9_beside_47 rfl (lv_at hl 0 rfl) ?_
            refine mm_get C0 hP iw_X9 0 rfl rfl 9 (by decide) fl_X9_25 rfl dX9_beside_48 ?_
            refine lv_bipush (v := 32) hx hb dX9_beside_51 (by decide) ?_
            refine lv_iload_n hx hb dX9_beside_53 rfl (lv_at hl 2 rfl) ?_
            refine lv_bipush (v := 100) hx hb dX9_beside_54 (by decide) ?_
            obtain ⟨h_40, hf⟩ := mm_cks hf
            refine lv_idiv hx hb dX9_beside_56 (mm_nzs h_40) ?_
            refine lv_iadd hx hb dX9_beside_57 ?_
            obtain ⟨h_41, hf⟩ := mm_cks hf
            refine mm_iald C0 hP 6 rfl h_41 dX9_beside_58 ?_
            refine lv_aload_n hx hb dX9_beside_59 rfl (lv_at hl 0 rfl) ?_
            refine mm_get C0 hP iw_X9 0 rfl rfl 9 (by decide) fl_X9_25 rfl dX9_beside_60 ?_
            refine lv_bipush (v := 32) hx hb dX9_beside_63 (by decide) ?_
            refine lv_iload_n hx hb dX9_beside_65 rfl (lv_at hl 2 rfl) ?_
            refine lv_bipush (v := 100) hx hb dX9_beside_66 (by decide) ?_
            obtain ⟨h_42, hf⟩ := mm_cks hf
            refine lv_irem hx hb dX9_beside_68 (mm_nzs h_42) ?_
            refine lv_iadd hx hb dX9_beside_69 ?_
            obtain ⟨h_43, hf⟩ := mm_cks hf
            refine mm_iald C0 hP 6 rfl h_43 dX9_beside_70 ?_
            refine lv_isub hx hb dX9_beside_71 ?_
            refine lv_topi (fun y_44 ey_44 => ?_)
            have hf := mm_nms hf ey_44
            refine lv_istore_n (lv' := [(3, .int y_44), (0, .ref (a 0)), (1, .int x1), (2, .int x2)]) hx hb dX9_beside_72 rfl hl (by decide) rfl (fun ls hl => ?_)
            refine lv_aload_n hx hb dX9_beside_73 rfl (lv_at hl 1 rfl) ?_
            refine mm_get C0 hP iw_X9 0 rfl rfl 10 (by decide) fl_X9_28 rfl dX9_beside_74 ?_
            refine lv_bipush (v := 32) hx hb dX9_beside_77 (by decide) ?_
            refine lv_iload_n hx hb dX9_beside_79 rfl (lv_at hl 3 rfl) ?_
            refine lv_bipush (v := 100) hx hb dX9_beside_80 (by decide) ?_
            obtain ⟨h_45, hf⟩ := mm_cks hf
            refine lv_idiv hx hb dX9_beside_82 (mm_nzs h_45) ?_
            refine lv_iadd hx hb dX9_beside_83 ?_
            obtain ⟨h_46, hf⟩ := mm_cks hf
            refine mm_iald C0 hP 7 rfl h_46 dX9_beside_84 ?_
            refine lv_aload_n hx hb dX9_beside_85 rfl (lv_at hl 1 rfl) ?_
            refine mm_get C0 hP iw_X9 0 rfl rfl 10 (by decide) fl_X9_28 rfl dX9_beside_86 ?_
            refine lv_bipush (v := 32) hx hb dX9_beside_89 (by decide) ?_
            refine lv_iload_n hx hb dX9_beside_91 rfl (lv_at hl 3 rfl) ?_
            refine lv_bipush (v := 100) hx hb dX9_beside_92 (by decide) ?_
            obtain ⟨h_47, hf⟩ := mm_cks hf
            refine lv_irem hx hb dX9_beside_94 (mm_nzs h_47) ?_
            refine lv_iadd hx hb dX9_beside_95 ?_
            obtain ⟨h_48, hf⟩ := mm_cks hf
            refine mm_iald C0 hP 7 rfl h_48 dX9_beside_96 ?_
            refine lv_isub hx hb dX9_beside_97 ?_
            refine lv_topi (fun y_49 ey_49 => ?_)
            have hf := mm_nms hf ey_49
            refine lv_istore (lv' := [(4, .int y_49), (3, .int y_44), (0, .ref (a 0)), (1, .int x1), (2, .int x2)]) hx hb dX9_beside_98 hl (by decide) rfl (fun ls hl => ?_)
            refine lv_iload_n hx hb dX9_beside_100 rfl (lv_at hl 1 rfl) ?_
            refine lv_iload_n hx hb dX9_beside_101 rfl (lv_at hl 1 rfl) ?_
            refine lv_imul hx hb dX9_beside_102 ?_
            refine lv_iload hx hb dX9_beside_103 (lv_at hl 0 rfl) ?_
            refine lv_iload hx hb dX9_beside_105 (lv_at hl 0 rfl) ?_
            refine lv_imul hx hb dX9_beside_107 ?_
            refine lv_iadd hx hb dX9_beside_108 ?_
            refine lv_iconst (v := 1) hx hb dX9_beside_109 (by decide) ?_
            refine lv_icmp_ne (tgt := 141) hx hb dX9_beside_110 (by decide) (fun c_50 => ?_) (fun c_50 => ?_)
            · have hf := mm_in hf c_50
              refine lv_iconst (v := 0) hx hb dX9_beside_141 (by decide) ?_
              apply mm_sub25 hf
              exact mm_iret C0 hP hD hS dX9_beside_142
            · have hf := mm_ip hf c_50
              refine lv_aload_n hx hb dX9_beside_113 rfl (lv_at hl 2 rfl) ?_
              refine lv_iconst (v := 1) hx hb dX9_beside_114 (by decide) ?_
              refine lv_iload_n hx hb dX9_beside_115 rfl (lv_at hl 4 rfl) ?_
              refine lv_bipush (v := 100) hx hb dX9_beside_116 (by decide) ?_
              obtain ⟨h_51, hf⟩ := mm_cks hf
              refine lv_idiv hx hb dX9_beside_118 (mm_nzs h_51) ?_
              obtain ⟨r_52, hc_53, hf⟩ := mm_bd1s hf
              refine mm_callVF (q0 := 0) (ci := 9) (rest := []) C0 lk_X9_301 (ctX9_isOnTop (a := a) (d := d - 1) (by omega) hc_53) (by omega) rfl hl.1 rfl (mm_cat rfl) dX9_beside_119 hP hD hA hS rfl rfl (fun H locs hP hD hS => ?_)
              refine W.eq (g2 := F0 m 122 ls [.int (mm_b r_52)]) rfl ?_
              refine lv_if_eq (tgt := 141) hx hb dX9_beside_122 (by decide) (fun c_54 => ?_) (fun c_54 => ?_)
              · have hf := mm_ip hf (mm_b0 c_54)
                refine lv_iconst (v := 0) hx hb dX9_beside_141 (by decide) ?_
                apply mm_sub25 hf
                exact mm_iret C0 hP hD hS dX9_beside_142
              · have hf := mm_in hf (mm_b1 c_54)
                refine lv_aload_n hx hb dX9_beside_125 rfl (lv_at hl 2 rfl) ?_
                refine lv_iconst (v := 1) hx hb dX9_beside_126 (by decide) ?_
                refine lv_iload_n hx hb dX9_beside_127 rfl (lv_at hl 4 rfl) ?_
                refine lv_bipush (v := 100) hx hb dX9_beside_128 (by decide) ?_
                obtain ⟨h_55, hf⟩ := mm_cks hf
                refine lv_irem hx hb dX9_beside_130 (mm_nzs h_55) ?_
                obtain ⟨r_56, hc_57, hf⟩ := mm_bd1s hf
                refine mm_callVF (q0 := 0) (ci := 9) (rest := []) C0 lk_X9_301 (ctX9_isOnTop (a := a) (d := d - 1) (by omega) hc_57) (by omega) rfl hl.1 rfl (mm_cat rfl) dX9_beside_131 hP hD hA hS rfl rfl (fun H locs hP hD hS => ?_)
                refine W.eq (g2 := F0 m 134 ls [.int (mm_b r_56)]) rfl ?_
                refine lv_if_eq (tgt := 141) hx hb dX9_beside_134 (by decide) (fun c_58 => ?_) (fun c_58 => ?_)
                · have hf := mm_ip hf (mm_b0 c_58)
                  refine lv_iconst (v := 0) hx hb dX9_beside_141 (by decide) ?_
                  apply mm_sub25 hf
                  exact mm_iret C0 hP hD hS dX9_beside_142
                · have hf := mm_in hf (mm_b1 c_58)
                  refine lv_iconst (v := 1) hx hb dX9_beside_137 (by decide) ?_
                  refine lv_goto (tgt := 142) hx hb dX9_beside_138 (by decide) ?_
                  apply mm_sub25 hf
                  exact mm_iret C0 hP hD hS dX9_beside_142
          · have hf := mm_ip hf (mm_b0 c_39)
            refine lv_iconst (v := -1) hx hb dX9_beside_45 (by decide) ?_
            apply mm_sub25 hf
            exact mm_iret C0 hP hD hS dX9_beside_46

theorem dX9_copies_0 : decode cX9_copies 0 = .ok (.aload_n 0, 1) := by decide +kernel
theorem dX9_copies_1 : decode cX9_copies 1 = .ok (.getfield 19, 3) := by decide +kernel
theorem dX9_copies_4 : decode cX9_copies 4 = .ok (.iload_n 2, 1) := by decide +kernel
theorem dX9_copies_5 : decode cX9_copies 5 = .ok (.aload_n 0, 1) := by decide +kernel
theorem dX9_copies_6 : decode cX9_copies 6 = .ok (.getfield 19, 3) := by decide +kernel
theorem dX9_copies_9 : decode cX9_copies 9 = .ok (.iload_n 1, 1) := by decide +kernel
theorem dX9_copies_10 : decode cX9_copies 10 = .ok (.iaload, 1) := by decide +kernel
theorem dX9_copies_11 : decode cX9_copies 11 = .ok (.iastore, 1) := by decide +kernel
theorem dX9_copies_12 : decode cX9_copies 12 = .ok (.aload_n 0, 1) := by decide +kernel
theorem dX9_copies_13 : decode cX9_copies 13 = .ok (.getfield 22, 3) := by decide +kernel
theorem dX9_copies_16 : decode cX9_copies 16 = .ok (.iload_n 2, 1) := by decide +kernel
theorem dX9_copies_17 : decode cX9_copies 17 = .ok (.aload_n 0, 1) := by decide +kernel
theorem dX9_copies_18 : decode cX9_copies 18 = .ok (.getfield 22, 3) := by decide +kernel
theorem dX9_copies_21 : decode cX9_copies 21 = .ok (.iload_n 1, 1) := by decide +kernel
theorem dX9_copies_22 : decode cX9_copies 22 = .ok (.iaload, 1) := by decide +kernel
theorem dX9_copies_23 : decode cX9_copies 23 = .ok (.iastore, 1) := by decide +kernel
theorem dX9_copies_24 : decode cX9_copies 24 = .ok (.iconst 0, 1) := by decide +kernel
theorem dX9_copies_25 : decode cX9_copies 25 = .ok (.istore_n 3, 1) := by decide +kernel
theorem dX9_copies_26 : decode cX9_copies 26 = .ok (.iload_n 3, 1) := by decide +kernel
theorem dX9_copies_27 : decode cX9_copies 27 = .ok (.bipush 32, 2) := by decide +kernel
theorem dX9_copies_29 : decode cX9_copies 29 = .ok (.if_icmp .ge 97, 3) := by decide +kernel
theorem dX9_copies_32 : decode cX9_copies 32 = .ok (.aload_n 0, 1) := by decide +kernel
theorem dX9_copies_33 : decode cX9_copies 33 = .ok (.getfield 25, 3) := by decide +kernel
theorem dX9_copies_36 : decode cX9_copies 36 = .ok (.bipush 32, 2) := by decide +kernel
theorem dX9_copies_38 : decode cX9_copies 38 = .ok (.iload_n 2, 1) := by decide +kernel
theorem dX9_copies_39 : decode cX9_copies 39 = .ok (.imul, 1) := by decide +kernel
theorem dX9_copies_40 : decode cX9_copies 40 = .ok (.iload_n 3, 1) := by decide +kernel
theorem dX9_copies_41 : decode cX9_copies 41 = .ok (.iadd, 1) := by decide +kernel
theorem dX9_copies_42 : decode cX9_copies 42 = .ok (.aload_n 0, 1) := by decide +kernel
theorem dX9_copies_43 : decode cX9_copies 43 = .ok (.getfield 25, 3) := by decide +kernel
theorem dX9_copies_46 : decode cX9_copies 46 = .ok (.bipush 32, 2) := by decide +kernel
theorem dX9_copies_48 : decode cX9_copies 48 = .ok (.iload_n 1, 1) := by decide +kernel
theorem dX9_copies_49 : decode cX9_copies 49 = .ok (.imul, 1) := by decide +kernel
theorem dX9_copies_50 : decode cX9_copies 50 = .ok (.iload_n 3, 1) := by decide +kernel
theorem dX9_copies_51 : decode cX9_copies 51 = .ok (.iadd, 1) := by decide +kernel
theorem dX9_copies_52 : decode cX9_copies 52 = .ok (.iaload, 1) := by decide +kernel
theorem dX9_copies_53 : decode cX9_copies 53 = .ok (.iastore, 1) := by decide +kernel
theorem dX9_copies_54 : decode cX9_copies 54 = .ok (.aload_n 0, 1) := by decide +kernel
theorem dX9_copies_55 : decode cX9_copies 55 = .ok (.getfield 28, 3) := by decide +kernel
theorem dX9_copies_58 : decode cX9_copies 58 = .ok (.bipush 32, 2) := by decide +kernel
theorem dX9_copies_60 : decode cX9_copies 60 = .ok (.iload_n 2, 1) := by decide +kernel
theorem dX9_copies_61 : decode cX9_copies 61 = .ok (.imul, 1) := by decide +kernel
theorem dX9_copies_62 : decode cX9_copies 62 = .ok (.iload_n 3, 1) := by decide +kernel
theorem dX9_copies_63 : decode cX9_copies 63 = .ok (.iadd, 1) := by decide +kernel
theorem dX9_copies_64 : decode cX9_copies 64 = .ok (.aload_n 0, 1) := by decide +kernel
theorem dX9_copies_65 : decode cX9_copies 65 = .ok (.getfield 28, 3) := by decide +kernel
theorem dX9_copies_68 : decode cX9_copies 68 = .ok (.bipush 32, 2) := by decide +kernel
theorem dX9_copies_70 : decode cX9_copies 70 = .ok (.iload_n 1, 1) := by decide +kernel
theorem dX9_copies_71 : decode cX9_copies 71 = .ok (.imul, 1) := by decide +kernel
theorem dX9_copies_72 : decode cX9_copies 72 = .ok (.iload_n 3, 1) := by decide +kernel
theorem dX9_copies_73 : decode cX9_copies 73 = .ok (.iadd, 1) := by decide +kernel
theorem dX9_copies_74 : decode cX9_copies 74 = .ok (.iaload, 1) := by decide +kernel
theorem dX9_copies_75 : decode cX9_copies 75 = .ok (.iastore, 1) := by decide +kernel
theorem dX9_copies_76 : decode cX9_copies 76 = .ok (.aload_n 0, 1) := by decide +kernel
theorem dX9_copies_77 : decode cX9_copies 77 = .ok (.getfield 31, 3) := by decide +kernel
theorem dX9_copies_80 : decode cX9_copies 80 = .ok (.bipush 32, 2) := by decide +kernel
theorem dX9_copies_82 : decode cX9_copies 82 = .ok (.iload_n 2, 1) := by decide +kernel
theorem dX9_copies_83 : decode cX9_copies 83 = .ok (.imul, 1) := by decide +kernel
theorem dX9_copies_84 : decode cX9_copies 84 = .ok (.iload_n 3, 1) := by decide +kernel
theorem dX9_copies_85 : decode cX9_copies 85 = .ok (.iadd, 1) := by decide +kernel
theorem dX9_copies_86 : decode cX9_copies 86 = .ok (.aload_n 0, 1) := by decide +kernel
theorem dX9_copies_87 : decode cX9_copies 87 = .ok (.getfield 31, 3) := by decide +kernel
theorem dX9_copies_90 : decode cX9_copies 90 = .ok (.bipush 32, 2) := by decide +kernel
theorem dX9_copies_92 : decode cX9_copies 92 = .ok (.iload_n 1, 1) := by decide +kernel
theorem dX9_copies_93 : decode cX9_copies 93 = .ok (.imul, 1) := by decide +kernel
theorem dX9_copies_94 : decode cX9_copies 94 = .ok (.iload_n 3, 1) := by decide +kernel
theorem dX9_copies_95 : decode cX9_copies 95 = .ok (.iadd, 1) := by decide +kernel
theorem dX9_copies_96 : decode cX9_copies 96 = .ok (.iaload, 1) := by decide +kernel
theorem dX9_copies_97 : decode cX9_copies 97 = .ok (.iastore, 1) := by decide +kernel
theorem dX9_copies_98 : decode cX9_copies 98 = .ok (.aload_n 0, 1) := by decide +kernel
theorem dX9_copies_99 : decode cX9_copies 99 = .ok (.getfield 34, 3) := by decide +kernel
theorem dX9_copies_102 : decode cX9_copies 102 = .ok (.bipush 32, 2) := by decide +kernel
theorem dX9_copies_104 : decode cX9_copies 104 = .ok (.iload_n 2, 1) := by decide +kernel
theorem dX9_copies_105 : decode cX9_copies 105 = .ok (.imul, 1) := by decide +kernel
theorem dX9_copies_106 : decode cX9_copies 106 = .ok (.iload_n 3, 1) := by decide +kernel
theorem dX9_copies_107 : decode cX9_copies 107 = .ok (.iadd, 1) := by decide +kernel
theorem dX9_copies_108 : decode cX9_copies 108 = .ok (.aload_n 0, 1) := by decide +kernel
theorem dX9_copies_109 : decode cX9_copies 109 = .ok (.getfield 34, 3) := by decide +kernel
theorem dX9_copies_112 : decode cX9_copies 112 = .ok (.bipush 32, 2) := by decide +kernel
theorem dX9_copies_114 : decode cX9_copies 114 = .ok (.iload_n 1, 1) := by decide +kernel
theorem dX9_copies_115 : decode cX9_copies 115 = .ok (.imul, 1) := by decide +kernel
theorem dX9_copies_116 : decode cX9_copies 116 = .ok (.iload_n 3, 1) := by decide +kernel
theorem dX9_copies_117 : decode cX9_copies 117 = .ok (.iadd, 1) := by decide +kernel
theorem dX9_copies_118 : decode cX9_copies 118 = .ok (.iaload, 1) := by decide +kernel
theorem dX9_copies_119 : decode cX9_copies 119 = .ok (.iastore, 1) := by decide +kernel
theorem dX9_copies_120 : decode cX9_copies 120 = .ok (.iinc 3 1, 3) := by decide +kernel
theorem dX9_copies_123 : decode cX9_copies 123 = .ok (.goto (-97), 3) := by decide +kernel
theorem dX9_copies_126 : decode cX9_copies 126 = .ok (.iconst 0, 1) := by decide +kernel
theorem dX9_copies_127 : decode cX9_copies 127 = .ok (.istore_n 3, 1) := by decide +kernel
theorem dX9_copies_128 : decode cX9_copies 128 = .ok (.iload_n 3, 1) := by decide +kernel
theorem dX9_copies_129 : decode cX9_copies 129 = .ok (.bipush 64, 2) := by decide +kernel
theorem dX9_copies_131 : decode cX9_copies 131 = .ok (.if_icmp .ge 53, 3) := by decide +kernel
theorem dX9_copies_134 : decode cX9_copies 134 = .ok (.aload_n 0, 1) := by decide +kernel
theorem dX9_copies_135 : decode cX9_copies 135 = .ok (.getfield 37, 3) := by decide +kernel
theorem dX9_copies_138 : decode cX9_copies 138 = .ok (.bipush 64, 2) := by decide +kernel
theorem dX9_copies_140 : decode cX9_copies 140 = .ok (.iload_n 2, 1) := by decide +kernel
theorem dX9_copies_141 : decode cX9_copies 141 = .ok (.imul, 1) := by decide +kernel
theorem dX9_copies_142 : decode cX9_copies 142 = .ok (.iload_n 3, 1) := by decide +kernel
theorem dX9_copies_143 : decode cX9_copies 143 = .ok (.iadd, 1) := by decide +kernel
theorem dX9_copies_144 : decode cX9_copies 144 = .ok (.aload_n 0, 1) := by decide +kernel
theorem dX9_copies_145 : decode cX9_copies 145 = .ok (.getfield 37, 3) := by decide +kernel
theorem dX9_copies_148 : decode cX9_copies 148 = .ok (.bipush 64, 2) := by decide +kernel
theorem dX9_copies_150 : decode cX9_copies 150 = .ok (.iload_n 1, 1) := by decide +kernel
theorem dX9_copies_151 : decode cX9_copies 151 = .ok (.imul, 1) := by decide +kernel
theorem dX9_copies_152 : decode cX9_copies 152 = .ok (.iload_n 3, 1) := by decide +kernel
theorem dX9_copies_153 : decode cX9_copies 153 = .ok (.iadd, 1) := by decide +kernel
theorem dX9_copies_154 : decode cX9_copies 154 = .ok (.iaload, 1) := by decide +kernel
theorem dX9_copies_155 : decode cX9_copies 155 = .ok (.iastore, 1) := by decide +kernel
theorem dX9_copies_156 : decode cX9_copies 156 = .ok (.aload_n 0, 1) := by decide +kernel
theorem dX9_copies_157 : decode cX9_copies 157 = .ok (.getfield 40, 3) := by decide +kernel
theorem dX9_copies_160 : decode cX9_copies 160 = .ok (.bipush 64, 2) := by decide +kernel
theorem dX9_copies_162 : decode cX9_copies 162 = .ok (.iload_n 2, 1) := by decide +kernel
theorem dX9_copies_163 : decode cX9_copies 163 = .ok (.imul, 1) := by decide +kernel
theorem dX9_copies_164 : decode cX9_copies 164 = .ok (.iload_n 3, 1) := by decide +kernel
theorem dX9_copies_165 : decode cX9_copies 165 = .ok (.iadd, 1) := by decide +kernel
theorem dX9_copies_166 : decode cX9_copies 166 = .ok (.aload_n 0, 1) := by decide +kernel
theorem dX9_copies_167 : decode cX9_copies 167 = .ok (.getfield 40, 3) := by decide +kernel
theorem dX9_copies_170 : decode cX9_copies 170 = .ok (.bipush 64, 2) := by decide +kernel
theorem dX9_copies_172 : decode cX9_copies 172 = .ok (.iload_n 1, 1) := by decide +kernel
theorem dX9_copies_173 : decode cX9_copies 173 = .ok (.imul, 1) := by decide +kernel
theorem dX9_copies_174 : decode cX9_copies 174 = .ok (.iload_n 3, 1) := by decide +kernel
theorem dX9_copies_175 : decode cX9_copies 175 = .ok (.iadd, 1) := by decide +kernel
theorem dX9_copies_176 : decode cX9_copies 176 = .ok (.iaload, 1) := by decide +kernel
theorem dX9_copies_177 : decode cX9_copies 177 = .ok (.iastore, 1) := by decide +kernel
theorem dX9_copies_178 : decode cX9_copies 178 = .ok (.iinc 3 1, 3) := by decide +kernel
theorem dX9_copies_181 : decode cX9_copies 181 = .ok (.goto (-53), 3) := by decide +kernel
theorem dX9_copies_184 : decode cX9_copies 184 = .ok (.return_, 1) := by decide +kernel
def fX9_copies_128 (N : Nat)  : Nat → Int32 → Int32 → Int32 → List Int32 → List Int32 → List Int32 → List Int32 → List Int32 → List Int32 → List Int32 → List Int32 → Option (List Int32 × List Int32 × List Int32 × List Int32 × List Int32 × List Int32 × List Int32 × List Int32)
  | 0 => fun _ _ _ _ _ _ _ _ _ _ _ => none
  | n + 1 => fun x1 x2 x3 v_shapeRows v_shapeColumns v_row v_column v_below v_face v_worn v_lastBend =>
    if (64 : Int32) ≤ x3 then
    (some (v_shapeRows, v_shapeColumns, v_row, v_column, v_below, v_face, v_worn, v_lastBend))
    else (mm_ck (mm_inb (((64 : Int32) * x1) + x3) v_worn.length) (mm_nm ((mm_ig v_worn (((64 : Int32) * x1) + x3))) (fun (y_29 : Int32) =>
    mm_ck (mm_inb (((64 : Int32) * x2) + x3) v_worn.length) (mm_nm (mm_is v_worn (((64 : Int32) * x2) + x3) y_29) (fun (l_31 : List Int32) =>
    mm_ck (mm_inb (((64 : Int32) * x1) + x3) v_lastBend.length) (mm_nm ((mm_ig v_lastBend (((64 : Int32) * x1) + x3))) (fun (y_33 : Int32) =>
    mm_ck (mm_inb (((64 : Int32) * x2) + x3) v_lastBend.length) (mm_nm (mm_is v_lastBend (((64 : Int32) * x2) + x3) y_33) (fun (l_35 : List Int32) =>
    mm_nm (x3 + (1 : Int32)) (fun (y_36 : Int32) =>
    fX9_copies_128 N n x1 x2 y_36 v_shapeRows v_shapeColumns v_row v_column v_below v_face l_31 l_35))))))))))

set_option maxHeartbeats 4000000 in
set_option maxRecDepth 100000 in
theorem tX9_copies_128 {p : Program} {l : Launch} {e : Env} {s : State} {m : MethodId} {args : Array Value} {below : List Frame} {meth : Method} {c : Code} {D : va_G} {cI cL cS cH : ClassId} {A : Nat → Prop} {d : Nat} {a : Nat → Nat} (hd : 1 ≤ d) (C0 : mm_Cx p s m args meth c RX9 cX9_copies 4 none D (mm_T cI cL cS cH) A) (hA : ∀ q, s.heap.size ≤ q → A q) {v_keptMany : Int32} {v_done : Int32} {v_rowsOf : Int32} {v_columnsOf : Int32} {v_folded : Int32} {v_wronged : Int32} {v_tapeMany : Int32} {v_textMany : Int32} {v_base : Int32} {v_at : Int32} {v_ends : Int32} {v_fault : Int32} {v_opened : Int32} {v_bentMany : Int32} {v_bentWrong : Int32} {v_moreWorn : Int32} {v_planned : Int32} {v_allWrong : Int32} {v_allWorn : Int32} {v_z : Int32} {v_wishedField : Int32} {v_isFound : Bool} {v_bestWrong : Int32} {v_bestWorn : Int32} {v_bestMany : Int32} {v_soughtBy : Int32} {v_sought : Int32} {v_soughtAt : Int32} {v_foundMany : Int32} {v_foundOrder : Int32} {v_isKept : Bool} {v_imageRows : Int32} {v_imageColumns : Int32} {v_imageFolded : Int32} {v_imageWronged : Int32} {v_bodies : Int32} {v_ran : Int32} {v_ownKind : Int32} {v_ownNumber : Int32} {v_limit : List Int32} {v_changeWas : List Int32} {v_changeIs : List Int32} {v_tape : List Int32} {v_text : List Int32} {v_names : List Int32} {v_bends : List Int32} {v_high : List Int32} {v_to : List Int32} {v_pileSize : List Int32} {v_planLine : List Int32} {v_planWay : List Int32} {v_way1 : List Int32} {v_bestWay : List Int32} {v_order1 : List Int32} {v_placeIn : List Int32} {v_bodyKind : List Int32} {v_trace : List Int32} {v_shelf : List Int32} {v_many : List Int32} {v_items : List Int64} {v_carried : List Int64} {w_shapeRows : List Int32} {w_shapeColumns : List Int32} {w_row : List Int32} {w_column : List Int32} {w_below : List Int32} {w_face : List Int32} {w_worn : List Int32} {w_lastBend : List Int32} (N : Nat)  : ∀ (n : Nat), ∀ (x1 : Int32) (x2 : Int32) (x3 : Int32) (v_shapeRows : List Int32) (v_shapeColumns : List Int32) (v_row : List Int32) (v_column : List Int32) (v_below : List Int32) (v_face : List Int32) (v_worn : List Int32) (v_lastBend : List Int32) (H : Heap) (locs : List Loc) (ls : Array Slot), fX9_copies_128 N n x1 x2 x3 v_shapeRows v_shapeColumns v_row v_column v_below v_face v_worn v_lastBend = some (w_shapeRows, w_shapeColumns, w_row, w_column, w_below, w_face, w_worn, w_lastBend) → va_P D mm_cl (wd_X9 cI cL cS cH a v_keptMany v_done v_rowsOf v_columnsOf v_folded v_wronged v_tapeMany v_textMany v_base v_at v_ends v_fault v_opened v_bentMany v_bentWrong v_moreWorn v_planned v_allWrong v_allWorn v_z v_wishedField v_isFound v_bestWrong v_bestWorn v_bestMany v_soughtBy v_sought v_soughtAt v_foundMany v_foundOrder v_isKept v_imageRows v_imageColumns v_imageFolded v_imageWronged v_bodies v_ran v_ownKind v_ownNumber v_limit v_changeWas v_changeIs v_shapeRows v_shapeColumns v_row v_column v_below v_face v_worn v_lastBend v_tape v_text v_names v_bends v_high v_to v_pileSize v_planLine v_planWay v_way1 v_bestWay v_order1 v_placeIn v_bodyKind v_trace v_shelf v_many v_items v_carried) H → va_D A (wd_X9 cI cL cS cH a v_keptMany v_done v_rowsOf v_columnsOf v_folded v_wronged v_tapeMany v_textMany v_base v_at v_ends v_fault v_opened v_bentMany v_bentWrong v_moreWorn v_planned v_allWrong v_allWorn v_z v_wishedField v_isFound v_bestWrong v_bestWorn v_bestMany v_soughtBy v_sought v_soughtAt v_foundMany v_foundOrder v_isKept v_imageRows v_imageColumns v_imageFolded v_imageWronged v_bodies v_ran v_ownKind v_ownNumber v_limit v_changeWas v_changeIs v_shapeRows v_shapeColumns v_row v_column v_below v_face v_worn v_lastBend v_tape v_text v_names v_bends v_high v_to v_pileSize v_planLine v_planWay v_way1 v_bestWay v_order1 v_placeIn v_bodyKind v_trace v_shelf v_many v_items v_carried) → va_S A s.heap H locs → lv_has ls 4 [(0, .ref (a 0)), (1, .int x1), (2, .int x2), (3, .int x3)] → W p l e (mm_rr d) s m args below meth c H locs 0 0 (mm_Z below D A (wd_X9 cI cL cS cH a v_keptMany v_done v_rowsOf v_columnsOf v_folded v_wronged v_tapeMany v_textMany v_base v_at v_ends v_fault v_opened v_bentMany v_bentWrong v_moreWorn v_planned v_allWrong v_allWorn v_z v_wishedField v_isFound v_bestWrong v_bestWorn v_bestMany v_soughtBy v_sought v_soughtAt v_foundMany v_foundOrder v_isKept v_imageRows v_imageColumns v_imageFolded v_imageWronged v_bodies v_ran v_ownKind v_ownNumber v_limit v_changeWas v_changeIs w_shapeRows w_shapeColumns w_row w_column w_below w_face w_worn w_lastBend v_tape v_text v_names v_bends v_high v_to v_pileSize v_planLine v_planWay v_way1 v_bestWay v_order1 v_placeIn v_bodyKind v_trace v_shelf v_many v_items v_carried) none args s) (F0 m 128 ls []) := by
  obtain ⟨hx, hb, hml, hown, hts, hr, hlocks, hK, hSt⟩ := id C0
  intro n
  induction n with
  | zero =>
    intro x1 x2 x3 v_shapeRows v_shapeColumns v_row v_column v_below v_face v_worn v_lastBend H locs ls hf
    cases (show none = some _ from hf)
  | succ n ih =>
    intro x1 x2 x3 v_shapeRows v_shapeColumns v_row v_column v_below v_face v_worn v_lastBend H locs ls hf hP hD hS hl
    unfold fX9_copies_128 at hf
    refine lv_iload_n hx hb dX9_copies_128 rfl (lv_at hl 3 rfl) ?_
    refine lv_bipush (v := 64) hx hb dX9_copies_129 (by decide) ?_
    refine lv_icmp_ge (tgt := 184) hx hb dX9_copies_131 (by decide) (fun c_27 => ?_) (fun c_27 => ?_)
    · have hf := mm_ip hf c_27
      apply mm_sub8 hf
      exact mm_vret C0 hP hD hS dX9_copies_184
    · have hf := mm_in hf c_27
      refine lv_aload_n hx hb dX9_copies_134 rfl (lv_at hl 0 rfl) ?_
      refine mm_get C0 hP iw_X9 0 rfl rfl 13 (by decide) fl_X9_37 rfl dX9_copies_135 ?_
      refine lv_bipush (v := 64) hx hb dX9_copies_138 (by decide) ?_
      refine lv_iload_n hx hb dX9_copies_140 rfl (lv_at hl 2 rfl) ?_
      refine lv_imul hx hb dX9_copies_141 ?_
      refine lv_iload_n hx hb dX9_copies_142 rfl (lv_at hl 3 rfl) ?_
      refine lv_iadd hx hb dX9_copies_143 ?_
      refine lv_aload_n hx hb dX9_copies_144 rfl (lv_at hl 0 rfl) ?_
      refine mm_get C0 hP iw_X9 0 rfl rfl 13 (by decide) fl_X9_37 rfl dX9_copies_145 ?_
      refine lv_bipush (v := 64) hx hb dX9_copies_148 (by decide) ?_
      refine lv_iload_n hx hb dX9_copies_150 rfl (lv_at hl 1 rfl) ?_
      refine lv_imul hx hb dX9_copies_151 ?_
      refine lv_iload_n hx hb dX9_copies_152 rfl (lv_at hl 3 rfl) ?_
      refine lv_iadd hx hb dX9_copies_153 ?_
      obtain ⟨h_28, hf⟩ := mm_cks hf
      refine mm_iald C0 hP 10 rfl h_28 dX9_copies_154 ?_
      refine lv_topi (fun y_29 ey_29 => ?_)
      have hf := mm_nms hf ey_29
      obtain ⟨h_30, hf⟩ := mm_cks hf
      refine mm_iast C0 hP hD hS 10 rfl h_30 dX9_copies_155 (w2 := (wd_X9 cI cL cS cH a v_keptMany v_done v_rowsOf v_columnsOf v_folded v_wronged v_tapeMany v_textMany v_base v_at v_ends v_fault v_opened v_bentMany v_bentWrong v_moreWorn v_planned v_allWrong v_allWorn v_z v_wishedField v_isFound v_bestWrong v_bestWorn v_bestMany v_soughtBy v_sought v_soughtAt v_foundMany v_foundOrder v_isKept v_imageRows v_imageColumns v_imageFolded v_imageWronged v_bodies v_ran v_ownKind v_ownNumber v_limit v_changeWas v_changeIs v_shapeRows v_shapeColumns v_row v_column v_below v_face (mm_is v_worn (((64 : Int32) * x2) + x3) y_29) v_lastBend v_tape v_text v_names v_bends v_high v_to v_pileSize v_planLine v_planWay v_way1 v_bestWay v_order1 v_placeIn v_bodyKind v_trace v_shelf v_many v_items v_carried)) rfl (fun H locs hP hD hS => ?_)
      generalize el_31 : (mm_is v_worn (((64 : Int32) * x2) + x3) y_29) = l_31 at hP hD
      have hf := mm_nms hf el_31.symm
      refine lv_aload_n hx hb dX9_copies_156 rfl (lv_at hl 0 rfl) ?_
      refine mm_get C0 hP iw_X9 0 rfl rfl 14 (by decide) fl_X9_40 rfl dX9_copies_157 ?_
      refine lv_bipush (v := 64) hx hb dX9_copies_160 (by decide) ?_
      refine lv_iload_n hx hb dX9_copies_162 rfl (lv_at hl 2 rfl) ?_
      refine lv_imul hx hb dX9_copies_163 ?_
      refine lv_iload_n hx hb dX9_copies_164 rfl (lv_at hl 3 rfl) ?_
      refine lv_iadd hx hb dX9_copies_165 ?_
      refine lv_aload_n hx hb dX9_copies_166 rfl (lv_at hl 0 rfl) ?_
      refine mm_get C0 hP iw_X9 0 rfl rfl 14 (by decide) fl_X9_40 rfl dX9_copies_167 ?_
      refine lv_bipush (v := 64) hx hb dX9_copies_170 (by decide) ?_
      refine lv_iload_n hx hb dX9_copies_172 rfl (lv_at hl 1 rfl) ?_
      refine lv_imul hx hb dX9_copies_173 ?_
      refine lv_iload_n hx hb dX9_copies_174 rfl (lv_at hl 3 rfl) ?_
      refine lv_iadd hx hb dX9_copies_175 ?_
      obtain ⟨h_32, hf⟩ := mm_cks hf
      refine mm_iald C0 hP 11 rfl h_32 dX9_copies_176 ?_
      refine lv_topi (fun y_33 ey_33 => ?_)
      have hf := mm_nms hf ey_33
      obtain ⟨h_34, hf⟩ := mm_cks hf
      refine mm_iast C0 hP hD hS 11 rfl h_34 dX9_copies_177 (w2 := (wd_X9 cI cL cS cH a v_keptMany v_done v_rowsOf v_columnsOf v_folded v_wronged v_tapeMany v_textMany v_base v_at v_ends v_fault v_opened v_bentMany v_bentWrong v_moreWorn v_planned v_allWrong v_allWorn v_z v_wishedField v_isFound v_bestWrong v_bestWorn v_bestMany v_soughtBy v_sought v_soughtAt v_foundMany v_foundOrder v_isKept v_imageRows v_imageColumns v_imageFolded v_imageWronged v_bodies v_ran v_ownKind v_ownNumber v_limit v_changeWas v_changeIs v_shapeRows v_shapeColumns v_row v_column v_below v_face l_31 (mm_is v_lastBend (((64 : Int32) * x2) + x3) y_33) v_tape v_text v_names v_bends v_high v_to v_pileSize v_planLine v_planWay v_way1 v_bestWay v_order1 v_placeIn v_bodyKind v_trace v_shelf v_many v_items v_carried)) rfl (fun H locs hP hD hS => ?_)
      generalize el_35 : (mm_is v_lastBend (((64 : Int32) * x2) + x3) y_33) = l_35 at hP hD
      have hf := mm_nms hf el_35.symm
      obtain ⟨y_36, ey_36⟩ : ∃ z : Int32, z = x3 + (1 : Int32) := ⟨_, rfl⟩
      have hf := mm_nms hf ey_36
      refine lv_iinc (v := y_36) (lv' := [(3, .int y_36), (0, .ref (a 0)), (1, .int x1), (2, .int x2)]) hx hb dX9_copies_178 hl (k := 3) rfl (by rw [ey_36]; rfl) (by decide) rfl (fun ls hl => ?_)
      refine lv_goto (tgt := 128) hx hb dX9_copies_181 (by decide) ?_
      exact ih _ _ _ _ _ _ _ _ _ _ _ H locs ls hf hP hD hS (lv_sub hl [1, 2, 3, 0] rfl)

def fX9_copies_26 (N : Nat)  : Nat → Int32 → Int32 → Int32 → List Int32 → List Int32 → List Int32 → List Int32 → List Int32 → List Int32 → List Int32 → List Int32 → Option (List Int32 × List Int32 × List Int32 × List Int32 × List Int32 × List Int32 × List Int32 × List Int32)
  | 0 => fun _ _ _ _ _ _ _ _ _ _ _ => none
  | n + 1 => fun x1 x2 x3 v_shapeRows v_shapeColumns v_row v_column v_below v_face v_worn v_lastBend =>
    if (32 : Int32) ≤ x3 then
    (fX9_copies_128 N N x1 x2 (0 : Int32) v_shapeRows v_shapeColumns v_row v_column v_below v_face v_worn v_lastBend)
    else (mm_ck (mm_inb (((32 : Int32) * x1) + x3) v_row.length) (mm_nm ((mm_ig v_row (((32 : Int32) * x1) + x3))) (fun (y_11 : Int32) =>
    mm_ck (mm_inb (((32 : Int32) * x2) + x3) v_row.length) (mm_nm (mm_is v_row (((32 : Int32) * x2) + x3) y_11) (fun (l_13 : List Int32) =>
    mm_ck (mm_inb (((32 : Int32) * x1) + x3) v_column.length) (mm_nm ((mm_ig v_column (((32 : Int32) * x1) + x3))) (fun (y_15 : Int32) =>
    mm_ck (mm_inb (((32 : Int32) * x2) + x3) v_column.length) (mm_nm (mm_is v_column (((32 : Int32) * x2) + x3) y_15) (fun (l_17 : List Int32) =>
    mm_ck (mm_inb (((32 : Int32) * x1) + x3) v_below.length) (mm_nm ((mm_ig v_below (((32 : Int32) * x1) + x3))) (fun (y_19 : Int32) =>
    mm_ck (mm_inb (((32 : Int32) * x2) + x3) v_below.length) (mm_nm (mm_is v_below (((32 : Int32) * x2) + x3) y_19) (fun (l_21 : List Int32) =>
    mm_ck (mm_inb (((32 : Int32) * x1) + x3) v_face.length) (mm_nm ((mm_ig v_face (((32 : Int32) * x1) + x3))) (fun (y_23 : Int32) =>
    mm_ck (mm_inb (((32 : Int32) * x2) + x3) v_face.length) (mm_nm (mm_is v_face (((32 : Int32) * x2) + x3) y_23) (fun (l_25 : List Int32) =>
    mm_nm (x3 + (1 : Int32)) (fun (y_26 : Int32) =>
    fX9_copies_26 N n x1 x2 y_26 v_shapeRows v_shapeColumns l_13 l_17 l_21 l_25 v_worn v_lastBend))))))))))))))))))

set_option maxHeartbeats 4000000 in
set_option maxRecDepth 100000 in
theorem tX9_copies_26 {p : Program} {l : Launch} {e : Env} {s : State} {m : MethodId} {args : Array Value} {below : List Frame} {meth : Method} {c : Code} {D : va_G} {cI cL cS cH : ClassId} {A : Nat → Prop} {d : Nat} {a : Nat → Nat} (hd : 1 ≤ d) (C0 : mm_Cx p s m args meth c RX9 cX9_copies 4 none D (mm_T cI cL cS cH) A) (hA : ∀ q, s.heap.size ≤ q → A q) {v_keptMany : Int32} {v_done : Int32} {v_rowsOf : Int32} {v_columnsOf : Int32} {v_folded : Int32} {v_wronged : Int32} {v_tapeMany : Int32} {v_textMany : Int32} {v_base : Int32} {v_at : Int32} {v_ends : Int32} {v_fault : Int32} {v_opened : Int32} {v_bentMany : Int32} {v_bentWrong : Int32} {v_moreWorn : Int32} {v_planned : Int32} {v_allWrong : Int32} {v_allWorn : Int32} {v_z : Int32} {v_wishedField : Int32} {v_isFound : Bool} {v_bestWrong : Int32} {v_bestWorn : Int32} {v_bestMany : Int32} {v_soughtBy : Int32} {v_sought : Int32} {v_soughtAt : Int32} {v_foundMany : Int32} {v_foundOrder : Int32} {v_isKept : Bool} {v_imageRows : Int32} {v_imageColumns : Int32} {v_imageFolded : Int32} {v_imageWronged : Int32} {v_bodies : Int32} {v_ran : Int32} {v_ownKind : Int32} {v_ownNumber : Int32} {v_limit : List Int32} {v_changeWas : List Int32} {v_changeIs : List Int32} {v_tape : List Int32} {v_text : List Int32} {v_names : List Int32} {v_bends : List Int32} {v_high : List Int32} {v_to : List Int32} {v_pileSize : List Int32} {v_planLine : List Int32} {v_planWay : List Int32} {v_way1 : List Int32} {v_bestWay : List Int32} {v_order1 : List Int32} {v_placeIn : List Int32} {v_bodyKind : List Int32} {v_trace : List Int32} {v_shelf : List Int32} {v_many : List Int32} {v_items : List Int64} {v_carried : List Int64} {w_shapeRows : List Int32} {w_shapeColumns : List Int32} {w_row : List Int32} {w_column : List Int32} {w_below : List Int32} {w_face : List Int32} {w_worn : List Int32} {w_lastBend : List Int32} (N : Nat)  : ∀ (n : Nat), ∀ (x1 : Int32) (x2 : Int32) (x3 : Int32) (v_shapeRows : List Int32) (v_shapeColumns : List Int32) (v_row : List Int32) (v_column : List Int32) (v_below : List Int32) (v_face : List Int32) (v_worn : List Int32) (v_lastBend : List Int32) (H : Heap) (locs : List Loc) (ls : Array Slot), fX9_copies_26 N n x1 x2 x3 v_shapeRows v_shapeColumns v_row v_column v_below v_face v_worn v_lastBend = some (w_shapeRows, w_shapeColumns, w_row, w_column, w_below, w_face, w_worn, w_lastBend) → va_P D mm_cl (wd_X9 cI cL cS cH a v_keptMany v_done v_rowsOf v_columnsOf v_folded v_wronged v_tapeMany v_textMany v_base v_at v_ends v_fault v_opened v_bentMany v_bentWrong v_moreWorn v_planned v_allWrong v_allWorn v_z v_wishedField v_isFound v_bestWrong v_bestWorn v_bestMany v_soughtBy v_sought v_soughtAt v_foundMany v_foundOrder v_isKept v_imageRows v_imageColumns v_imageFolded v_imageWronged v_bodies v_ran v_ownKind v_ownNumber v_limit v_changeWas v_changeIs v_shapeRows v_shapeColumns v_row v_column v_below v_face v_worn v_lastBend v_tape v_text v_names v_bends v_high v_to v_pileSize v_planLine v_planWay v_way1 v_bestWay v_order1 v_placeIn v_bodyKind v_trace v_shelf v_many v_items v_carried) H → va_D A (wd_X9 cI cL cS cH a v_keptMany v_done v_rowsOf v_columnsOf v_folded v_wronged v_tapeMany v_textMany v_base v_at v_ends v_fault v_opened v_bentMany v_bentWrong v_moreWorn v_planned v_allWrong v_allWorn v_z v_wishedField v_isFound v_bestWrong v_bestWorn v_bestMany v_soughtBy v_sought v_soughtAt v_foundMany v_foundOrder v_isKept v_imageRows v_imageColumns v_imageFolded v_imageWronged v_bodies v_ran v_ownKind v_ownNumber v_limit v_changeWas v_changeIs v_shapeRows v_shapeColumns v_row v_column v_below v_face v_worn v_lastBend v_tape v_text v_names v_bends v_high v_to v_pileSize v_planLine v_planWay v_way1 v_bestWay v_order1 v_placeIn v_bodyKind v_trace v_shelf v_many v_items v_carried) → va_S A s.heap H locs → lv_has ls 4 [(0, .ref (a 0)), (1, .int x1), (2, .int x2), (3, .int x3)] → W p l e (mm_rr d) s m args below meth c H locs 0 0 (mm_Z below D A (wd_X9 cI cL cS cH a v_keptMany v_done v_rowsOf v_columnsOf v_folded v_wronged v_tapeMany v_textMany v_base v_at v_ends v_fault v_opened v_bentMany v_bentWrong v_moreWorn v_planned v_allWrong v_allWorn v_z v_wishedField v_isFound v_bestWrong v_bestWorn v_bestMany v_soughtBy v_sought v_soughtAt v_foundMany v_foundOrder v_isKept v_imageRows v_imageColumns v_imageFolded v_imageWronged v_bodies v_ran v_ownKind v_ownNumber v_limit v_changeWas v_changeIs w_shapeRows w_shapeColumns w_row w_column w_below w_face w_worn w_lastBend v_tape v_text v_names v_bends v_high v_to v_pileSize v_planLine v_planWay v_way1 v_bestWay v_order1 v_placeIn v_bodyKind v_trace v_shelf v_many v_items v_carried) none args s) (F0 m 26 ls []) := by
  obtain ⟨hx, hb, hml, hown, hts, hr, hlocks, hK, hSt⟩ := id C0
  intro n
  induction n with
  | zero =>
    intro x1 x2 x3 v_shapeRows v_shapeColumns v_row v_column v_below v_face v_worn v_lastBend H locs ls hf
    cases (show none = some _ from hf)
  | succ n ih =>
    intro x1 x2 x3 v_shapeRows v_shapeColumns v_row v_column v_below v_face v_worn v_lastBend H locs ls hf hP hD hS hl
    unfold fX9_copies_26 at hf
    refine lv_iload_n hx hb dX9_copies_26 rfl (lv_at hl 3 rfl) ?_
    refine lv_bipush (v := 32) hx hb dX9_copies_27 (by decide) ?_
    refine lv_icmp_ge (tgt := 126) hx hb dX9_copies_29 (by decide) (fun c_9 => ?_) (fun c_9 => ?_)
    · have hf := mm_ip hf c_9
      refine lv_iconst (v := 0) hx hb dX9_copies_126 (by decide) ?_
      refine lv_istore_n (lv' := [(3, .int (0 : Int32)), (0, .ref (a 0)), (1, .int x1), (2, .int x2)]) hx hb dX9_copies_127 rfl hl (by decide) rfl (fun ls hl => ?_)
      exact tX9_copies_128 hd C0 hA N  N _ _ _ _ _ _ _ _ _ _ _ H locs ls hf hP hD hS (lv_sub hl [1, 2, 3, 0] rfl)
    · have hf := mm_in hf c_9
      refine lv_aload_n hx hb dX9_copies_32 rfl (lv_at hl 0 rfl) ?_
      refine mm_get C0 hP iw_X9 0 rfl rfl 9 (by decide) fl_X9_25 rfl dX9_copies_33 ?_
      refine lv_bipush (v := 32) hx hb dX9_copies_36 (by decide) ?_
      refine lv_iload_n hx hb dX9_copies_38 rfl (lv_at hl 2 rfl) ?_
      refine lv_imul hx hb dX9_copies_39 ?_
      refine lv_iload_n hx hb dX9_copies_40 rfl (lv_at hl 3 rfl) ?_
      refine lv_iadd hx hb dX9_copies_41 ?_
      refine lv_aload_n hx hb dX9_copies_42 rfl (lv_at hl 0 rfl) ?_
      refine mm_get C0 hP iw_X9 0 rfl rfl 9 (by decide) fl_X9_25 rfl dX9_copies_43 ?_
      refine lv_bipush (v := 32) hx hb dX9_copies_46 (by decide) ?_
      refine lv_iload_n hx hb dX9_copies_48 rfl (lv_at hl 1 rfl) ?_
      refine lv_imul hx hb dX9_copies_49 ?_
      refine lv_iload_n hx hb dX9_copies_50 rfl (lv_at hl 3 rfl) ?_
      refine lv_iadd hx hb dX9_copies_51 ?_
      obtain ⟨h_10, hf⟩ := mm_cks hf
      refine mm_iald C0 hP 6 rfl h_10 dX9_copies_52 ?_
      refine lv_topi (fun y_11 ey_11 => ?_)
      have hf := mm_nms hf ey_11
      obtain ⟨h_12, hf⟩ := mm_cks hf
      refine mm_iast C0 hP hD hS 6 rfl h_12 dX9_copies_53 (w2 := (wd_X9 cI cL cS cH a v_keptMany v_done v_rowsOf v_columnsOf v_folded v_wronged v_tapeMany v_textMany v_base v_at v_ends v_fault v_opened v_bentMany v_bentWrong v_moreWorn v_planned v_allWrong v_allWorn v_z v_wishedField v_isFound v_bestWrong v_bestWorn v_bestMany v_soughtBy v_sought v_soughtAt v_foundMany v_foundOrder v_isKept v_imageRows v_imageColumns v_imageFolded v_imageWronged v_bodies v_ran v_ownKind v_ownNumber v_limit v_changeWas v_changeIs v_shapeRows v_shapeColumns (mm_is v_row (((32 : Int32) * x2) + x3) y_11) v_column v_below v_face v_worn v_lastBend v_tape v_text v_names v_bends v_high v_to v_pileSize v_planLine v_planWay v_way1 v_bestWay v_order1 v_placeIn v_bodyKind v_trace v_shelf v_many v_items v_carried)) rfl (fun H locs hP hD hS => ?_)
      generalize el_13 : (mm_is v_row (((32 : Int32) * x2) + x3) y_11) = l_13 at hP hD
      have hf := mm_nms hf el_13.symm
      refine lv_aload_n hx hb dX9_copies_54 rfl (lv_at hl 0 rfl) ?_
      refine mm_get C0 hP iw_X9 0 rfl rfl 10 (by decide) fl_X9_28 rfl dX9_copies_55 ?_
      refine lv_bipush (v := 32) hx hb dX9_copies_58 (by decide) ?_
      refine lv_iload_n hx hb dX9_copies_60 rfl (lv_at hl 2 rfl) ?_
      refine lv_imul hx hb dX9_copies_61 ?_
      refine lv_iload_n hx hb dX9_copies_62 rfl (lv_at hl 3 rfl) ?_
      refine lv_iadd hx hb dX9_copies_63 ?_
      refine lv_aload_n hx hb dX9_copies_64 rfl (lv_at hl 0 rfl) ?_
      refine mm_get C0 hP iw_X9 0 rfl rfl 10 (by decide) fl_X9_28 rfl dX9_copies_65 ?_
      refine lv_bipush (v := 32) hx hb dX9_copies_68 (by decide) ?_
      refine lv_iload_n hx hb dX9_copies_70 rfl (lv_at hl 1 rfl) ?_
      refine lv_imul hx hb dX9_copies_71 ?_
      refine lv_iload_n hx hb dX9_copies_72 rfl (lv_at hl 3 rfl) ?_
      refine lv_iadd hx hb dX9_copies_73 ?_
      obtain ⟨h_14, hf⟩ := mm_cks hf
      refine mm_iald C0 hP 7 rfl h_14 dX9_copies_74 ?_
      refine lv_topi (fun y_15 ey_15 => ?_)
      have hf := mm_nms hf ey_15
      obtain ⟨h_16, hf⟩ := mm_cks hf
      refine mm_iast C0 hP hD hS 7 rfl h_16 dX9_copies_75 (w2 := (wd_X9 cI cL cS cH a v_keptMany v_done v_rowsOf v_columnsOf v_folded v_wronged v_tapeMany v_textMany v_base v_at v_ends v_fault v_opened v_bentMany v_bentWrong v_moreWorn v_planned v_allWrong v_allWorn v_z v_wishedField v_isFound v_bestWrong v_bestWorn v_bestMany v_soughtBy v_sought v_soughtAt v_foundMany v_foundOrder v_isKept v_imageRows v_imageColumns v_imageFolded v_imageWronged v_bodies v_ran v_ownKind v_ownNumber v_limit v_changeWas v_changeIs v_shapeRows v_shapeColumns l_13 (mm_is v_column (((32 : Int32) * x2) + x3) y_15) v_below v_face v_worn v_lastBend v_tape v_text v_names v_bends v_high v_to v_pileSize v_planLine v_planWay v_way1 v_bestWay v_order1 v_placeIn v_bodyKind v_trace v_shelf v_many v_items v_carried)) rfl (fun H locs hP hD hS => ?_)
      generalize el_17 : (mm_is v_column (((32 : Int32) * x2) + x3) y_15) = l_17 at hP hD
      have hf := mm_nms hf el_17.symm
      refine lv_aload_n hx hb dX9_copies_76 rfl (lv_at hl 0 rfl) ?_
      refine mm_get C0 hP iw_X9 0 rfl rfl 11 (by decide) fl_X9_31 rfl dX9_copies_77 ?_
      refine lv_bipush (v := 32) hx hb dX9_copies_80 (by decide) ?_
      refine lv_iload_n hx hb dX9_copies_82 rfl (lv_at hl 2 rfl) ?_
      refine lv_imul hx hb dX9_copies_83 ?_
      refine lv_iload_n hx hb dX9_copies_84 rfl (lv_at hl 3 rfl) ?_
      refine lv_iadd hx hb dX9_copies_85 ?_
      refine lv_aload_n hx hb dX9_copies_86 rfl (lv_at hl 0 rfl) ?_
      refine mm_get C0 hP iw_X9 0 rfl rfl 11 (by decide) fl_X9_31 rfl dX9_copies_87 ?_
      refine lv_bipush (v := 32) hx hb dX9_copies_90 (by decide) ?_
      refine lv_iload_n hx hb dX9_copies_92 rfl (lv_at hl 1 rfl) ?_
      refine lv_imul hx hb dX9_copies_93 ?_
      refine lv_iload_n hx hb dX9_copies_94 rfl (lv_at hl 3 rfl) ?_
      refine lv_iadd hx hb dX9_copies_95 ?_
      obtain ⟨h_18, hf⟩ := mm_cks hf
      refine mm_iald C0 hP 8 rfl h_18 dX9_copies_96 ?_
      refine lv_topi (fun y_19 ey_19 => ?_)
      have hf := mm_nms hf ey_19
      obtain ⟨h_20, hf⟩ := mm_cks hf
      refine mm_iast C0 hP hD hS 8 rfl h_20 dX9_copies_97 (w2 := (wd_X9 cI cL cS cH a v_keptMany v_done v_rowsOf v_columnsOf v_folded v_wronged v_tapeMany v_textMany v_base v_at v_ends v_fault v_opened v_bentMany v_bentWrong v_moreWorn v_planned v_allWrong v_allWorn v_z v_wishedField v_isFound v_bestWrong v_bestWorn v_bestMany v_soughtBy v_sought v_soughtAt v_foundMany v_foundOrder v_isKept v_imageRows v_imageColumns v_imageFolded v_imageWronged v_bodies v_ran v_ownKind v_ownNumber v_limit v_changeWas v_changeIs v_shapeRows v_shapeColumns l_13 l_17 (mm_is v_below (((32 : Int32) * x2) + x3) y_19) v_face v_worn v_lastBend v_tape v_text v_names v_bends v_high v_to v_pileSize v_planLine v_planWay v_way1 v_bestWay v_order1 v_placeIn v_bodyKind v_trace v_shelf v_many v_items v_carried)) rfl (fun H locs hP hD hS => ?_)
      generalize el_21 : (mm_is v_below (((32 : Int32) * x2) + x3) y_19) = l_21 at hP hD
      have hf := mm_nms hf el_21.symm
      refine lv_aload_n hx hb dX9_copies_98 rfl (lv_at hl 0 rfl) ?_
      refine mm_get C0 hP iw_X9 0 rfl rfl 12 (by decide) fl_X9_34 rfl dX9_copies_99 ?_
      refine lv_bipush (v := 32) hx hb dX9_copies_102 (by decide) ?_
      refine lv_iload_n hx hb dX9_copies_104 rfl (lv_at hl 2 rfl) ?_
      refine lv_imul hx hb dX9_copies_105 ?_
      refine lv_iload_n hx hb dX9_copies_106 rfl (lv_at hl 3 rfl) ?_
      refine lv_iadd hx hb dX9_copies_107 ?_
      refine lv_aload_n hx hb dX9_copies_108 rfl (lv_at hl 0 rfl) ?_
      refine mm_get C0 hP iw_X9 0 rfl rfl 12 (by decide) fl_X9_34 rfl dX9_copies_109 ?_
      refine lv_bipush (v := 32) hx hb dX9_copies_112 (by decide) ?_
      refine lv_iload_n hx hb dX9_copies_114 rfl (lv_at hl 1 rfl) ?_
      refine lv_imul hx hb dX9_copies_115 ?_
      refine lv_iload_n hx hb dX9_copies_116 rfl (lv_at hl 3 rfl) ?_
      refine lv_iadd hx hb dX9_copies_117 ?_
      obtain ⟨h_22, hf⟩ := mm_cks hf
      refine mm_iald C0 hP 9 rfl h_22 dX9_copies_118 ?_
      refine lv_topi (fun y_23 ey_23 => ?_)
      have hf := mm_nms hf ey_23
      obtain ⟨h_24, hf⟩ := mm_cks hf
      refine mm_iast C0 hP hD hS 9 rfl h_24 dX9_copies_119 (w2 := (wd_X9 cI cL cS cH a v_keptMany v_done v_rowsOf v_columnsOf v_folded v_wronged v_tapeMany v_textMany v_base v_at v_ends v_fault v_opened v_bentMany v_bentWrong v_moreWorn v_planned v_allWrong v_allWorn v_z v_wishedField v_isFound v_bestWrong v_bestWorn v_bestMany v_soughtBy v_sought v_soughtAt v_foundMany v_foundOrder v_isKept v_imageRows v_imageColumns v_imageFolded v_imageWronged v_bodies v_ran v_ownKind v_ownNumber v_limit v_changeWas v_changeIs v_shapeRows v_shapeColumns l_13 l_17 l_21 (mm_is v_face (((32 : Int32) * x2) + x3) y_23) v_worn v_lastBend v_tape v_text v_names v_bends v_high v_to v_pileSize v_planLine v_planWay v_way1 v_bestWay v_order1 v_placeIn v_bodyKind v_trace v_shelf v_many v_items v_carried)) rfl (fun H locs hP hD hS => ?_)
      generalize el_25 : (mm_is v_face (((32 : Int32) * x2) + x3) y_23) = l_25 at hP hD
      have hf := mm_nms hf el_25.symm
      obtain ⟨y_26, ey_26⟩ : ∃ z : Int32, z = x3 + (1 : Int32) := ⟨_, rfl⟩
      have hf := mm_nms hf ey_26
      refine lv_iinc (v := y_26) (lv' := [(3, .int y_26), (0, .ref (a 0)), (1, .int x1), (2, .int x2)]) hx hb dX9_copies_120 hl (k := 3) rfl (by rw [ey_26]; rfl) (by decide) rfl (fun ls hl => ?_)
      refine lv_goto (tgt := 26) hx hb dX9_copies_123 (by decide) ?_
      exact ih _ _ _ _ _ _ _ _ _ _ _ H locs ls hf hP hD hS (lv_sub hl [1, 2, 3, 0] rfl)

def fX9_copies (N : Nat) (x1 : Int32) (x2 : Int32) (v_shapeRows : List Int32) (v_shapeColumns : List Int32) (v_row : List Int32) (v_column : List Int32) (v_below : List Int32) (v_face : List Int32) (v_worn : List Int32) (v_lastBend : List Int32) : Option (List Int32 × List Int32 × List Int32 × List Int32 × List Int32 × List Int32 × List Int32 × List Int32) :=
    mm_ck (mm_inb x1 v_shapeRows.length) (mm_nm ((mm_ig v_shapeRows x1)) (fun (y_2 : Int32) =>
    mm_ck (mm_inb x2 v_shapeRows.length) (mm_nm (mm_is v_shapeRows x2 y_2) (fun (l_4 : List Int32) =>
    mm_ck (mm_inb x1 v_shapeColumns.length) (mm_nm ((mm_ig v_shapeColumns x1)) (fun (y_6 : Int32) =>
    mm_ck (mm_inb x2 v_shapeColumns.length) (mm_nm (mm_is v_shapeColumns x2 y_6) (fun (l_8 : List Int32) =>
    fX9_copies_26 N N x1 x2 (0 : Int32) l_4 l_8 v_row v_column v_below v_face v_worn v_lastBend))))))))

set_option maxHeartbeats 4000000 in
set_option maxRecDepth 100000 in
theorem ctX9_copies {l : Launch} {D : va_G} {cI cL cS cH : ClassId} {a : Nat → Nat} {x1 : Int32} {x2 : Int32} {v_keptMany : Int32} {v_done : Int32} {v_rowsOf : Int32} {v_columnsOf : Int32} {v_folded : Int32} {v_wronged : Int32} {v_tapeMany : Int32} {v_textMany : Int32} {v_base : Int32} {v_at : Int32} {v_ends : Int32} {v_fault : Int32} {v_opened : Int32} {v_bentMany : Int32} {v_bentWrong : Int32} {v_moreWorn : Int32} {v_planned : Int32} {v_allWrong : Int32} {v_allWorn : Int32} {v_z : Int32} {v_wishedField : Int32} {v_isFound : Bool} {v_bestWrong : Int32} {v_bestWorn : Int32} {v_bestMany : Int32} {v_soughtBy : Int32} {v_sought : Int32} {v_soughtAt : Int32} {v_foundMany : Int32} {v_foundOrder : Int32} {v_isKept : Bool} {v_imageRows : Int32} {v_imageColumns : Int32} {v_imageFolded : Int32} {v_imageWronged : Int32} {v_bodies : Int32} {v_ran : Int32} {v_ownKind : Int32} {v_ownNumber : Int32} {v_limit : List Int32} {v_changeWas : List Int32} {v_changeIs : List Int32} {v_shapeRows : List Int32} {v_shapeColumns : List Int32} {v_row : List Int32} {v_column : List Int32} {v_below : List Int32} {v_face : List Int32} {v_worn : List Int32} {v_lastBend : List Int32} {v_tape : List Int32} {v_text : List Int32} {v_names : List Int32} {v_bends : List Int32} {v_high : List Int32} {v_to : List Int32} {v_pileSize : List Int32} {v_planLine : List Int32} {v_planWay : List Int32} {v_way1 : List Int32} {v_bestWay : List Int32} {v_order1 : List Int32} {v_placeIn : List Int32} {v_bodyKind : List Int32} {v_trace : List Int32} {v_shelf : List Int32} {v_many : List Int32} {v_items : List Int64} {v_carried : List Int64} {w_shapeRows : List Int32} {w_shapeColumns : List Int32} {w_row : List Int32} {w_column : List Int32} {w_below : List Int32} {w_face : List Int32} {w_worn : List Int32} {w_lastBend : List Int32} {N d : Nat} (hd : 1 ≤ d) (hf : fX9_copies N x1 x2 v_shapeRows v_shapeColumns v_row v_column v_below v_face v_worn v_lastBend = some (w_shapeRows, w_shapeColumns, w_row, w_column, w_below, w_face, w_worn, w_lastBend)) : mm_Ct l yX9_copies cX9_copies 4 none d D (mm_T cI cL cS cH) [.ref (a 0), .int x1, .int x2] (wd_X9 cI cL cS cH a v_keptMany v_done v_rowsOf v_columnsOf v_folded v_wronged v_tapeMany v_textMany v_base v_at v_ends v_fault v_opened v_bentMany v_bentWrong v_moreWorn v_planned v_allWrong v_allWorn v_z v_wishedField v_isFound v_bestWrong v_bestWorn v_bestMany v_soughtBy v_sought v_soughtAt v_foundMany v_foundOrder v_isKept v_imageRows v_imageColumns v_imageFolded v_imageWronged v_bodies v_ran v_ownKind v_ownNumber v_limit v_changeWas v_changeIs v_shapeRows v_shapeColumns v_row v_column v_below v_face v_worn v_lastBend v_tape v_text v_names v_bends v_high v_to v_pileSize v_planLine v_planWay v_way1 v_bestWay v_order1 v_placeIn v_bodyKind v_trace v_shelf v_many v_items v_carried) (wd_X9 cI cL cS cH a v_keptMany v_done v_rowsOf v_columnsOf v_folded v_wronged v_tapeMany v_textMany v_base v_at v_ends v_fault v_opened v_bentMany v_bentWrong v_moreWorn v_planned v_allWrong v_allWorn v_z v_wishedField v_isFound v_bestWrong v_bestWorn v_bestMany v_soughtBy v_sought v_soughtAt v_foundMany v_foundOrder v_isKept v_imageRows v_imageColumns v_imageFolded v_imageWronged v_bodies v_ran v_ownKind v_ownNumber v_limit v_changeWas v_changeIs w_shapeRows w_shapeColumns w_row w_column w_below w_face w_worn w_lastBend v_tape v_text v_names v_bends v_high v_to v_pileSize v_planLine v_planWay v_way1 v_bestWay v_order1 v_placeIn v_bodyKind v_trace v_shelf v_many v_items v_carried) none := by
  refine mm_of (by decide) (Nat.le_of_ble_eq_true rfl) ?_
  intro p e s m args below meth c A H locs ls C0 hP hD hA hS hl
  have C0 : mm_Cx p s m args meth c RX9 cX9_copies 4 none D (mm_T cI cL cS cH) A := C0
  obtain ⟨hx, hb, hml, hown, hts, hr, hlocks, hK, hSt⟩ := id C0
  have hl : lv_has ls 4 [(0, .ref (a 0)), (1, .int x1), (2, .int x2)] := hl
  unfold fX9_copies at hf
  refine lv_aload_n hx hb dX9_copies_0 rfl (lv_at hl 0 rfl) ?_
  refine mm_get C0 hP iw_X9 0 rfl rfl 7 (by decide) fl_X9_19 rfl dX9_copies_1 ?_
  refine lv_iload_n hx hb dX9_copies_4 rfl (lv_at hl 2 rfl) ?_
  refine lv_aload_n hx hb dX9_copies_5 rfl (lv_at hl 0 rfl) ?_
  refine mm_get C0 hP iw_X9 0 rfl rfl 7 (by decide) fl_X9_19 rfl dX9_copies_6 ?_
  refine lv_iload_n hx hb dX9_copies_9 rfl (lv_at hl 1 rfl) ?_
  obtain ⟨h_1, hf⟩ := mm_cks hf
  refine mm_iald C0 hP 4 rfl h_1 dX9_copies_10 ?_
  refine lv_topi (fun y_2 ey_2 => ?_)
  have hf := mm_nms hf ey_2
  obtain ⟨h_3, hf⟩ := mm_cks hf
  refine mm_iast C0 hP hD hS 4 rfl h_3 dX9_copies_11 (w2 := (wd_X9 cI cL cS cH a v_keptMany v_done v_rowsOf v_columnsOf v_folded v_wronged v_tapeMany v_textMany v_base v_at v_ends v_fault v_opened v_bentMany v_bentWrong v_moreWorn v_planned v_allWrong v_allWorn v_z v_wishedField v_isFound v_bestWrong v_bestWorn v_bestMany v_soughtBy v_sought v_soughtAt v_foundMany v_foundOrder v_isKept v_imageRows v_imageColumns v_imageFolded v_imageWronged v_bodies v_ran v_ownKind v_ownNumber v_limit v_changeWas v_changeIs (mm_is v_shapeRows x2 y_2) v_shapeColumns v_row v_column v_below v_face v_worn v_lastBend v_tape v_text v_names v_bends v_high v_to v_pileSize v_planLine v_planWay v_way1 v_bestWay v_order1 v_placeIn v_bodyKind v_trace v_shelf v_many v_items v_carried)) rfl (fun H locs hP hD hS => ?_)
  generalize el_4 : (mm_is v_shapeRows x2 y_2) = l_4 at hP hD
  have hf := mm_nms hf el_4.symm
  refine lv_aload_n hx hb dX9_copies_12 rfl (lv_at hl 0 rfl) ?_
  refine mm_get C0 hP iw_X9 0 rfl rfl 8 (by decide) fl_X9_22 rfl dX9_copies_13 ?_
  refine lv_iload_n hx hb dX9_copies_16 rfl (lv_at hl 2 rfl) ?_
  refine lv_aload_n hx hb dX9_copies_17 rfl (lv_at hl 0 rfl) ?_
  refine mm_get C0 hP iw_X9 0 rfl rfl 8 (by decide) fl_X9_22 rfl dX9_copies_18 ?_
  refine lv_iload_n hx hb dX9_copies_21 rfl (lv_at hl 1 rfl) ?_
  obtain ⟨h_5, hf⟩ := mm_cks hf
  refine mm_iald C0 hP 5 rfl h_5 dX9_copies_22 ?_
  refine lv_topi (fun y_6 ey_6 => ?_)
  have hf := mm_nms hf ey_6
  obtain ⟨h_7, hf⟩ := mm_cks hf
  refine mm_iast C0 hP hD hS 5 rfl h_7 dX9_copies_23 (w2 := (wd_X9 cI cL cS cH a v_keptMany v_done v_rowsOf v_columnsOf v_folded v_wronged v_tapeMany v_textMany v_base v_at v_ends v_fault v_opened v_bentMany v_bentWrong v_moreWorn v_planned v_allWrong v_allWorn v_z v_wishedField v_isFound v_bestWrong v_bestWorn v_bestMany v_soughtBy v_sought v_soughtAt v_foundMany v_foundOrder v_isKept v_imageRows v_imageColumns v_imageFolded v_imageWronged v_bodies v_ran v_ownKind v_ownNumber v_limit v_changeWas v_changeIs l_4 (mm_is v_shapeColumns x2 y_6) v_row v_column v_below v_face v_worn v_lastBend v_tape v_text v_names v_bends v_high v_to v_pileSize v_planLine v_planWay v_way1 v_bestWay v_order1 v_placeIn v_bodyKind v_trace v_shelf v_many v_items v_carried)) rfl (fun H locs hP hD hS => ?_)
  generalize el_8 : (mm_is v_shapeColumns x2 y_6) = l_8 at hP hD
  have hf := mm_nms hf el_8.symm
  refine lv_iconst (v := 0) hx hb dX9_copies_24 (by decide) ?_
  refine lv_istore_n (lv' := [(3, .int (0 : Int32)), (0, .ref (a 0)), (1, .int x1), (2, .int x2)]) hx hb dX9_copies_25 rfl hl (by decide) rfl (fun ls hl => ?_)
  exact tX9_copies_26 hd C0 hA N  N _ _ _ _ _ _ _ _ _ _ _ H locs ls hf hP hD hS (lv_sub hl [1, 2, 3, 0] rfl)

theorem dX9_halvings_0 : decode cX9_halvings 0 = .ok (.iconst 0, 1) := by decide +kernel
theorem dX9_halvings_1 : decode cX9_halvings 1 = .ok (.istore_n 1, 1) := by decide +kernel
theorem dX9_halvings_2 : decode cX9_halvings 2 = .ok (.iload_n 0, 1) := by decide +kernel
theorem dX9_halvings_3 : decode cX9_halvings 3 = .ok (.istore_n 2, 1) := by decide +kernel
theorem dX9_halvings_4 : decode cX9_halvings 4 = .ok (.iload_n 2, 1) := by decide +kernel
theorem dX9_halvings_5 : decode cX9_halvings 5 = .ok (.iconst 1, 1) := by decide +kernel
theorem dX9_halvings_6 : decode cX9_halvings 6 = .ok (.if_icmp .le 15, 3) := by decide +kernel
theorem dX9_halvings_9 : decode cX9_halvings 9 = .ok (.iinc 1 1, 3) := by decide +kernel
theorem dX9_halvings_12 : decode cX9_halvings 12 = .ok (.iload_n 2, 1) := by decide +kernel
theorem dX9_halvings_13 : decode cX9_halvings 13 = .ok (.iconst 1, 1) := by decide +kernel
theorem dX9_halvings_14 : decode cX9_halvings 14 = .ok (.iadd, 1) := by decide +kernel
theorem dX9_halvings_15 : decode cX9_halvings 15 = .ok (.iconst 2, 1) := by decide +kernel
theorem dX9_halvings_16 : decode cX9_halvings 16 = .ok (.idiv, 1) := by decide +kernel
theorem dX9_halvings_17 : decode cX9_halvings 17 = .ok (.istore_n 2, 1) := by decide +kernel
theorem dX9_halvings_18 : decode cX9_halvings 18 = .ok (.goto (-14), 3) := by decide +kernel
theorem dX9_halvings_21 : decode cX9_halvings 21 = .ok (.iload_n 1, 1) := by decide +kernel
theorem dX9_halvings_22 : decode cX9_halvings 22 = .ok (.ireturn, 1) := by decide +kernel
def fX9_halvings_4 (N : Nat)  : Nat → Int32 → Int32 → Option (Int32)
  | 0 => fun _ _ => none
  | n + 1 => fun x1 x2 =>
    if x2 ≤ (1 : Int32) then
    (some (x1))
    else (mm_nm (x1 + (1 : Int32)) (fun (y_2 : Int32) =>
    mm_ck (mm_nz (2 : Int32)) (mm_nm (((x2 + (1 : Int32)) / (2 : Int32))) (fun (y_4 : Int32) =>
    fX9_halvings_4 N n y_2 y_4))))

set_option maxHeartbeats 4000000 in
set_option maxRecDepth 100000 in
theorem tX9_halvings_4 {p : Program} {l : Launch} {e : Env} {s : State} {m : MethodId} {args : Array Value} {below : List Frame} {meth : Method} {c : Code} {D : va_G} {cI cL cS cH : ClassId} {A : Nat → Prop} {d : Nat} (hd : 1 ≤ d) (C0 : mm_Cx p s m args meth c RX9 cX9_halvings 3 (some .int) D (mm_T cI cL cS cH) A) (hA : ∀ q, s.heap.size ≤ q → A q)  {r : Int32} (N : Nat)  : ∀ (n : Nat), ∀ (x1 : Int32) (x2 : Int32) (H : Heap) (locs : List Loc) (ls : Array Slot), fX9_halvings_4 N n x1 x2 = some r → va_P D mm_cl ([] : va_W) H → va_D A ([] : va_W) → va_S A s.heap H locs → lv_has ls 3 [(1, .int x1), (2, .int x2)] → W p l e (mm_rr d) s m args below meth c H locs 0 0 (mm_Z below D A ([] : va_W) (some (.int r)) args s) (F0 m 4 ls []) := by
  obtain ⟨hx, hb, hml, hown, hts, hr, hlocks, hK, hSt⟩ := id C0
  intro n
  induction n with
  | zero =>
    intro x1 x2 H locs ls hf
    cases (show none = some _ from hf)
  | succ n ih =>
    intro x1 x2 H locs ls hf hP hD hS hl
    unfold fX9_halvings_4 at hf
    refine lv_iload_n hx hb dX9_halvings_4 rfl (lv_at hl 1 rfl) ?_
    refine lv_iconst (v := 1) hx hb dX9_halvings_5 (by decide) ?_
    refine lv_icmp_le (tgt := 21) hx hb dX9_halvings_6 (by decide) (fun c_1 => ?_) (fun c_1 => ?_)
    · have hf := mm_ip hf c_1
      refine lv_iload_n hx hb dX9_halvings_21 rfl (lv_at hl 0 rfl) ?_
      obtain rfl := mm_inj1 hf
      exact mm_iret C0 hP hD hS dX9_halvings_22
    · have hf := mm_in hf c_1
      obtain ⟨y_2, ey_2⟩ : ∃ z : Int32, z = x1 + (1 : Int32) := ⟨_, rfl⟩
      have hf := mm_nms hf ey_2
      refine lv_iinc (v := y_2) (lv' := [(1, .int y_2), (2, .int x2)]) hx hb dX9_halvings_9 hl (k := 0) rfl (by rw [ey_2]; rfl) (by decide) rfl (fun ls hl => ?_)
      refine lv_iload_n hx hb dX9_halvings_12 rfl (lv_at hl 1 rfl) ?_
      refine lv_iconst (v := 1) hx hb dX9_halvings_13 (by decide) ?_
      refine lv_iadd hx hb dX9_halvings_14 ?_
      refine lv_iconst (v := 2) hx hb dX9_halvings_15 (by decide) ?_
      obtain ⟨h_3, hf⟩ := mm_cks hf
      refine lv_idiv hx hb dX9_halvings_16 (mm_nzs h_3) ?_
      refine lv_topi (fun y_4 ey_4 => ?_)
      have hf := mm_nms hf ey_4
      refine lv_istore_n (lv' := [(2, .int y_4), (1, .int y_2)]) hx hb dX9_halvings_17 rfl hl (by decide) rfl (fun ls hl => ?_)
      refine lv_goto (tgt := 4) hx hb dX9_halvings_18 (by decide) ?_
      exact ih _ _ H locs ls hf hP hD hS (lv_sub hl [1, 0] rfl)

def fX9_halvings (N : Nat) (x0 : Int32) : Option (Int32) :=
    fX9_halvings_4 N N (0 : Int32) x0

set_option maxHeartbeats 4000000 in
set_option maxRecDepth 100000 in
theorem ctX9_halvings {l : Launch} {D : va_G} {cI cL cS cH : ClassId} {x0 : Int32}  {r : Int32} {N d : Nat} (hd : 1 ≤ d) (hf : fX9_halvings N x0 = some r) : mm_Ct l yX9_halvings cX9_halvings 3 (some .int) d D (mm_T cI cL cS cH) [.int x0] ([] : va_W) ([] : va_W) (some (.int r)) := by
  refine mm_of (by decide) (Nat.le_of_ble_eq_true rfl) ?_
  intro p e s m args below meth c A H locs ls C0 hP hD hA hS hl
  have C0 : mm_Cx p s m args meth c RX9 cX9_halvings 3 (some .int) D (mm_T cI cL cS cH) A := C0
  obtain ⟨hx, hb, hml, hown, hts, hr, hlocks, hK, hSt⟩ := id C0
  have hl : lv_has ls 3 [(0, .int x0)] := hl
  unfold fX9_halvings at hf
  refine lv_iconst (v := 0) hx hb dX9_halvings_0 (by decide) ?_
  refine lv_istore_n (lv' := [(1, .int (0 : Int32)), (0, .int x0)]) hx hb dX9_halvings_1 rfl hl (by decide) rfl (fun ls hl => ?_)
  refine lv_iload_n hx hb dX9_halvings_2 rfl (lv_at hl 1 rfl) ?_
  refine lv_istore_n (lv' := [(2, .int x0), (1, .int (0 : Int32)), (0, .int x0)]) hx hb dX9_halvings_3 rfl hl (by decide) rfl (fun ls hl => ?_)
  exact tX9_halvings_4 hd C0 hA N  N _ _ H locs ls hf hP hD hS (lv_sub hl [1, 0] rfl)

