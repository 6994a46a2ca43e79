/-! reference: X9_goesPlan, X9_cost, X9_isBehind, X9_lies, X9_topOf, X9_top, X9_isOnTop -/
theorem dX9_goesPlan_0 : decode cX9_goesPlan 0 = .ok (.aload_n 0, 1) := by decide +kernel
theorem dX9_goesPlan_1 : decode cX9_goesPlan 1 = .ok (.iconst 1, 1) := by decide +kernel
theorem dX9_goesPlan_2 : decode cX9_goesPlan 2 = .ok (.invokevirtual 279, 3) := by decide +kernel
theorem dX9_goesPlan_5 : decode cX9_goesPlan 5 = .ok (.aload_n 0, 1) := by decide +kernel
theorem dX9_goesPlan_6 : decode cX9_goesPlan 6 = .ok (.iconst 0, 1) := by decide +kernel
theorem dX9_goesPlan_7 : decode cX9_goesPlan 7 = .ok (.putfield 282, 3) := by decide +kernel
theorem dX9_goesPlan_10 : decode cX9_goesPlan 10 = .ok (.aload_n 0, 1) := by decide +kernel
theorem dX9_goesPlan_11 : decode cX9_goesPlan 11 = .ok (.iconst 0, 1) := by decide +kernel
theorem dX9_goesPlan_12 : decode cX9_goesPlan 12 = .ok (.putfield 285, 3) := by decide +kernel
theorem dX9_goesPlan_15 : decode cX9_goesPlan 15 = .ok (.iconst 0, 1) := by decide +kernel
theorem dX9_goesPlan_16 : decode cX9_goesPlan 16 = .ok (.istore_n 3, 1) := by decide +kernel
theorem dX9_goesPlan_17 : decode cX9_goesPlan 17 = .ok (.iload_n 3, 1) := by decide +kernel
theorem dX9_goesPlan_18 : decode cX9_goesPlan 18 = .ok (.aload_n 0, 1) := by decide +kernel
theorem dX9_goesPlan_19 : decode cX9_goesPlan 19 = .ok (.getfield 271, 3) := by decide +kernel
theorem dX9_goesPlan_22 : decode cX9_goesPlan 22 = .ok (.if_icmp .ge 126, 3) := by decide +kernel
theorem dX9_goesPlan_25 : decode cX9_goesPlan 25 = .ok (.iload_n 3, 1) := by decide +kernel
theorem dX9_goesPlan_26 : decode cX9_goesPlan 26 = .ok (.iload_n 1, 1) := by decide +kernel
theorem dX9_goesPlan_27 : decode cX9_goesPlan 27 = .ok (.if_icmp .ge 121, 3) := by decide +kernel
theorem dX9_goesPlan_30 : decode cX9_goesPlan 30 = .ok (.aload_n 0, 1) := by decide +kernel
theorem dX9_goesPlan_31 : decode cX9_goesPlan 31 = .ok (.iconst 1, 1) := by decide +kernel
theorem dX9_goesPlan_32 : decode cX9_goesPlan 32 = .ok (.aload_n 0, 1) := by decide +kernel
theorem dX9_goesPlan_33 : decode cX9_goesPlan 33 = .ok (.getfield 64, 3) := by decide +kernel
theorem dX9_goesPlan_36 : decode cX9_goesPlan 36 = .ok (.iload_n 3, 1) := by decide +kernel
theorem dX9_goesPlan_37 : decode cX9_goesPlan 37 = .ok (.iaload, 1) := by decide +kernel
theorem dX9_goesPlan_38 : decode cX9_goesPlan 38 = .ok (.aload_n 0, 1) := by decide +kernel
theorem dX9_goesPlan_39 : decode cX9_goesPlan 39 = .ok (.getfield 67, 3) := by decide +kernel
theorem dX9_goesPlan_42 : decode cX9_goesPlan 42 = .ok (.iload_n 3, 1) := by decide +kernel
theorem dX9_goesPlan_43 : decode cX9_goesPlan 43 = .ok (.iaload, 1) := by decide +kernel
theorem dX9_goesPlan_44 : decode cX9_goesPlan 44 = .ok (.invokevirtual 240, 3) := by decide +kernel
theorem dX9_goesPlan_47 : decode cX9_goesPlan 47 = .ok (.ifCond .eq 101, 3) := by decide +kernel
theorem dX9_goesPlan_50 : decode cX9_goesPlan 50 = .ok (.aload_n 0, 1) := by decide +kernel
theorem dX9_goesPlan_51 : decode cX9_goesPlan 51 = .ok (.getfield 67, 3) := by decide +kernel
theorem dX9_goesPlan_54 : decode cX9_goesPlan 54 = .ok (.iload_n 3, 1) := by decide +kernel
theorem dX9_goesPlan_55 : decode cX9_goesPlan 55 = .ok (.iaload, 1) := by decide +kernel
theorem dX9_goesPlan_56 : decode cX9_goesPlan 56 = .ok (.istore 4, 2) := by decide +kernel
theorem dX9_goesPlan_58 : decode cX9_goesPlan 58 = .ok (.iload_n 2, 1) := by decide +kernel
theorem dX9_goesPlan_59 : decode cX9_goesPlan 59 = .ok (.ifCond .lt 44, 3) := by decide +kernel
theorem dX9_goesPlan_62 : decode cX9_goesPlan 62 = .ok (.aload_n 0, 1) := by decide +kernel
theorem dX9_goesPlan_63 : decode cX9_goesPlan 63 = .ok (.aload_n 0, 1) := by decide +kernel
theorem dX9_goesPlan_64 : decode cX9_goesPlan 64 = .ok (.getfield 288, 3) := by decide +kernel
theorem dX9_goesPlan_67 : decode cX9_goesPlan 67 = .ok (.ldc_w 291, 3) := by decide +kernel
theorem dX9_goesPlan_70 : decode cX9_goesPlan 70 = .ok (.imul, 1) := by decide +kernel
theorem dX9_goesPlan_71 : decode cX9_goesPlan 71 = .ok (.sipush 12345, 3) := by decide +kernel
theorem dX9_goesPlan_74 : decode cX9_goesPlan 74 = .ok (.iadd, 1) := by decide +kernel
theorem dX9_goesPlan_75 : decode cX9_goesPlan 75 = .ok (.putfield 288, 3) := by decide +kernel
theorem dX9_goesPlan_78 : decode cX9_goesPlan 78 = .ok (.aload_n 0, 1) := by decide +kernel
theorem dX9_goesPlan_79 : decode cX9_goesPlan 79 = .ok (.getfield 288, 3) := by decide +kernel
theorem dX9_goesPlan_82 : decode cX9_goesPlan 82 = .ok (.bipush 8, 2) := by decide +kernel
theorem dX9_goesPlan_84 : decode cX9_goesPlan 84 = .ok (.iushr, 1) := by decide +kernel
theorem dX9_goesPlan_85 : decode cX9_goesPlan 85 = .ok (.bipush 100, 2) := by decide +kernel
theorem dX9_goesPlan_87 : decode cX9_goesPlan 87 = .ok (.irem, 1) := by decide +kernel
theorem dX9_goesPlan_88 : decode cX9_goesPlan 88 = .ok (.iload_n 2, 1) := by decide +kernel
theorem dX9_goesPlan_89 : decode cX9_goesPlan 89 = .ok (.if_icmp .ge 10, 3) := by decide +kernel
theorem dX9_goesPlan_92 : decode cX9_goesPlan 92 = .ok (.iload 4, 2) := by decide +kernel
theorem dX9_goesPlan_94 : decode cX9_goesPlan 94 = .ok (.iconst 1, 1) := by decide +kernel
theorem dX9_goesPlan_95 : decode cX9_goesPlan 95 = .ok (.ixor, 1) := by decide +kernel
theorem dX9_goesPlan_96 : decode cX9_goesPlan 96 = .ok (.goto 5, 3) := by decide +kernel
theorem dX9_goesPlan_99 : decode cX9_goesPlan 99 = .ok (.iload 4, 2) := by decide +kernel
theorem dX9_goesPlan_101 : decode cX9_goesPlan 101 = .ok (.istore 4, 2) := by decide +kernel
theorem dX9_goesPlan_103 : decode cX9_goesPlan 103 = .ok (.aload_n 0, 1) := by decide +kernel
theorem dX9_goesPlan_104 : decode cX9_goesPlan 104 = .ok (.iconst 1, 1) := by decide +kernel
theorem dX9_goesPlan_105 : decode cX9_goesPlan 105 = .ok (.aload_n 0, 1) := by decide +kernel
theorem dX9_goesPlan_106 : decode cX9_goesPlan 106 = .ok (.getfield 64, 3) := by decide +kernel
theorem dX9_goesPlan_109 : decode cX9_goesPlan 109 = .ok (.iload_n 3, 1) := by decide +kernel
theorem dX9_goesPlan_110 : decode cX9_goesPlan 110 = .ok (.iaload, 1) := by decide +kernel
theorem dX9_goesPlan_111 : decode cX9_goesPlan 111 = .ok (.iload 4, 2) := by decide +kernel
theorem dX9_goesPlan_113 : decode cX9_goesPlan 113 = .ok (.invokevirtual 244, 3) := by decide +kernel
theorem dX9_goesPlan_116 : decode cX9_goesPlan 116 = .ok (.aload_n 0, 1) := by decide +kernel
theorem dX9_goesPlan_117 : decode cX9_goesPlan 117 = .ok (.dup, 1) := by decide +kernel
theorem dX9_goesPlan_118 : decode cX9_goesPlan 118 = .ok (.getfield 282, 3) := by decide +kernel
theorem dX9_goesPlan_121 : decode cX9_goesPlan 121 = .ok (.aload_n 0, 1) := by decide +kernel
theorem dX9_goesPlan_122 : decode cX9_goesPlan 122 = .ok (.getfield 211, 3) := by decide +kernel
theorem dX9_goesPlan_125 : decode cX9_goesPlan 125 = .ok (.iadd, 1) := by decide +kernel
theorem dX9_goesPlan_126 : decode cX9_goesPlan 126 = .ok (.putfield 282, 3) := by decide +kernel
theorem dX9_goesPlan_129 : decode cX9_goesPlan 129 = .ok (.aload_n 0, 1) := by decide +kernel
theorem dX9_goesPlan_130 : decode cX9_goesPlan 130 = .ok (.dup, 1) := by decide +kernel
theorem dX9_goesPlan_131 : decode cX9_goesPlan 131 = .ok (.getfield 285, 3) := by decide +kernel
theorem dX9_goesPlan_134 : decode cX9_goesPlan 134 = .ok (.aload_n 0, 1) := by decide +kernel
theorem dX9_goesPlan_135 : decode cX9_goesPlan 135 = .ok (.getfield 214, 3) := by decide +kernel
theorem dX9_goesPlan_138 : decode cX9_goesPlan 138 = .ok (.iadd, 1) := by decide +kernel
theorem dX9_goesPlan_139 : decode cX9_goesPlan 139 = .ok (.putfield 285, 3) := by decide +kernel
theorem dX9_goesPlan_142 : decode cX9_goesPlan 142 = .ok (.iinc 3 1, 3) := by decide +kernel
theorem dX9_goesPlan_145 : decode cX9_goesPlan 145 = .ok (.goto (-128), 3) := by decide +kernel
theorem dX9_goesPlan_148 : decode cX9_goesPlan 148 = .ok (.iload_n 3, 1) := by decide +kernel
theorem dX9_goesPlan_149 : decode cX9_goesPlan 149 = .ok (.ireturn, 1) := by decide +kernel
def fX9_goesPlan_103 (N : Nat) (k_17 : Int32 → Int32 → Int32 → Int32 → Int32 → Int32 → Int32 → Int32 → Int32 → Int32 → Int32 → Int32 → Int32 → Int32 → Int32 → Int32 → Int32 → Int32 → List Int32 → List Int32 → List Int32 → List Int32 → List Int32 → List Int32 → List Int32 → List Int32 → List Int32 → List Int32 → List Int32 → List Int32 → List Int32 → List Int32 → List Int32 → List Int32 → List Int32 → List Int32 → Option (Int32 × Int32 × Int32 × Int32 × Int32 × Int32 × Int32 × Int32 × Int32 × Int32 × Int32 × Int32 × List Int32 × List Int32 × List Int32 × List Int32 × List Int32 × List Int32 × List Int32 × List Int32 × List Int32 × List Int32 × List Int32 × List Int32 × List Int32)) (x1 : Int32) (x2 : Int32) (x3 : Int32) (x4 : Int32) (v_rowsOf : Int32) (v_columnsOf : Int32) (v_textMany : Int32) (v_base : Int32) (v_at : Int32) (v_ends : Int32) (v_fault : Int32) (v_opened : Int32) (v_bentMany : Int32) (v_bentWrong : Int32) (v_moreWorn : Int32) (v_planned : Int32) (v_allWrong : Int32) (v_allWorn : Int32) (v_z : Int32) (v_limit : List Int32) (v_shapeRows : List Int32) (v_shapeColumns : List Int32) (v_row : List Int32) (v_column : List Int32) (v_below : List Int32) (v_face : List Int32) (v_worn : List Int32) (v_lastBend : List Int32) (v_tape : List Int32) (v_text : List Int32) (v_names : List Int32) (v_bends : List Int32) (v_high : List Int32) (v_to : List Int32) (v_pileSize : List Int32) (v_planLine : List Int32) (v_planWay : List Int32) : Option (Int32 × Int32 × Int32 × Int32 × Int32 × Int32 × Int32 × Int32 × Int32 × Int32 × Int32 × Int32 × List Int32 × List Int32 × List Int32 × List Int32 × List Int32 × List Int32 × List Int32 × List Int32 × List Int32 × List Int32 × List Int32 × List Int32 × List Int32) :=
    mm_ck (mm_inb x3 v_planLine.length) (mm_bd21 (fX9_foldsOn N (1 : Int32) (mm_ig v_planLine x3) x4 v_rowsOf v_columnsOf v_textMany v_base v_at v_ends v_fault v_opened v_bentMany v_bentWrong v_moreWorn v_limit v_shapeRows v_shapeColumns v_row v_column v_below v_face v_worn v_lastBend v_tape v_text v_names v_bends v_high v_to v_pileSize) (fun (w_24 : Int32) (w_25 : Int32) (w_26 : Int32) (w_27 : Int32) (w_28 : Int32) (w_29 : Int32) (w_30 : Int32) (w_31 : Int32) (w_32 : List Int32) (w_33 : List Int32) (w_34 : List Int32) (w_35 : List Int32) (w_36 : List Int32) (w_37 : List Int32) (w_38 : List Int32) (w_39 : List Int32) (w_40 : List Int32) (w_41 : List Int32) (w_42 : List Int32) (w_43 : List Int32) (w_44 : List Int32) =>
    mm_nm ((v_allWrong + w_30)) (fun (y_46 : Int32) =>
    mm_nm ((v_allWorn + w_31)) (fun (y_47 : Int32) =>
    mm_nm (x3 + (1 : Int32)) (fun (y_48 : Int32) =>
    k_17 x1 x2 y_48 v_rowsOf v_columnsOf v_textMany w_24 w_25 w_26 w_27 w_28 w_29 w_30 w_31 v_planned y_46 y_47 v_z v_limit w_32 w_33 w_34 w_35 w_36 w_37 w_38 w_39 v_tape v_text w_40 w_41 w_42 w_43 w_44 v_planLine v_planWay)))))

set_option maxHeartbeats 4000000 in
set_option maxRecDepth 100000 in
theorem tX9_goesPlan_103 {p : Program} {l : Launch} {e : Env} {s : State} {m : MethodId} {args : Array Value} {below : List Frame} {meth : Method} {c : Code} {D : va_G} {cI cL cS cH : ClassId} {A : Nat → Prop} {d : Nat} {a : Nat → Nat} (hd : 60 ≤ d) (C0 : mm_Cx p s m args meth c RX9 cX9_goesPlan 5 (some .int) D (mm_T cI cL cS cH) A) (hA : ∀ q, s.heap.size ≤ q → A q) {v_keptMany : Int32} {v_done : Int32} {v_folded : Int32} {v_wronged : Int32} {v_tapeMany : Int32} {v_wishedField : Int32} {v_isFound : Bool} {v_bestWrong : Int32} {v_bestWorn : Int32} {v_bestMany : Int32} {v_soughtBy : Int32} {v_sought : Int32} {v_soughtAt : Int32} {v_foundMany : Int32} {v_foundOrder : Int32} {v_isKept : Bool} {v_imageRows : Int32} {v_imageColumns : Int32} {v_imageFolded : Int32} {v_imageWronged : Int32} {v_bodies : Int32} {v_ran : Int32} {v_ownKind : Int32} {v_ownNumber : Int32} {v_changeWas : List Int32} {v_changeIs : List Int32} {v_way1 : List Int32} {v_bestWay : List Int32} {v_order1 : List Int32} {v_placeIn : List Int32} {v_bodyKind : List Int32} {v_trace : List Int32} {v_shelf : List Int32} {v_many : List Int32} {v_items : List Int64} {v_carried : List Int64} {r : Int32} {w_base : Int32} {w_at : Int32} {w_ends : Int32} {w_fault : Int32} {w_opened : Int32} {w_bentMany : Int32} {w_bentWrong : Int32} {w_moreWorn : Int32} {w_allWrong : Int32} {w_allWorn : Int32} {w_z : Int32} {w_shapeRows : List Int32} {w_shapeColumns : List Int32} {w_row : List Int32} {w_column : List Int32} {w_below : List Int32} {w_face : List Int32} {w_worn : List Int32} {w_lastBend : List Int32} {w_names : List Int32} {w_bends : List Int32} {w_high : List Int32} {w_to : List Int32} {w_pileSize : List Int32} (N : Nat) {k_17 : Int32 → Int32 → Int32 → Int32 → Int32 → Int32 → Int32 → Int32 → Int32 → Int32 → Int32 → Int32 → Int32 → Int32 → Int32 → Int32 → Int32 → Int32 → List Int32 → List Int32 → List Int32 → List Int32 → List Int32 → List Int32 → List Int32 → List Int32 → List Int32 → List Int32 → List Int32 → List Int32 → List Int32 → List Int32 → List Int32 → List Int32 → List Int32 → List Int32 → Option (Int32 × Int32 × Int32 × Int32 × Int32 × Int32 × Int32 × Int32 × Int32 × Int32 × Int32 × Int32 × List Int32 × List Int32 × List Int32 × List Int32 × List Int32 × List Int32 × List Int32 × List Int32 × List Int32 × List Int32 × List Int32 × List Int32 × List Int32)} (hk_17 : ∀ (x1 : Int32) (x2 : Int32) (x3 : Int32) (v_rowsOf : Int32) (v_columnsOf : Int32) (v_textMany : Int32) (v_base : Int32) (v_at : Int32) (v_ends : Int32) (v_fault : Int32) (v_opened : Int32) (v_bentMany : Int32) (v_bentWrong : Int32) (v_moreWorn : Int32) (v_planned : Int32) (v_allWrong : Int32) (v_allWorn : Int32) (v_z : Int32) (v_limit : List Int32) (v_shapeRows : List Int32) (v_shapeColumns : List Int32) (v_row : List Int32) (v_column : List Int32) (v_below : List Int32) (v_face : List Int32) (v_worn : List Int32) (v_lastBend : List Int32) (v_tape : List Int32) (v_text : List Int32) (v_names : List Int32) (v_bends : List Int32) (v_high : List Int32) (v_to : List Int32) (v_pileSize : List Int32) (v_planLine : List Int32) (v_planWay : List Int32) (H : Heap) (locs : List Loc) (ls : Array Slot), k_17 x1 x2 x3 v_rowsOf v_columnsOf v_textMany v_base v_at v_ends v_fault v_opened v_bentMany v_bentWrong v_moreWorn v_planned v_allWrong v_allWorn v_z v_limit v_shapeRows v_shapeColumns v_row v_column v_below v_face v_worn v_lastBend v_tape v_text v_names v_bends v_high v_to v_pileSize v_planLine v_planWay = some (r, w_base, w_at, w_ends, w_fault, w_opened, w_bentMany, w_bentWrong, w_moreWorn, w_allWrong, w_allWorn, w_z, w_shapeRows, w_shapeColumns, w_row, w_column, w_below, w_face, w_worn, w_lastBend, w_names, w_bends, w_high, w_to, w_pileSize) → va_P D mm_cl (wd_X9 cI cL cS cH a v_keptMany v_done v_rowsOf v_columnsOf v_folded v_wronged v_tapeMany v_textMany v_base v_at v_ends v_fault v_opened v_bentMany v_bentWrong v_moreWorn v_planned v_allWrong v_allWorn v_z v_wishedField v_isFound v_bestWrong v_bestWorn v_bestMany v_soughtBy v_sought v_soughtAt v_foundMany v_foundOrder v_isKept v_imageRows v_imageColumns v_imageFolded v_imageWronged v_bodies v_ran v_ownKind v_ownNumber v_limit v_changeWas v_changeIs v_shapeRows v_shapeColumns v_row v_column v_below v_face v_worn v_lastBend v_tape v_text v_names v_bends v_high v_to v_pileSize v_planLine v_planWay v_way1 v_bestWay v_order1 v_placeIn v_bodyKind v_trace v_shelf v_many v_items v_carried) H → va_D A (wd_X9 cI cL cS cH a v_keptMany v_done v_rowsOf v_columnsOf v_folded v_wronged v_tapeMany v_textMany v_base v_at v_ends v_fault v_opened v_bentMany v_bentWrong v_moreWorn v_planned v_allWrong v_allWorn v_z v_wishedField v_isFound v_bestWrong v_bestWorn v_bestMany v_soughtBy v_sought v_soughtAt v_foundMany v_foundOrder v_isKept v_imageRows v_imageColumns v_imageFolded v_imageWronged v_bodies v_ran v_ownKind v_ownNumber v_limit v_changeWas v_changeIs v_shapeRows v_shapeColumns v_row v_column v_below v_face v_worn v_lastBend v_tape v_text v_names v_bends v_high v_to v_pileSize v_planLine v_planWay v_way1 v_bestWay v_order1 v_placeIn v_bodyKind v_trace v_shelf v_many v_items v_carried) → va_S A s.heap H locs → lv_has ls 5 [(0, .ref (a 0)), (1, .int x1), (2, .int x2), (3, .int x3)] → W p l e (mm_rr d) s m args below meth c H locs 0 0 (mm_Z below D A (wd_X9 cI cL cS cH a v_keptMany v_done v_rowsOf v_columnsOf v_folded v_wronged v_tapeMany v_textMany w_base w_at w_ends w_fault w_opened w_bentMany w_bentWrong w_moreWorn v_planned w_allWrong w_allWorn w_z v_wishedField v_isFound v_bestWrong v_bestWorn v_bestMany v_soughtBy v_sought v_soughtAt v_foundMany v_foundOrder v_isKept v_imageRows v_imageColumns v_imageFolded v_imageWronged v_bodies v_ran v_ownKind v_ownNumber v_limit v_changeWas v_changeIs w_shapeRows w_shapeColumns w_row w_column w_below w_face w_worn w_lastBend v_tape v_text w_names w_bends w_high w_to w_pileSize v_planLine v_planWay v_way1 v_bestWay v_order1 v_placeIn v_bodyKind v_trace v_shelf v_many v_items v_carried) (some (.int r)) args s) (F0 m 17 ls [])) : ∀ (x1 : Int32) (x2 : Int32) (x3 : Int32) (x4 : Int32) (v_rowsOf : Int32) (v_columnsOf : Int32) (v_textMany : Int32) (v_base : Int32) (v_at : Int32) (v_ends : Int32) (v_fault : Int32) (v_opened : Int32) (v_bentMany : Int32) (v_bentWrong : Int32) (v_moreWorn : Int32) (v_planned : Int32) (v_allWrong : Int32) (v_allWorn : Int32) (v_z : Int32) (v_limit : List Int32) (v_shapeRows : List Int32) (v_shapeColumns : List Int32) (v_row : List Int32) (v_column : List Int32) (v_below : List Int32) (v_face : List Int32) (v_worn : List Int32) (v_lastBend : List Int32) (v_tape : List Int32) (v_text : List Int32) (v_names : List Int32) (v_bends : List Int32) (v_high : List Int32) (v_to : List Int32) (v_pileSize : List Int32) (v_planLine : List Int32) (v_planWay : List Int32) (H : Heap) (locs : List Loc) (ls : Array Slot), fX9_goesPlan_103 N k_17 x1 x2 x3 x4 v_rowsOf v_columnsOf v_textMany v_base v_at v_ends v_fault v_opened v_bentMany v_bentWrong v_moreWorn v_planned v_allWrong v_allWorn v_z v_limit v_shapeRows v_shapeColumns v_row v_column v_below v_face v_worn v_lastBend v_tape v_text v_names v_bends v_high v_to v_pileSize v_planLine v_planWay = some (r, w_base, w_at, w_ends, w_fault, w_opened, w_bentMany, w_bentWrong, w_moreWorn, w_allWrong, w_allWorn, w_z, w_shapeRows, w_shapeColumns, w_row, w_column, w_below, w_face, w_worn, w_lastBend, w_names, w_bends, w_high, w_to, w_pileSize) → va_P D mm_cl (wd_X9 cI cL cS cH a v_keptMany v_done v_rowsOf v_columnsOf v_folded v_wronged v_tapeMany v_textMany v_base v_at v_ends v_fault v_opened v_bentMany v_bentWrong v_moreWorn v_planned v_allWrong v_allWorn v_z v_wishedField v_isFound v_bestWrong v_bestWorn v_bestMany v_soughtBy v_sought v_soughtAt v_foundMany v_foundOrder v_isKept v_imageRows v_imageColumns v_imageFolded v_imageWronged v_bodies v_ran v_ownKind v_ownNumber v_limit v_changeWas v_changeIs v_shapeRows v_shapeColumns v_row v_column v_below v_face v_worn v_lastBend v_tape v_text v_names v_bends v_high v_to v_pileSize v_planLine v_planWay v_way1 v_bestWay v_order1 v_placeIn v_bodyKind v_trace v_shelf v_many v_items v_carried) H → va_D A (wd_X9 cI cL cS cH a v_keptMany v_done v_rowsOf v_columnsOf v_folded v_wronged v_tapeMany v_textMany v_base v_at v_ends v_fault v_opened v_bentMany v_bentWrong v_moreWorn v_planned v_allWrong v_allWorn v_z v_wishedField v_isFound v_bestWrong v_bestWorn v_bestMany v_soughtBy v_sought v_soughtAt v_foundMany v_foundOrder v_isKept v_imageRows v_imageColumns v_imageFolded v_imageWronged v_bodies v_ran v_ownKind v_ownNumber v_limit v_changeWas v_changeIs v_shapeRows v_shapeColumns v_row v_column v_below v_face v_worn v_lastBend v_tape v_text v_names v_bends v_high v_to v_pileSize v_planLine v_planWay v_way1 v_bestWay v_order1 v_placeIn v_bodyKind v_trace v_shelf v_many v_items v_carried) → va_S A s.heap H locs → lv_has ls 5 [(0, .ref (a 0)), (1, .int x1), (2, .int x2), (3, .int x3), (4, .int x4)] → W p l e (mm_rr d) s m args below meth c H locs 0 0 (mm_Z below D A (wd_X9 cI cL cS cH a v_keptMany v_done v_rowsOf v_columnsOf v_folded v_wronged v_tapeMany v_textMany w_base w_at w_ends w_fault w_opened w_bentMany w_bentWrong w_moreWorn v_planned w_allWrong w_allWorn w_z v_wishedField v_isFound v_bestWrong v_bestWorn v_bestMany v_soughtBy v_sought v_soughtAt v_foundMany v_foundOrder v_isKept v_imageRows v_imageColumns v_imageFolded v_imageWronged v_bodies v_ran v_ownKind v_ownNumber v_limit v_changeWas v_changeIs w_shapeRows w_shapeColumns w_row w_column w_below w_face w_worn w_lastBend v_tape v_text w_names w_bends w_high w_to w_pileSize v_planLine v_planWay v_way1 v_bestWay v_order1 v_placeIn v_bodyKind v_trace v_shelf v_many v_items v_carried) (some (.int r)) args s) (F0 m 103 ls []) := by
  obtain ⟨hx, hb, hml, hown, hts, hr, hlocks, hK, hSt⟩ := id C0
  intro x1 x2 x3 x4 v_rowsOf v_columnsOf v_textMany v_base v_at v_ends v_fault v_opened v_bentMany v_bentWrong v_moreWorn v_planned v_allWrong v_allWorn v_z v_limit v_shapeRows v_shapeColumns v_row v_column v_below v_face v_worn v_lastBend v_tape v_text v_names v_bends v_high v_to v_pileSize v_planLine v_planWay H locs ls hf hP hD hS hl
  unfold fX9_goesPlan_103 at hf
  refine lv_aload_n hx hb dX9_goesPlan_103 rfl (lv_at hl 0 rfl) ?_
  refine lv_iconst (v := 1) hx hb dX9_goesPlan_104 (by decide) ?_
  refine lv_aload_n hx hb dX9_goesPlan_105 rfl (lv_at hl 0 rfl) ?_
  refine mm_get C0 hP iw_X9 0 rfl rfl 34 (by decide) fl_X9_64 rfl dX9_goesPlan_106 ?_
  refine lv_iload_n hx hb dX9_goesPlan_109 rfl (lv_at hl 3 rfl) ?_
  obtain ⟨h_23, hf⟩ := mm_cks hf
  refine mm_iald C0 hP 19 rfl h_23 dX9_goesPlan_110 ?_
  refine lv_iload hx hb dX9_goesPlan_111 (lv_at hl 4 rfl) ?_
  refine mm_ct21 hf (fun w_24 w_25 w_26 w_27 w_28 w_29 w_30 w_31 w_32 w_33 w_34 w_35 w_36 w_37 w_38 w_39 w_40 w_41 w_42 w_43 w_44 hc_45 hf => ?_)
  refine mm_callVF (q0 := 0) (ci := 9) (rest := []) C0 lk_X9_244 (ctX9_foldsOn (a := a) (d := d - 1) (by omega) hc_45) (by omega) rfl hl.1 rfl (mm_cat rfl) dX9_goesPlan_113 hP hD hA hS rfl rfl (fun H locs hP hD hS => ?_)
  refine W.eq (g2 := F0 m 116 ls []) rfl ?_
  refine lv_aload_n hx hb dX9_goesPlan_116 rfl (lv_at hl 0 rfl) ?_
  refine lv_dup hx hb dX9_goesPlan_117 rfl ?_
  refine mm_get C0 hP iw_X9 0 rfl rfl 37 (by decide) fl_X9_282 rfl dX9_goesPlan_118 ?_
  refine lv_aload_n hx hb dX9_goesPlan_121 rfl (lv_at hl 0 rfl) ?_
  refine mm_get C0 hP iw_X9 0 rfl rfl 29 (by decide) fl_X9_211 rfl dX9_goesPlan_122 ?_
  refine lv_iadd hx hb dX9_goesPlan_125 ?_
  refine lv_topi (fun y_46 ey_46 => ?_)
  have hf := mm_nms hf ey_46
  refine mm_put C0 hP hD hS iw_X9 tyX9 tyX9_ok nmX9 0 rfl rfl 37 (by decide) fl_X9_282 rfl rfl rfl (Nat.le_of_ble_eq_true rfl) dX9_goesPlan_126 (w2 := (wd_X9 cI cL cS cH a v_keptMany v_done v_rowsOf v_columnsOf v_folded v_wronged v_tapeMany v_textMany w_24 w_25 w_26 w_27 w_28 w_29 w_30 w_31 v_planned y_46 v_allWorn v_z v_wishedField v_isFound v_bestWrong v_bestWorn v_bestMany v_soughtBy v_sought v_soughtAt v_foundMany v_foundOrder v_isKept v_imageRows v_imageColumns v_imageFolded v_imageWronged v_bodies v_ran v_ownKind v_ownNumber v_limit v_changeWas v_changeIs w_32 w_33 w_34 w_35 w_36 w_37 w_38 w_39 v_tape v_text w_40 w_41 w_42 w_43 w_44 v_planLine v_planWay v_way1 v_bestWay v_order1 v_placeIn v_bodyKind v_trace v_shelf v_many v_items v_carried)) rfl (fun H locs hP hD hS => ?_)
  refine lv_aload_n hx hb dX9_goesPlan_129 rfl (lv_at hl 0 rfl) ?_
  refine lv_dup hx hb dX9_goesPlan_130 rfl ?_
  refine mm_get C0 hP iw_X9 0 rfl rfl 38 (by decide) fl_X9_285 rfl dX9_goesPlan_131 ?_
  refine lv_aload_n hx hb dX9_goesPlan_134 rfl (lv_at hl 0 rfl) ?_
  refine mm_get C0 hP iw_X9 0 rfl rfl 30 (by decide) fl_X9_214 rfl dX9_goesPlan_135 ?_
  refine lv_iadd hx hb dX9_goesPlan_138 ?_
  refine lv_topi (fun y_47 ey_47 => ?_)
  have hf := mm_nms hf ey_47
  refine mm_put C0 hP hD hS iw_X9 tyX9 tyX9_ok nmX9 0 rfl rfl 38 (by decide) fl_X9_285 rfl rfl rfl (Nat.le_of_ble_eq_true rfl) dX9_goesPlan_139 (w2 := (wd_X9 cI cL cS cH a v_keptMany v_done v_rowsOf v_columnsOf v_folded v_wronged v_tapeMany v_textMany w_24 w_25 w_26 w_27 w_28 w_29 w_30 w_31 v_planned y_46 y_47 v_z v_wishedField v_isFound v_bestWrong v_bestWorn v_bestMany v_soughtBy v_sought v_soughtAt v_foundMany v_foundOrder v_isKept v_imageRows v_imageColumns v_imageFolded v_imageWronged v_bodies v_ran v_ownKind v_ownNumber v_limit v_changeWas v_changeIs w_32 w_33 w_34 w_35 w_36 w_37 w_38 w_39 v_tape v_text w_40 w_41 w_42 w_43 w_44 v_planLine v_planWay v_way1 v_bestWay v_order1 v_placeIn v_bodyKind v_trace v_shelf v_many v_items v_carried)) rfl (fun H locs hP hD hS => ?_)
  obtain ⟨y_48, ey_48⟩ : ∃ z : Int32, z = x3 + (1 : Int32) := ⟨_, rfl⟩
  have hf := mm_nms hf ey_48
  refine lv_iinc (v := y_48) (lv' := [(3, .int y_48), (0, .ref (a 0)), (1, .int x1), (2, .int x2), (4, .int x4)]) hx hb dX9_goesPlan_142 hl (k := 3) rfl (by rw [ey_48]; rfl) (by decide) rfl (fun ls hl => ?_)
  refine lv_goto (tgt := 17) hx hb dX9_goesPlan_145 (by decide) ?_
  exact hk_17 _ _ _ _ _ _ _ _ _ _ _ _ _ _ _ _ _ _ _ _ _ _ _ _ _ _ _ _ _ _ _ _ _ _ _ _ H locs ls hf hP hD hS (lv_sub hl [1, 2, 3, 0] rfl)

def fX9_goesPlan_101 (N : Nat) (k_17 : Int32 → Int32 → Int32 → Int32 → Int32 → Int32 → Int32 → Int32 → Int32 → Int32 → Int32 → Int32 → Int32 → Int32 → Int32 → Int32 → Int32 → Int32 → List Int32 → List Int32 → List Int32 → List Int32 → List Int32 → List Int32 → List Int32 → List Int32 → List Int32 → List Int32 → List Int32 → List Int32 → List Int32 → List Int32 → List Int32 → List Int32 → List Int32 → List Int32 → Option (Int32 × Int32 × Int32 × Int32 × Int32 × Int32 × Int32 × Int32 × Int32 × Int32 × Int32 × Int32 × List Int32 × List Int32 × List Int32 × List Int32 × List Int32 × List Int32 × List Int32 × List Int32 × List Int32 × List Int32 × List Int32 × List Int32 × List Int32)) (x1 : Int32) (x2 : Int32) (x3 : Int32) (s0 : Int32) (v_rowsOf : Int32) (v_columnsOf : Int32) (v_textMany : Int32) (v_base : Int32) (v_at : Int32) (v_ends : Int32) (v_fault : Int32) (v_opened : Int32) (v_bentMany : Int32) (v_bentWrong : Int32) (v_moreWorn : Int32) (v_planned : Int32) (v_allWrong : Int32) (v_allWorn : Int32) (v_z : Int32) (v_limit : List Int32) (v_shapeRows : List Int32) (v_shapeColumns : List Int32) (v_row : List Int32) (v_column : List Int32) (v_below : List Int32) (v_face : List Int32) (v_worn : List Int32) (v_lastBend : List Int32) (v_tape : List Int32) (v_text : List Int32) (v_names : List Int32) (v_bends : List Int32) (v_high : List Int32) (v_to : List Int32) (v_pileSize : List Int32) (v_planLine : List Int32) (v_planWay : List Int32) : Option (Int32 × Int32 × Int32 × Int32 × Int32 × Int32 × Int32 × Int32 × Int32 × Int32 × Int32 × Int32 × List Int32 × List Int32 × List Int32 × List Int32 × List Int32 × List Int32 × List Int32 × List Int32 × List Int32 × List Int32 × List Int32 × List Int32 × List Int32) :=
    fX9_goesPlan_103 N k_17 x1 x2 x3 s0 v_rowsOf v_columnsOf v_textMany v_base v_at v_ends v_fault v_opened v_bentMany v_bentWrong v_moreWorn v_planned v_allWrong v_allWorn v_z v_limit v_shapeRows v_shapeColumns v_row v_column v_below v_face v_worn v_lastBend v_tape v_text v_names v_bends v_high v_to v_pileSize v_planLine v_planWay

set_option maxHeartbeats 4000000 in
set_option maxRecDepth 100000 in
theorem tX9_goesPlan_101 {p : Program} {l : Launch} {e : Env} {s : State} {m : MethodId} {args : Array Value} {below : List Frame} {meth : Method} {c : Code} {D : va_G} {cI cL cS cH : ClassId} {A : Nat → Prop} {d : Nat} {a : Nat → Nat} (hd : 60 ≤ d) (C0 : mm_Cx p s m args meth c RX9 cX9_goesPlan 5 (some .int) D (mm_T cI cL cS cH) A) (hA : ∀ q, s.heap.size ≤ q → A q) {v_keptMany : Int32} {v_done : Int32} {v_folded : Int32} {v_wronged : Int32} {v_tapeMany : Int32} {v_wishedField : Int32} {v_isFound : Bool} {v_bestWrong : Int32} {v_bestWorn : Int32} {v_bestMany : Int32} {v_soughtBy : Int32} {v_sought : Int32} {v_soughtAt : Int32} {v_foundMany : Int32} {v_foundOrder : Int32} {v_isKept : Bool} {v_imageRows : Int32} {v_imageColumns : Int32} {v_imageFolded : Int32} {v_imageWronged : Int32} {v_bodies : Int32} {v_ran : Int32} {v_ownKind : Int32} {v_ownNumber : Int32} {v_changeWas : List Int32} {v_changeIs : List Int32} {v_way1 : List Int32} {v_bestWay : List Int32} {v_order1 : List Int32} {v_placeIn : List Int32} {v_bodyKind : List Int32} {v_trace : List Int32} {v_shelf : List Int32} {v_many : List Int32} {v_items : List Int64} {v_carried : List Int64} {r : Int32} {w_base : Int32} {w_at : Int32} {w_ends : Int32} {w_fault : Int32} {w_opened : Int32} {w_bentMany : Int32} {w_bentWrong : Int32} {w_moreWorn : Int32} {w_allWrong : Int32} {w_allWorn : Int32} {w_z : Int32} {w_shapeRows : List Int32} {w_shapeColumns : List Int32} {w_row : List Int32} {w_column : List Int32} {w_below : List Int32} {w_face : List Int32} {w_worn : List Int32} {w_lastBend : List Int32} {w_names : List Int32} {w_bends : List Int32} {w_high : List Int32} {w_to : List Int32} {w_pileSize : List Int32} (N : Nat) {k_17 : Int32 → Int32 → Int32 → Int32 → Int32 → Int32 → Int32 → Int32 → Int32 → Int32 → Int32 → Int32 → Int32 → Int32 → Int32 → Int32 → Int32 → Int32 → List Int32 → List Int32 → List Int32 → List Int32 → List Int32 → List Int32 → List Int32 → List Int32 → List Int32 → List Int32 → List Int32 → List Int32 → List Int32 → List Int32 → List Int32 → List Int32 → List Int32 → List Int32 → Option (Int32 × Int32 × Int32 × Int32 × Int32 × Int32 × Int32 × Int32 × Int32 × Int32 × Int32 × Int32 × List Int32 × List Int32 × List Int32 × List Int32 × List Int32 × List Int32 × List Int32 × List Int32 × List Int32 × List Int32 × List Int32 × List Int32 × List Int32)} (hk_17 : ∀ (x1 : Int32) (x2 : Int32) (x3 : Int32) (v_rowsOf : Int32) (v_columnsOf : Int32) (v_textMany : Int32) (v_base : Int32) (v_at : Int32) (v_ends : Int32) (v_fault : Int32) (v_opened : Int32) (v_bentMany : Int32) (v_bentWrong : Int32) (v_moreWorn : Int32) (v_planned : Int32) (v_allWrong : Int32) (v_allWorn : Int32) (v_z : Int32) (v_limit : List Int32) (v_shapeRows : List Int32) (v_shapeColumns : List Int32) (v_row : List Int32) (v_column : List Int32) (v_below : List Int32) (v_face : List Int32) (v_worn : List Int32) (v_lastBend : List Int32) (v_tape : List Int32) (v_text : List Int32) (v_names : List Int32) (v_bends : List Int32) (v_high : List Int32) (v_to : List Int32) (v_pileSize : List Int32) (v_planLine : List Int32) (v_planWay : List Int32) (H : Heap) (locs : List Loc) (ls : Array Slot), k_17 x1 x2 x3 v_rowsOf v_columnsOf v_textMany v_base v_at v_ends v_fault v_opened v_bentMany v_bentWrong v_moreWorn v_planned v_allWrong v_allWorn v_z v_limit v_shapeRows v_shapeColumns v_row v_column v_below v_face v_worn v_lastBend v_tape v_text v_names v_bends v_high v_to v_pileSize v_planLine v_planWay = some (r, w_base, w_at, w_ends, w_fault, w_opened, w_bentMany, w_bentWrong, w_moreWorn, w_allWrong, w_allWorn, w_z, w_shapeRows, w_shapeColumns, w_row, w_column, w_below, w_face, w_worn, w_lastBend, w_names, w_bends, w_high, w_to, w_pileSize) → va_P D mm_cl (wd_X9 cI cL cS cH a v_keptMany v_done v_rowsOf v_columnsOf v_folded v_wronged v_tapeMany v_textMany v_base v_at v_ends v_fault v_opened v_bentMany v_bentWrong v_moreWorn v_planned v_allWrong v_allWorn v_z v_wishedField v_isFound v_bestWrong v_bestWorn v_bestMany v_soughtBy v_sought v_soughtAt v_foundMany v_foundOrder v_isKept v_imageRows v_imageColumns v_imageFolded v_imageWronged v_bodies v_ran v_ownKind v_ownNumber v_limit v_changeWas v_changeIs v_shapeRows v_shapeColumns v_row v_column v_below v_face v_worn v_lastBend v_tape v_text v_names v_bends v_high v_to v_pileSize v_planLine v_planWay v_way1 v_bestWay v_order1 v_placeIn v_bodyKind v_trace v_shelf v_many v_items v_carried) H → va_D A (wd_X9 cI cL cS cH a v_keptMany v_done v_rowsOf v_columnsOf v_folded v_wronged v_tapeMany v_textMany v_base v_at v_ends v_fault v_opened v_bentMany v_bentWrong v_moreWorn v_planned v_allWrong v_allWorn v_z v_wishedField v_isFound v_bestWrong v_bestWorn v_bestMany v_soughtBy v_sought v_soughtAt v_foundMany v_foundOrder v_isKept v_imageRows v_imageColumns v_imageFolded v_imageWronged v_bodies v_ran v_ownKind v_ownNumber v_limit v_changeWas v_changeIs v_shapeRows v_shapeColumns v_row v_column v_below v_face v_worn v_lastBend v_tape v_text v_names v_bends v_high v_to v_pileSize v_planLine v_planWay v_way1 v_bestWay v_order1 v_placeIn v_bodyKind v_trace v_shelf v_many v_items v_carried) → va_S A s.heap H locs → lv_has ls 5 [(0, .ref (a 0)), (1, .int x1), (2, .int x2), (3, .int x3)] → W p l e (mm_rr d) s m args below meth c H locs 0 0 (mm_Z below D A (wd_X9 cI cL cS cH a v_keptMany v_done v_rowsOf v_columnsOf v_folded v_wronged v_tapeMany v_textMany w_base w_at w_ends w_fault w_opened w_bentMany w_bentWrong w_moreWorn v_planned w_allWrong w_allWorn w_z v_wishedField v_isFound v_bestWrong v_bestWorn v_bestMany v_soughtBy v_sought v_soughtAt v_foundMany v_foundOrder v_isKept v_imageRows v_imageColumns v_imageFolded v_imageWronged v_bodies v_ran v_ownKind v_ownNumber v_limit v_changeWas v_changeIs w_shapeRows w_shapeColumns w_row w_column w_below w_face w_worn w_lastBend v_tape v_text w_names w_bends w_high w_to w_pileSize v_planLine v_planWay v_way1 v_bestWay v_order1 v_placeIn v_bodyKind v_trace v_shelf v_many v_items v_carried) (some (.int r)) args s) (F0 m 17 ls [])) : ∀ (x1 : Int32) (x2 : Int32) (x3 : Int32) (s0 : Int32) (v_rowsOf : Int32) (v_columnsOf : Int32) (v_textMany : Int32) (v_base : Int32) (v_at : Int32) (v_ends : Int32) (v_fault : Int32) (v_opened : Int32) (v_bentMany : Int32) (v_bentWrong : Int32) (v_moreWorn : Int32) (v_planned : Int32) (v_allWrong : Int32) (v_allWorn : Int32) (v_z : Int32) (v_limit : List Int32) (v_shapeRows : List Int32) (v_shapeColumns : List Int32) (v_row : List Int32) (v_column : List Int32) (v_below : List Int32) (v_face : List Int32) (v_worn : List Int32) (v_lastBend : List Int32) (v_tape : List Int32) (v_text : List Int32) (v_names : List Int32) (v_bends : List Int32) (v_high : List Int32) (v_to : List Int32) (v_pileSize : List Int32) (v_planLine : List Int32) (v_planWay : List Int32) (H : Heap) (locs : List Loc) (ls : Array Slot), fX9_goesPlan_101 N k_17 x1 x2 x3 s0 v_rowsOf v_columnsOf v_textMany v_base v_at v_ends v_fault v_opened v_bentMany v_bentWrong v_moreWorn v_planned v_allWrong v_allWorn v_z v_limit v_shapeRows v_shapeColumns v_row v_column v_below v_face v_worn v_lastBend v_tape v_text v_names v_bends v_high v_to v_pileSize v_planLine v_planWay = some (r, w_base, w_at, w_ends, w_fault, w_opened, w_bentMany, w_bentWrong, w_moreWorn, w_allWrong, w_allWorn, w_z, w_shapeRows, w_shapeColumns, w_row, w_column, w_below, w_face, w_worn, w_lastBend, w_names, w_bends, w_high, w_to, w_pileSize) → va_P D mm_cl (wd_X9 cI cL cS cH a v_keptMany v_done v_rowsOf v_columnsOf v_folded v_wronged v_tapeMany v_textMany v_base v_at v_ends v_fault v_opened v_bentMany v_bentWrong v_moreWorn v_planned v_allWrong v_allWorn v_z v_wishedField v_isFound v_bestWrong v_bestWorn v_bestMany v_soughtBy v_sought v_soughtAt v_foundMany v_foundOrder v_isKept v_imageRows v_imageColumns v_imageFolded v_imageWronged v_bodies v_ran v_ownKind v_ownNumber v_limit v_changeWas v_changeIs v_shapeRows v_shapeColumns v_row v_column v_below v_face v_worn v_lastBend v_tape v_text v_names v_bends v_high v_to v_pileSize v_planLine v_planWay v_way1 v_bestWay v_order1 v_placeIn v_bodyKind v_trace v_shelf v_many v_items v_carried) H → va_D A (wd_X9 cI cL cS cH a v_keptMany v_done v_rowsOf v_columnsOf v_folded v_wronged v_tapeMany v_textMany v_base v_at v_ends v_fault v_opened v_bentMany v_bentWrong v_moreWorn v_planned v_allWrong v_allWorn v_z v_wishedField v_isFound v_bestWrong v_bestWorn v_bestMany v_soughtBy v_sought v_soughtAt v_foundMany v_foundOrder v_isKept v_imageRows v_imageColumns v_imageFolded v_imageWronged v_bodies v_ran v_ownKind v_ownNumber v_limit v_changeWas v_changeIs v_shapeRows v_shapeColumns v_row v_column v_below v_face v_worn v_lastBend v_tape v_text v_names v_bends v_high v_to v_pileSize v_planLine v_planWay v_way1 v_bestWay v_order1 v_placeIn v_bodyKind v_trace v_shelf v_many v_items v_carried) → va_S A s.heap H locs → lv_has ls 5 [(0, .ref (a 0)), (1, .int x1), (2, .int x2), (3, .int x3)] → W p l e (mm_rr d) s m args below meth c H locs 0 0 (mm_Z below D A (wd_X9 cI cL cS cH a v_keptMany v_done v_rowsOf v_columnsOf v_folded v_wronged v_tapeMany v_textMany w_base w_at w_ends w_fault w_opened w_bentMany w_bentWrong w_moreWorn v_planned w_allWrong w_allWorn w_z v_wishedField v_isFound v_bestWrong v_bestWorn v_bestMany v_soughtBy v_sought v_soughtAt v_foundMany v_foundOrder v_isKept v_imageRows v_imageColumns v_imageFolded v_imageWronged v_bodies v_ran v_ownKind v_ownNumber v_limit v_changeWas v_changeIs w_shapeRows w_shapeColumns w_row w_column w_below w_face w_worn w_lastBend v_tape v_text w_names w_bends w_high w_to w_pileSize v_planLine v_planWay v_way1 v_bestWay v_order1 v_placeIn v_bodyKind v_trace v_shelf v_many v_items v_carried) (some (.int r)) args s) (F0 m 101 ls [.int s0]) := by
  obtain ⟨hx, hb, hml, hown, hts, hr, hlocks, hK, hSt⟩ := id C0
  intro x1 x2 x3 s0 v_rowsOf v_columnsOf v_textMany v_base v_at v_ends v_fault v_opened v_bentMany v_bentWrong v_moreWorn v_planned v_allWrong v_allWorn v_z v_limit v_shapeRows v_shapeColumns v_row v_column v_below v_face v_worn v_lastBend v_tape v_text v_names v_bends v_high v_to v_pileSize v_planLine v_planWay H locs ls hf hP hD hS hl
  unfold fX9_goesPlan_101 at hf
  refine lv_istore (lv' := [(4, .int s0), (0, .ref (a 0)), (1, .int x1), (2, .int x2), (3, .int x3)]) hx hb dX9_goesPlan_101 hl (by decide) rfl (fun ls hl => ?_)
  exact tX9_goesPlan_103 hd C0 hA N hk_17 _ _ _ _ _ _ _ _ _ _ _ _ _ _ _ _ _ _ _ _ _ _ _ _ _ _ _ _ _ _ _ _ _ _ _ _ _ H locs ls hf hP hD hS (lv_sub hl [1, 2, 3, 4, 0] rfl)

def fX9_goesPlan_17 (N : Nat)  : Nat → Int32 → Int32 → Int32 → Int32 → Int32 → Int32 → Int32 → Int32 → Int32 → Int32 → Int32 → Int32 → Int32 → Int32 → Int32 → Int32 → Int32 → Int32 → List Int32 → List Int32 → List Int32 → List Int32 → List Int32 → List Int32 → List Int32 → List Int32 → List Int32 → List Int32 → List Int32 → List Int32 → List Int32 → List Int32 → List Int32 → List Int32 → List Int32 → List Int32 → Option (Int32 × Int32 × Int32 × Int32 × Int32 × Int32 × Int32 × Int32 × Int32 × Int32 × Int32 × Int32 × List Int32 × List Int32 × List Int32 × List Int32 × List Int32 × List Int32 × List Int32 × List Int32 × List Int32 × List Int32 × List Int32 × List Int32 × List Int32)
  | 0 => fun _ _ _ _ _ _ _ _ _ _ _ _ _ _ _ _ _ _ _ _ _ _ _ _ _ _ _ _ _ _ _ _ _ _ _ _ => none
  | n + 1 => fun x1 x2 x3 v_rowsOf v_columnsOf v_textMany v_base v_at v_ends v_fault v_opened v_bentMany v_bentWrong v_moreWorn v_planned v_allWrong v_allWorn v_z v_limit v_shapeRows v_shapeColumns v_row v_column v_below v_face v_worn v_lastBend v_tape v_text v_names v_bends v_high v_to v_pileSize v_planLine v_planWay =>
    if v_planned ≤ x3 then
    (some (x3, v_base, v_at, v_ends, v_fault, v_opened, v_bentMany, v_bentWrong, v_moreWorn, v_allWrong, v_allWorn, v_z, v_shapeRows, v_shapeColumns, v_row, v_column, v_below, v_face, v_worn, v_lastBend, v_names, v_bends, v_high, v_to, v_pileSize))
    else (if x1 ≤ x3 then
    (some (x3, v_base, v_at, v_ends, v_fault, v_opened, v_bentMany, v_bentWrong, v_moreWorn, v_allWrong, v_allWorn, v_z, v_shapeRows, v_shapeColumns, v_row, v_column, v_below, v_face, v_worn, v_lastBend, v_names, v_bends, v_high, v_to, v_pileSize))
    else (mm_ck (mm_inb x3 v_planLine.length) (mm_ck (mm_inb x3 v_planWay.length) (mm_bd1 (fX9_isLine N (1 : Int32) (mm_ig v_planLine x3) (mm_ig v_planWay x3) v_shapeRows v_shapeColumns) (fun (r_14 : Bool) =>
    if r_14 = false then
    (some (x3, v_base, v_at, v_ends, v_fault, v_opened, v_bentMany, v_bentWrong, v_moreWorn, v_allWrong, v_allWorn, v_z, v_shapeRows, v_shapeColumns, v_row, v_column, v_below, v_face, v_worn, v_lastBend, v_names, v_bends, v_high, v_to, v_pileSize))
    else (mm_ck (mm_inb x3 v_planWay.length) (mm_nm ((mm_ig v_planWay x3)) (fun (y_18 : Int32) =>
    if x2 < 0 then
    (fX9_goesPlan_103 N (fX9_goesPlan_17 N n) x1 x2 x3 y_18 v_rowsOf v_columnsOf v_textMany v_base v_at v_ends v_fault v_opened v_bentMany v_bentWrong v_moreWorn v_planned v_allWrong v_allWorn v_z v_limit v_shapeRows v_shapeColumns v_row v_column v_below v_face v_worn v_lastBend v_tape v_text v_names v_bends v_high v_to v_pileSize v_planLine v_planWay)
    else (mm_nm (((v_z * (1103515245 : Int32)) + (12345 : Int32))) (fun (y_20 : Int32) =>
    mm_ck (mm_nz (100 : Int32)) (if x2 ≤ (mm_rem ((y_20.toUInt32 >>> ((8 : Int32).toUInt32 &&& Int32.toUInt32 31)).toInt32) (100 : Int32)) then
    (fX9_goesPlan_101 N (fX9_goesPlan_17 N n) x1 x2 x3 y_18 v_rowsOf v_columnsOf v_textMany v_base v_at v_ends v_fault v_opened v_bentMany v_bentWrong v_moreWorn v_planned v_allWrong v_allWorn y_20 v_limit v_shapeRows v_shapeColumns v_row v_column v_below v_face v_worn v_lastBend v_tape v_text v_names v_bends v_high v_to v_pileSize v_planLine v_planWay)
    else (fX9_goesPlan_101 N (fX9_goesPlan_17 N n) x1 x2 x3 (y_18 ^^^ (1 : Int32)) v_rowsOf v_columnsOf v_textMany v_base v_at v_ends v_fault v_opened v_bentMany v_bentWrong v_moreWorn v_planned v_allWrong v_allWorn y_20 v_limit v_shapeRows v_shapeColumns v_row v_column v_below v_face v_worn v_lastBend v_tape v_text v_names v_bends v_high v_to v_pileSize v_planLine v_planWay))))))))))))

set_option maxHeartbeats 4000000 in
set_option maxRecDepth 100000 in
theorem tX9_goesPlan_17 {p : Program} {l : Launch} {e : Env} {s : State} {m : MethodId} {args : Array Value} {below : List Frame} {meth : Method} {c : Code} {D : va_G} {cI cL cS cH : ClassId} {A : Nat → Prop} {d : Nat} {a : Nat → Nat} (hd : 60 ≤ d) (C0 : mm_Cx p s m args meth c RX9 cX9_goesPlan 5 (some .int) D (mm_T cI cL cS cH) A) (hA : ∀ q, s.heap.size ≤ q → A q) {v_keptMany : Int32} {v_done : Int32} {v_folded : Int32} {v_wronged : Int32} {v_tapeMany : Int32} {v_wishedField : Int32} {v_isFound : Bool} {v_bestWrong : Int32} {v_bestWorn : Int32} {v_bestMany : Int32} {v_soughtBy : Int32} {v_sought : Int32} {v_soughtAt : Int32} {v_foundMany : Int32} {v_foundOrder : Int32} {v_isKept : Bool} {v_imageRows : Int32} {v_imageColumns : Int32} {v_imageFolded : Int32} {v_imageWronged : Int32} {v_bodies : Int32} {v_ran : Int32} {v_ownKind : Int32} {v_ownNumber : Int32} {v_changeWas : List Int32} {v_changeIs : List Int32} {v_way1 : List Int32} {v_bestWay : List Int32} {v_order1 : List Int32} {v_placeIn : List Int32} {v_bodyKind : List Int32} {v_trace : List Int32} {v_shelf : List Int32} {v_many : List Int32} {v_items : List Int64} {v_carried : List Int64} {r : Int32} {w_base : Int32} {w_at : Int32} {w_ends : Int32} {w_fault : Int32} {w_opened : Int32} {w_bentMany : Int32} {w_bentWrong : Int32} {w_moreWorn : Int32} {w_allWrong : Int32} {w_allWorn : Int32} {w_z : Int32} {w_shapeRows : List Int32} {w_shapeColumns : List Int32} {w_row : List Int32} {w_column : List Int32} {w_below : List Int32} {w_face : List Int32} {w_worn : List Int32} {w_lastBend : List Int32} {w_names : List Int32} {w_bends : List Int32} {w_high : List Int32} {w_to : List Int32} {w_pileSize : List Int32} (N : Nat)  : ∀ (n : Nat), ∀ (x1 : Int32) (x2 : Int32) (x3 : Int32) (v_rowsOf : Int32) (v_columnsOf : Int32) (v_textMany : Int32) (v_base : Int32) (v_at : Int32) (v_ends : Int32) (v_fault : Int32) (v_opened : Int32) (v_bentMany : Int32) (v_bentWrong : Int32) (v_moreWorn : Int32) (v_planned : Int32) (v_allWrong : Int32) (v_allWorn : Int32) (v_z : Int32) (v_limit : List Int32) (v_shapeRows : List Int32) (v_shapeColumns : List Int32) (v_row : List Int32) (v_column : List Int32) (v_below : List Int32) (v_face : List Int32) (v_worn : List Int32) (v_lastBend : List Int32) (v_tape : List Int32) (v_text : List Int32) (v_names : List Int32) (v_bends : List Int32) (v_high : List Int32) (v_to : List Int32) (v_pileSize : List Int32) (v_planLine : List Int32) (v_planWay : List Int32) (H : Heap) (locs : List Loc) (ls : Array Slot), fX9_goesPlan_17 N n x1 x2 x3 v_rowsOf v_columnsOf v_textMany v_base v_at v_ends v_fault v_opened v_bentMany v_bentWrong v_moreWorn v_planned v_allWrong v_allWorn v_z v_limit v_shapeRows v_shapeColumns v_row v_column v_below v_face v_worn v_lastBend v_tape v_text v_names v_bends v_high v_to v_pileSize v_planLine v_planWay = some (r, w_base, w_at, w_ends, w_fault, w_opened, w_bentMany, w_bentWrong, w_moreWorn, w_allWrong, w_allWorn, w_z, w_shapeRows, w_shapeColumns, w_row, w_column, w_below, w_face, w_worn, w_lastBend, w_names, w_bends, w_high, w_to, w_pileSize) → va_P D mm_cl (wd_X9 cI cL cS cH a v_keptMany v_done v_rowsOf v_columnsOf v_folded v_wronged v_tapeMany v_textMany v_base v_at v_ends v_fault v_opened v_bentMany v_bentWrong v_moreWorn v_planned v_allWrong v_allWorn v_z v_wishedField v_isFound v_bestWrong v_bestWorn v_bestMany v_soughtBy v_sought v_soughtAt v_foundMany v_foundOrder v_isKept v_imageRows v_imageColumns v_imageFolded v_imageWronged v_bodies v_ran v_ownKind v_ownNumber v_limit v_changeWas v_changeIs v_shapeRows v_shapeColumns v_row v_column v_below v_face v_worn v_lastBend v_tape v_text v_names v_bends v_high v_to v_pileSize v_planLine v_planWay v_way1 v_bestWay v_order1 v_placeIn v_bodyKind v_trace v_shelf v_many v_items v_carried) H → va_D A (wd_X9 cI cL cS cH a v_keptMany v_done v_rowsOf v_columnsOf v_folded v_wronged v_tapeMany v_textMany v_base v_at v_ends v_fault v_opened v_bentMany v_bentWrong v_moreWorn v_planned v_allWrong v_allWorn v_z v_wishedField v_isFound v_bestWrong v_bestWorn v_bestMany v_soughtBy v_sought v_soughtAt v_foundMany v_foundOrder v_isKept v_imageRows v_imageColumns v_imageFolded v_imageWronged v_bodies v_ran v_ownKind v_ownNumber v_limit v_changeWas v_changeIs v_shapeRows v_shapeColumns v_row v_column v_below v_face v_worn v_lastBend v_tape v_text v_names v_bends v_high v_to v_pileSize v_planLine v_planWay v_way1 v_bestWay v_order1 v_placeIn v_bodyKind v_trace v_shelf v_many v_items v_carried) → va_S A s.heap H locs → lv_has ls 5 [(0, .ref (a 0)), (1, .int x1), (2, .int x2), (3, .int x3)] → W p l e (mm_rr d) s m args below meth c H locs 0 0 (mm_Z below D A (wd_X9 cI cL cS cH a v_keptMany v_done v_rowsOf v_columnsOf v_folded v_wronged v_tapeMany v_textMany w_base w_at w_ends w_fault w_opened w_bentMany w_bentWrong w_moreWorn v_planned w_allWrong w_allWorn w_z v_wishedField v_isFound v_bestWrong v_bestWorn v_bestMany v_soughtBy v_sought v_soughtAt v_foundMany v_foundOrder v_isKept v_imageRows v_imageColumns v_imageFolded v_imageWronged v_bodies v_ran v_ownKind v_ownNumber v_limit v_changeWas v_changeIs w_shapeRows w_shapeColumns w_row w_column w_below w_face w_worn w_lastBend v_tape v_text w_names w_bends w_high w_to w_pileSize v_planLine v_planWay v_way1 v_bestWay v_order1 v_placeIn v_bodyKind v_trace v_shelf v_many v_items v_carried) (some (.int r)) args s) (F0 m 17 ls []) := by
  obtain ⟨hx, hb, hml, hown, hts, hr, hlocks, hK, hSt⟩ := id C0
  intro n
  induction n with
  | zero =>
    intro x1 x2 x3 v_rowsOf v_columnsOf v_textMany v_base v_at v_ends v_fault v_opened v_bentMany v_bentWrong v_moreWorn v_planned v_allWrong v_allWorn v_z v_limit v_shapeRows v_shapeColumns v_row v_column v_below v_face v_worn v_lastBend v_tape v_text v_names v_bends v_high v_to v_pileSize v_planLine v_planWay H locs ls hf
    cases (show none = some _ from hf)
  | succ n ih =>
    intro x1 x2 x3 v_rowsOf v_columnsOf v_textMany v_base v_at v_ends v_fault v_opened v_bentMany v_bentWrong v_moreWorn v_planned v_allWrong v_allWorn v_z v_limit v_shapeRows v_shapeColumns v_row v_column v_below v_face v_worn v_lastBend v_tape v_text v_names v_bends v_high v_to v_pileSize v_planLine v_planWay H locs ls hf hP hD hS hl
    unfold fX9_goesPlan_17 at hf
    refine lv_iload_n hx hb dX9_goesPlan_17 rfl (lv_at hl 3 rfl) ?_
    refine lv_aload_n hx hb dX9_goesPlan_18 rfl (lv_at hl 0 rfl) ?_
    refine mm_get C0 hP iw_X9 0 rfl rfl 36 (by decide) fl_X9_271 rfl dX9_goesPlan_19 ?_
    refine lv_icmp_ge (tgt := 148) hx hb dX9_goesPlan_22 (by decide) (fun c_10 => ?_) (fun c_10 => ?_)
    · have hf := mm_ip hf c_10
      refine lv_iload_n hx hb dX9_goesPlan_148 rfl (lv_at hl 3 rfl) ?_
      apply mm_sub25 hf
      exact mm_iret C0 hP hD hS dX9_goesPlan_149
    · have hf := mm_in hf c_10
      refine lv_iload_n hx hb dX9_goesPlan_25 rfl (lv_at hl 3 rfl) ?_
      refine lv_iload_n hx hb dX9_goesPlan_26 rfl (lv_at hl 1 rfl) ?_
      refine lv_icmp_ge (tgt := 148) hx hb dX9_goesPlan_27 (by decide) (fun c_11 => ?_) (fun c_11 => ?_)
      · have hf := mm_ip hf c_11
        refine lv_iload_n hx hb dX9_goesPlan_148 rfl (lv_at hl 3 rfl) ?_
        apply mm_sub25 hf
        exact mm_iret C0 hP hD hS dX9_goesPlan_149
      · have hf := mm_in hf c_11
        refine lv_aload_n hx hb dX9_goesPlan_30 rfl (lv_at hl 0 rfl) ?_
        refine lv_iconst (v := 1) hx hb dX9_goesPlan_31 (by decide) ?_
        refine lv_aload_n hx hb dX9_goesPlan_32 rfl (lv_at hl 0 rfl) ?_
        refine mm_get C0 hP iw_X9 0 rfl rfl 34 (by decide) fl_X9_64 rfl dX9_goesPlan_33 ?_
        refine lv_iload_n hx hb dX9_goesPlan_36 rfl (lv_at hl 3 rfl) ?_
        obtain ⟨h_12, hf⟩ := mm_cks hf
        refine mm_iald C0 hP 19 rfl h_12 dX9_goesPlan_37 ?_
        refine lv_aload_n hx hb dX9_goesPlan_38 rfl (lv_at hl 0 rfl) ?_
        refine mm_get C0 hP iw_X9 0 rfl rfl 35 (by decide) fl_X9_67 rfl dX9_goesPlan_39 ?_
        refine lv_iload_n hx hb dX9_goesPlan_42 rfl (lv_at hl 3 rfl) ?_
        obtain ⟨h_13, hf⟩ := mm_cks hf
        refine mm_iald C0 hP 20 rfl h_13 dX9_goesPlan_43 ?_
        obtain ⟨r_14, hc_15, hf⟩ := mm_bd1s hf
        refine mm_callVF (q0 := 0) (ci := 9) (rest := []) C0 lk_X9_240 (ctX9_isLine (a := a) (d := d - 1) (by omega) hc_15) (by omega) rfl hl.1 rfl (mm_cat rfl) dX9_goesPlan_44 hP hD hA hS rfl rfl (fun H locs hP hD hS => ?_)
        refine W.eq (g2 := F0 m 47 ls [.int (mm_b r_14)]) rfl ?_
        refine lv_if_eq (tgt := 148) hx hb dX9_goesPlan_47 (by decide) (fun c_16 => ?_) (fun c_16 => ?_)
        · have hf := mm_ip hf (mm_b0 c_16)
          refine lv_iload_n hx hb dX9_goesPlan_148 rfl (lv_at hl 3 rfl) ?_
          apply mm_sub25 hf
          exact mm_iret C0 hP hD hS dX9_goesPlan_149
        · have hf := mm_in hf (mm_b1 c_16)
          refine lv_aload_n hx hb dX9_goesPlan_50 rfl (lv_at hl 0 rfl) ?_
          refine mm_get C0 hP iw_X9 0 rfl rfl 35 (by decide) fl_X9_67 rfl dX9_goesPlan_51 ?_
          refine lv_iload_n hx hb dX9_goesPlan_54 rfl (lv_at hl 3 rfl) ?_
          obtain ⟨h_17, hf⟩ := mm_cks hf
          refine mm_iald C0 hP 20 rfl h_17 dX9_goesPlan_55 ?_
          refine lv_topi (fun y_18 ey_18 => ?_)
          have hf := mm_nms hf ey_18
          refine lv_istore (lv' := [(4, .int y_18), (0, .ref (a 0)), (1, .int x1), (2, .int x2), (3, .int x3)]) hx hb dX9_goesPlan_56 hl (by decide) rfl (fun ls hl => ?_)
          refine lv_iload_n hx hb dX9_goesPlan_58 rfl (lv_at hl 3 rfl) ?_
          refine lv_if_lt (tgt := 103) hx hb dX9_goesPlan_59 (by decide) (fun c_19 => ?_) (fun c_19 => ?_)
          · have hf := mm_ip hf c_19
            exact tX9_goesPlan_103 hd C0 hA N ih _ _ _ _ _ _ _ _ _ _ _ _ _ _ _ _ _ _ _ _ _ _ _ _ _ _ _ _ _ _ _ _ _ _ _ _ _ H locs ls hf hP hD hS (lv_sub hl [1, 2, 3, 4, 0] rfl)
          · have hf := mm_in hf c_19
            refine lv_aload_n hx hb dX9_goesPlan_62 rfl (lv_at hl 1 rfl) ?_
            refine lv_aload_n hx hb dX9_goesPlan_63 rfl (lv_at hl 1 rfl) ?_
            refine mm_get C0 hP iw_X9 0 rfl rfl 39 (by decide) fl_X9_288 rfl dX9_goesPlan_64 ?_
            refine lv_ldcw hx hb hown (hts _ kc_X9_291) dX9_goesPlan_67 ?_
            refine lv_imul hx hb dX9_goesPlan_70 ?_
            refine lv_sipush (v := 12345) hx hb dX9_goesPlan_71 (by decide) ?_
            refine lv_iadd hx hb dX9_goesPlan_74 ?_
            refine lv_topi (fun y_20 ey_20 => ?_)
            have hf := mm_nms hf ey_20
            refine mm_put C0 hP hD hS iw_X9 tyX9 tyX9_ok nmX9 0 rfl rfl 39 (by decide) fl_X9_288 rfl rfl rfl (Nat.le_of_ble_eq_true rfl) dX9_goesPlan_75 (w2 := (wd_X9 cI cL cS cH a v_keptMany v_done v_rowsOf v_columnsOf v_folded v_wronged v_tapeMany v_textMany v_base v_at v_ends v_fault v_opened v_bentMany v_bentWrong v_moreWorn v_planned v_allWrong v_allWorn y_20 v_wishedField v_isFound v_bestWrong v_bestWorn v_bestMany v_soughtBy v_sought v_soughtAt v_foundMany v_foundOrder v_isKept v_imageRows v_imageColumns v_imageFolded v_imageWronged v_bodies v_ran v_ownKind v_ownNumber v_limit v_changeWas v_changeIs v_shapeRows v_shapeColumns v_row v_column v_below v_face v_worn v_lastBend v_tape v_text v_names v_bends v_high v_to v_pileSize v_planLine v_planWay v_way1 v_bestWay v_order1 v_placeIn v_bodyKind v_trace v_shelf v_many v_items v_carried)) rfl (fun H locs hP hD hS => ?_)
            refine lv_aload_n hx hb dX9_goesPlan_78 rfl (lv_at hl 1 rfl) ?_
            refine mm_get C0 hP iw_X9 0 rfl rfl 39 (by decide) fl_X9_288 rfl dX9_goesPlan_79 ?_
            refine lv_bipush (v := 8) hx hb dX9_goesPlan_82 (by decide) ?_
            refine lv_iushr hx hb dX9_goesPlan_84 rfl ?_
            refine lv_bipush (v := 100) hx hb dX9_goesPlan_85 (by decide) ?_
            obtain ⟨h_21, hf⟩ := mm_cks hf
            refine lv_irem hx hb dX9_goesPlan_87 (mm_nzs h_21) ?_
            refine lv_iload_n hx hb dX9_goesPlan_88 rfl (lv_at hl 3 rfl) ?_
            refine lv_icmp_ge (tgt := 99) hx hb dX9_goesPlan_89 (by decide) (fun c_22 => ?_) (fun c_22 => ?_)
            · have hf := mm_ip hf c_22
              refine lv_iload hx hb dX9_goesPlan_99 (lv_at hl 0 rfl) ?_
              exact tX9_goesPlan_101 hd C0 hA N ih _ _ _ _ _ _ _ _ _ _ _ _ _ _ _ _ _ _ _ _ _ _ _ _ _ _ _ _ _ _ _ _ _ _ _ _ _ H locs ls hf hP hD hS (lv_sub hl [1, 2, 3, 4] rfl)
            · have hf := mm_in hf c_22
              refine lv_iload hx hb dX9_goesPlan_92 (lv_at hl 0 rfl) ?_
              refine lv_iconst (v := 1) hx hb dX9_goesPlan_94 (by decide) ?_
              refine lv_ixor hx hb dX9_goesPlan_95 ?_
              refine lv_goto (tgt := 101) hx hb dX9_goesPlan_96 (by decide) ?_
              exact tX9_goesPlan_101 hd C0 hA N ih _ _ _ _ _ _ _ _ _ _ _ _ _ _ _ _ _ _ _ _ _ _ _ _ _ _ _ _ _ _ _ _ _ _ _ _ _ H locs ls hf hP hD hS (lv_sub hl [1, 2, 3, 4] rfl)

def fX9_goesPlan (N : Nat) (x1 : Int32) (x2 : Int32) (v_rowsOf : Int32) (v_columnsOf : Int32) (v_textMany : Int32) (v_base : Int32) (v_at : Int32) (v_ends : Int32) (v_fault : Int32) (v_opened : Int32) (v_bentMany : Int32) (v_bentWrong : Int32) (v_moreWorn : Int32) (v_planned : Int32) (v_allWrong : Int32) (v_allWorn : Int32) (v_z : Int32) (v_limit : List Int32) (v_shapeRows : List Int32) (v_shapeColumns : List Int32) (v_row : List Int32) (v_column : List Int32) (v_below : List Int32) (v_face : List Int32) (v_worn : List Int32) (v_lastBend : List Int32) (v_tape : List Int32) (v_text : List Int32) (v_names : List Int32) (v_bends : List Int32) (v_high : List Int32) (v_to : List Int32) (v_pileSize : List Int32) (v_planLine : List Int32) (v_planWay : List Int32) : Option (Int32 × Int32 × Int32 × Int32 × Int32 × Int32 × Int32 × Int32 × Int32 × Int32 × Int32 × Int32 × List Int32 × List Int32 × List Int32 × List Int32 × List Int32 × List Int32 × List Int32 × List Int32 × List Int32 × List Int32 × List Int32 × List Int32 × List Int32) :=
    mm_bd8 (fX9_startsAt N (1 : Int32) v_rowsOf v_columnsOf v_shapeRows v_shapeColumns v_row v_column v_below v_face v_worn v_lastBend) (fun (w_1 : List Int32) (w_2 : List Int32) (w_3 : List Int32) (w_4 : List Int32) (w_5 : List Int32) (w_6 : List Int32) (w_7 : List Int32) (w_8 : List Int32) =>
    fX9_goesPlan_17 N N x1 x2 (0 : Int32) v_rowsOf v_columnsOf v_textMany v_base v_at v_ends v_fault v_opened v_bentMany v_bentWrong v_moreWorn v_planned (0 : Int32) (0 : Int32) v_z v_limit w_1 w_2 w_3 w_4 w_5 w_6 w_7 w_8 v_tape v_text v_names v_bends v_high v_to v_pileSize v_planLine v_planWay)

set_option maxHeartbeats 4000000 in
set_option maxRecDepth 100000 in
theorem ctX9_goesPlan {l : Launch} {D : va_G} {cI cL cS cH : ClassId} {a : Nat → Nat} {x1 : Int32} {x2 : Int32} {v_keptMany : Int32} {v_done : Int32} {v_rowsOf : Int32} {v_columnsOf : Int32} {v_folded : Int32} {v_wronged : Int32} {v_tapeMany : Int32} {v_textMany : Int32} {v_base : Int32} {v_at : Int32} {v_ends : Int32} {v_fault : Int32} {v_opened : Int32} {v_bentMany : Int32} {v_bentWrong : Int32} {v_moreWorn : Int32} {v_planned : Int32} {v_allWrong : Int32} {v_allWorn : Int32} {v_z : Int32} {v_wishedField : Int32} {v_isFound : Bool} {v_bestWrong : Int32} {v_bestWorn : Int32} {v_bestMany : Int32} {v_soughtBy : Int32} {v_sought : Int32} {v_soughtAt : Int32} {v_foundMany : Int32} {v_foundOrder : Int32} {v_isKept : Bool} {v_imageRows : Int32} {v_imageColumns : Int32} {v_imageFolded : Int32} {v_imageWronged : Int32} {v_bodies : Int32} {v_ran : Int32} {v_ownKind : Int32} {v_ownNumber : Int32} {v_limit : List Int32} {v_changeWas : List Int32} {v_changeIs : List Int32} {v_shapeRows : List Int32} {v_shapeColumns : List Int32} {v_row : List Int32} {v_column : List Int32} {v_below : List Int32} {v_face : List Int32} {v_worn : List Int32} {v_lastBend : List Int32} {v_tape : List Int32} {v_text : List Int32} {v_names : List Int32} {v_bends : List Int32} {v_high : List Int32} {v_to : List Int32} {v_pileSize : List Int32} {v_planLine : List Int32} {v_planWay : List Int32} {v_way1 : List Int32} {v_bestWay : List Int32} {v_order1 : List Int32} {v_placeIn : List Int32} {v_bodyKind : List Int32} {v_trace : List Int32} {v_shelf : List Int32} {v_many : List Int32} {v_items : List Int64} {v_carried : List Int64} {r : Int32} {w_base : Int32} {w_at : Int32} {w_ends : Int32} {w_fault : Int32} {w_opened : Int32} {w_bentMany : Int32} {w_bentWrong : Int32} {w_moreWorn : Int32} {w_allWrong : Int32} {w_allWorn : Int32} {w_z : Int32} {w_shapeRows : List Int32} {w_shapeColumns : List Int32} {w_row : List Int32} {w_column : List Int32} {w_below : List Int32} {w_face : List Int32} {w_worn : List Int32} {w_lastBend : List Int32} {w_names : List Int32} {w_bends : List Int32} {w_high : List Int32} {w_to : List Int32} {w_pileSize : List Int32} {N d : Nat} (hd : 60 ≤ d) (hf : fX9_goesPlan N x1 x2 v_rowsOf v_columnsOf v_textMany v_base v_at v_ends v_fault v_opened v_bentMany v_bentWrong v_moreWorn v_planned v_allWrong v_allWorn v_z v_limit v_shapeRows v_shapeColumns v_row v_column v_below v_face v_worn v_lastBend v_tape v_text v_names v_bends v_high v_to v_pileSize v_planLine v_planWay = some (r, w_base, w_at, w_ends, w_fault, w_opened, w_bentMany, w_bentWrong, w_moreWorn, w_allWrong, w_allWorn, w_z, w_shapeRows, w_shapeColumns, w_row, w_column, w_below, w_face, w_worn, w_lastBend, w_names, w_bends, w_high, w_to, w_pileSize)) : mm_Ct l yX9_goesPlan cX9_goesPlan 5 (some .int) d D (mm_T cI cL cS cH) [.ref (a 0), .int x1, .int x2] (wd_X9 cI cL cS cH a v_keptMany v_done v_rowsOf v_columnsOf v_folded v_wronged v_tapeMany v_textMany v_base v_at v_ends v_fault v_opened v_bentMany v_bentWrong v_moreWorn v_planned v_allWrong v_allWorn v_z v_wishedField v_isFound v_bestWrong v_bestWorn v_bestMany v_soughtBy v_sought v_soughtAt v_foundMany v_foundOrder v_isKept v_imageRows v_imageColumns v_imageFolded v_imageWronged v_bodies v_ran v_ownKind v_ownNumber v_limit v_changeWas v_changeIs v_shapeRows v_shapeColumns v_row v_column v_below v_face v_worn v_lastBend v_tape v_text v_names v_bends v_high v_to v_pileSize v_planLine v_planWay v_way1 v_bestWay v_order1 v_placeIn v_bodyKind v_trace v_shelf v_many v_items v_carried) (wd_X9 cI cL cS cH a v_keptMany v_done v_rowsOf v_columnsOf v_folded v_wronged v_tapeMany v_textMany w_base w_at w_ends w_fault w_opened w_bentMany w_bentWrong w_moreWorn v_planned w_allWrong w_allWorn w_z v_wishedField v_isFound v_bestWrong v_bestWorn v_bestMany v_soughtBy v_sought v_soughtAt v_foundMany v_foundOrder v_isKept v_imageRows v_imageColumns v_imageFolded v_imageWronged v_bodies v_ran v_ownKind v_ownNumber v_limit v_changeWas v_changeIs w_shapeRows w_shapeColumns w_row w_column w_below w_face w_worn w_lastBend v_tape v_text w_names w_bends w_high w_to w_pileSize v_planLine v_planWay v_way1 v_bestWay v_order1 v_placeIn v_bodyKind v_trace v_shelf v_many v_items v_carried) (some (.int r)) := by
  refine mm_of (by decide) (Nat.le_of_ble_eq_true rfl) ?_
  intro p e s m args below meth c A H locs ls C0 hP hD hA hS hl
  have C0 : mm_Cx p s m args meth c RX9 cX9_goesPlan 5 (some .int) D (mm_T cI cL cS cH) A := C0
  obtain ⟨hx, hb, hml, hown, hts, hr, hlocks, hK, hSt⟩ := id C0
  have hl : lv_has ls 5 [(0, .ref (a 0)), (1, .int x1), (2, .int x2)] := hl
  unfold fX9_goesPlan at hf
  refine lv_aload_n hx hb dX9_goesPlan_0 rfl (lv_at hl 0 rfl) ?_
  refine lv_iconst (v := 1) hx hb dX9_goesPlan_1 (by decide) ?_
  refine mm_ct8 hf (fun w_1 w_2 w_3 w_4 w_5 w_6 w_7 w_8 hc_9 hf => ?_)
  refine mm_callVF (q0 := 0) (ci := 9) (rest := []) C0 lk_X9_279 (ctX9_startsAt (a := a) (d := d - 1) (by omega) hc_9) (by omega) rfl hl.1 rfl (mm_cat rfl) dX9_goesPlan_2 hP hD hA hS rfl rfl (fun H locs hP hD hS => ?_)
  refine W.eq (g2 := F0 m 5 ls []) rfl ?_
  refine lv_aload_n hx hb dX9_goesPlan_5 rfl (lv_at hl 0 rfl) ?_
  refine lv_iconst (v := 0) hx hb dX9_goesPlan_6 (by decide) ?_
  refine mm_put C0 hP hD hS iw_X9 tyX9 tyX9_ok nmX9 0 rfl rfl 37 (by decide) fl_X9_282 rfl rfl rfl (Nat.le_of_ble_eq_true rfl) dX9_goesPlan_7 (w2 := (wd_X9 cI cL cS cH a v_keptMany v_done v_rowsOf v_columnsOf v_folded v_wronged v_tapeMany v_textMany v_base v_at v_ends v_fault v_opened v_bentMany v_bentWrong v_moreWorn v_planned (0 : Int32) v_allWorn v_z v_wishedField v_isFound v_bestWrong v_bestWorn v_bestMany v_soughtBy v_sought v_soughtAt v_foundMany v_foundOrder v_isKept v_imageRows v_imageColumns v_imageFolded v_imageWronged v_bodies v_ran v_ownKind v_ownNumber v_limit v_changeWas v_changeIs w_1 w_2 w_3 w_4 w_5 w_6 w_7 w_8 v_tape v_text v_names v_bends v_high v_to v_pileSize v_planLine v_planWay v_way1 v_bestWay v_order1 v_placeIn v_bodyKind v_trace v_shelf v_many v_items v_carried)) rfl (fun H locs hP hD hS => ?_)
  refine lv_aload_n hx hb dX9_goesPlan_10 rfl (lv_at hl 0 rfl) ?_
  refine lv_iconst (v := 0) hx hb dX9_goesPlan_11 (by decide) ?_
  refine mm_put C0 hP hD hS iw_X9 tyX9 tyX9_ok nmX9 0 rfl rfl 38 (by decide) fl_X9_285 rfl rfl rfl (Nat.le_of_ble_eq_true rfl) dX9_goesPlan_12 (w2 := (wd_X9 cI cL cS cH a v_keptMany v_done v_rowsOf v_columnsOf v_folded v_wronged v_tapeMany v_textMany v_base v_at v_ends v_fault v_opened v_bentMany v_bentWrong v_moreWorn v_planned (0 : Int32) (0 : Int32) v_z v_wishedField v_isFound v_bestWrong v_bestWorn v_bestMany v_soughtBy v_sought v_soughtAt v_foundMany v_foundOrder v_isKept v_imageRows v_imageColumns v_imageFolded v_imageWronged v_bodies v_ran v_ownKind v_ownNumber v_limit v_changeWas v_changeIs w_1 w_2 w_3 w_4 w_5 w_6 w_7 w_8 v_tape v_text v_names v_bends v_high v_to v_pileSize v_planLine v_planWay v_way1 v_bestWay v_order1 v_placeIn v_bodyKind v_trace v_shelf v_many v_items v_carried)) rfl (fun H locs hP hD hS => ?_)
  refine lv_iconst (v := 0) hx hb dX9_goesPlan_15 (by decide) ?_
  refine lv_istore_n (lv' := [(3, .int (0 : Int32)), (0, .ref (a 0)), (1, .int x1), (2, .int x2)]) hx hb dX9_goesPlan_16 rfl hl (by decide) rfl (fun ls hl => ?_)
  exact tX9_goesPlan_17 hd C0 hA N  N _ _ _ _ _ _ _ _ _ _ _ _ _ _ _ _ _ _ _ _ _ _ _ _ _ _ _ _ _ _ _ _ _ _ _ _ H locs ls hf hP hD hS (lv_sub hl [1, 2, 3, 0] rfl)

theorem dX9_cost_0 : decode cX9_cost 0 = .ok (.iload_n 1, 1) := by decide +kernel
theorem dX9_cost_1 : decode cX9_cost 1 = .ok (.i2l, 1) := by decide +kernel
theorem dX9_cost_2 : decode cX9_cost 2 = .ok (.lconst 0, 1) := by decide +kernel
theorem dX9_cost_3 : decode cX9_cost 3 = .ok (.ldc2_w 252, 3) := by decide +kernel
theorem dX9_cost_6 : decode cX9_cost 6 = .ok (.invokestatic 111, 3) := by decide +kernel
theorem dX9_cost_9 : decode cX9_cost 9 = .ok (.ifCond .ne 5, 3) := by decide +kernel
theorem dX9_cost_12 : decode cX9_cost 12 = .ok (.iconst (-1), 1) := by decide +kernel
theorem dX9_cost_13 : decode cX9_cost 13 = .ok (.ireturn, 1) := by decide +kernel
theorem dX9_cost_14 : decode cX9_cost 14 = .ok (.aload_n 0, 1) := by decide +kernel
theorem dX9_cost_15 : decode cX9_cost 15 = .ok (.bipush 12, 2) := by decide +kernel
theorem dX9_cost_17 : decode cX9_cost 17 = .ok (.iconst (-1), 1) := by decide +kernel
theorem dX9_cost_18 : decode cX9_cost 18 = .ok (.invokevirtual 292, 3) := by decide +kernel
theorem dX9_cost_21 : decode cX9_cost 21 = .ok (.istore_n 2, 1) := by decide +kernel
theorem dX9_cost_22 : decode cX9_cost 22 = .ok (.iload_n 1, 1) := by decide +kernel
theorem dX9_cost_23 : decode cX9_cost 23 = .ok (.ifCond .ne 7, 3) := by decide +kernel
theorem dX9_cost_26 : decode cX9_cost 26 = .ok (.iload_n 2, 1) := by decide +kernel
theorem dX9_cost_27 : decode cX9_cost 27 = .ok (.goto 38, 3) := by decide +kernel
theorem dX9_cost_30 : decode cX9_cost 30 = .ok (.iload_n 1, 1) := by decide +kernel
theorem dX9_cost_31 : decode cX9_cost 31 = .ok (.iconst 1, 1) := by decide +kernel
theorem dX9_cost_32 : decode cX9_cost 32 = .ok (.if_icmp .ne 10, 3) := by decide +kernel
theorem dX9_cost_35 : decode cX9_cost 35 = .ok (.aload_n 0, 1) := by decide +kernel
theorem dX9_cost_36 : decode cX9_cost 36 = .ok (.getfield 285, 3) := by decide +kernel
theorem dX9_cost_39 : decode cX9_cost 39 = .ok (.goto 26, 3) := by decide +kernel
theorem dX9_cost_42 : decode cX9_cost 42 = .ok (.iload_n 1, 1) := by decide +kernel
theorem dX9_cost_43 : decode cX9_cost 43 = .ok (.iconst 2, 1) := by decide +kernel
theorem dX9_cost_44 : decode cX9_cost 44 = .ok (.if_icmp .ne 10, 3) := by decide +kernel
theorem dX9_cost_47 : decode cX9_cost 47 = .ok (.aload_n 0, 1) := by decide +kernel
theorem dX9_cost_48 : decode cX9_cost 48 = .ok (.getfield 282, 3) := by decide +kernel
theorem dX9_cost_51 : decode cX9_cost 51 = .ok (.goto 14, 3) := by decide +kernel
theorem dX9_cost_54 : decode cX9_cost 54 = .ok (.aload_n 0, 1) := by decide +kernel
theorem dX9_cost_55 : decode cX9_cost 55 = .ok (.iconst 1, 1) := by decide +kernel
theorem dX9_cost_56 : decode cX9_cost 56 = .ok (.invokevirtual 268, 3) := by decide +kernel
theorem dX9_cost_59 : decode cX9_cost 59 = .ok (.aload_n 0, 1) := by decide +kernel
theorem dX9_cost_60 : decode cX9_cost 60 = .ok (.iconst 0, 1) := by decide +kernel
theorem dX9_cost_61 : decode cX9_cost 61 = .ok (.invokevirtual 268, 3) := by decide +kernel
theorem dX9_cost_64 : decode cX9_cost 64 = .ok (.isub, 1) := by decide +kernel
theorem dX9_cost_65 : decode cX9_cost 65 = .ok (.ireturn, 1) := by decide +kernel
def fX9_cost (N : Nat) (x1 : Int32) (v_rowsOf : Int32) (v_columnsOf : Int32) (v_textMany : Int32) (v_base : Int32) (v_at : Int32) (v_ends : Int32) (v_fault : Int32) (v_opened : Int32) (v_bentMany : Int32) (v_bentWrong : Int32) (v_moreWorn : Int32) (v_planned : Int32) (v_allWrong : Int32) (v_allWorn : Int32) (v_z : Int32) (v_limit : List Int32) (v_shapeRows : List Int32) (v_shapeColumns : List Int32) (v_row : List Int32) (v_column : List Int32) (v_below : List Int32) (v_face : List Int32) (v_worn : List Int32) (v_lastBend : List Int32) (v_tape : List Int32) (v_text : List Int32) (v_names : List Int32) (v_bends : List Int32) (v_high : List Int32) (v_to : List Int32) (v_pileSize : List Int32) (v_planLine : List Int32) (v_planWay : List Int32) : Option (Int32 × Int32 × Int32 × Int32 × Int32 × Int32 × Int32 × Int32 × Int32 × Int32 × Int32 × Int32 × List Int32 × List Int32 × List Int32 × List Int32 × List Int32 × List Int32 × List Int32 × List Int32 × List Int32 × List Int32 × List Int32 × List Int32 × List Int32) :=
    mm_bd1 (fX9_within N ((x1).toInt64) (0 : Int64) (3 : Int64)) (fun (r_1 : Bool) =>
    if r_1 = false then
    (some ((-1 : Int32), v_base, v_at, v_ends, v_fault, v_opened, v_bentMany, v_bentWrong, v_moreWorn, v_allWrong, v_allWorn, v_z, v_shapeRows, v_shapeColumns, v_row, v_column, v_below, v_face, v_worn, v_lastBend, v_names, v_bends, v_high, v_to, v_pileSize))
    else (mm_bd25 (fX9_goesPlan N (12 : Int32) (-1 : Int32) v_rowsOf v_columnsOf v_textMany v_base v_at v_ends v_fault v_opened v_bentMany v_bentWrong v_moreWorn v_planned v_allWrong v_allWorn v_z v_limit v_shapeRows v_shapeColumns v_row v_column v_below v_face v_worn v_lastBend v_tape v_text v_names v_bends v_high v_to v_pileSize v_planLine v_planWay) (fun (r_4 : Int32) (w_5 : Int32) (w_6 : Int32) (w_7 : Int32) (w_8 : Int32) (w_9 : Int32) (w_10 : Int32) (w_11 : Int32) (w_12 : Int32) (w_13 : Int32) (w_14 : Int32) (w_15 : Int32) (w_16 : List Int32) (w_17 : List Int32) (w_18 : List Int32) (w_19 : List Int32) (w_20 : List Int32) (w_21 : List Int32) (w_22 : List Int32) (w_23 : List Int32) (w_24 : List Int32) (w_25 : List Int32) (w_26 : List Int32) (w_27 : List Int32) (w_28 : List Int32) =>
    if x1 = 0 then
    (some (r_4, w_5, w_6, w_7, w_8, w_9, w_10, w_11, w_12, w_13, w_14, w_15, w_16, w_17, w_18, w_19, w_20, w_21, w_22, w_23, w_24, w_25, w_26, w_27, w_28))
    else (if x1 = (1 : Int32) then
    (some (w_14, w_5, w_6, w_7, w_8, w_9, w_10, w_11, w_12, w_13, w_14, w_15, w_16, w_17, w_18, w_19, w_20, w_21, w_22, w_23, w_24, w_25, w_26, w_27, w_28))
    else (if x1 = (2 : Int32) then
    (some (w_13, w_5, w_6, w_7, w_8, w_9, w_10, w_11, w_12, w_13, w_14, w_15, w_16, w_17, w_18, w_19, w_20, w_21, w_22, w_23, w_24, w_25, w_26, w_27, w_28))
    else (mm_bd1 (fX9_tornNow N (1 : Int32) v_rowsOf v_columnsOf v_limit w_22) (fun (r_33 : Int32) =>
    mm_bd1 (fX9_tornNow N (0 : Int32) v_rowsOf v_columnsOf v_limit w_22) (fun (r_35 : Int32) =>
    some ((r_33 - r_35), w_5, w_6, w_7, w_8, w_9, w_10, w_11, w_12, w_13, w_14, w_15, w_16, w_17, w_18, w_19, w_20, w_21, w_22, w_23, w_24, w_25, w_26, w_27, w_28)))))))))

set_option maxHeartbeats 4000000 in
set_option maxRecDepth 100000 in
theorem ctX9_cost {l : Launch} {D : va_G} {cI cL cS cH : ClassId} {a : Nat → Nat} {x1 : Int32} {v_keptMany : Int32} {v_done : Int32} {v_rowsOf : Int32} {v_columnsOf : Int32} {v_folded : Int32} {v_wronged : Int32} {v_tapeMany : Int32} {v_textMany : Int32} {v_base : Int32} {v_at : Int32} {v_ends : Int32} {v_fault : Int32} {v_opened : Int32} {v_bentMany : Int32} {v_bentWrong : Int32} {v_moreWorn : Int32} {v_planned : Int32} {v_allWrong : Int32} {v_allWorn : Int32} {v_z : Int32} {v_wishedField : Int32} {v_isFound : Bool} {v_bestWrong : Int32} {v_bestWorn : Int32} {v_bestMany : Int32} {v_soughtBy : Int32} {v_sought : Int32} {v_soughtAt : Int32} {v_foundMany : Int32} {v_foundOrder : Int32} {v_isKept : Bool} {v_imageRows : Int32} {v_imageColumns : Int32} {v_imageFolded : Int32} {v_imageWronged : Int32} {v_bodies : Int32} {v_ran : Int32} {v_ownKind : Int32} {v_ownNumber : Int32} {v_limit : List Int32} {v_changeWas : List Int32} {v_changeIs : List Int32} {v_shapeRows : List Int32} {v_shapeColumns : List Int32} {v_row : List Int32} {v_column : List Int32} {v_below : List Int32} {v_face : List Int32} {v_worn : List Int32} {v_lastBend : List Int32} {v_tape : List Int32} {v_text : List Int32} {v_names : List Int32} {v_bends : List Int32} {v_high : List Int32} {v_to : List Int32} {v_pileSize : List Int32} {v_planLine : List Int32} {v_planWay : List Int32} {v_way1 : List Int32} {v_bestWay : List Int32} {v_order1 : List Int32} {v_placeIn : List Int32} {v_bodyKind : List Int32} {v_trace : List Int32} {v_shelf : List Int32} {v_many : List Int32} {v_items : List Int64} {v_carried : List Int64} {r : Int32} {w_base : Int32} {w_at : Int32} {w_ends : Int32} {w_fault : Int32} {w_opened : Int32} {w_bentMany : Int32} {w_bentWrong : Int32} {w_moreWorn : Int32} {w_allWrong : Int32} {w_allWorn : Int32} {w_z : Int32} {w_shapeRows : List Int32} {w_shapeColumns : List Int32} {w_row : List Int32} {w_column : List Int32} {w_below : List Int32} {w_face : List Int32} {w_worn : List Int32} {w_lastBend : List Int32} {w_names : List Int32} {w_bends : List Int32} {w_high : List Int32} {w_to : List Int32} {w_pileSize : List Int32} {N d : Nat} (hd : 61 ≤ d) (hf : fX9_cost N x1 v_rowsOf v_columnsOf v_textMany v_base v_at v_ends v_fault v_opened v_bentMany v_bentWrong v_moreWorn v_planned v_allWrong v_allWorn v_z v_limit v_shapeRows v_shapeColumns v_row v_column v_below v_face v_worn v_lastBend v_tape v_text v_names v_bends v_high v_to v_pileSize v_planLine v_planWay = some (r, w_base, w_at, w_ends, w_fault, w_opened, w_bentMany, w_bentWrong, w_moreWorn, w_allWrong, w_allWorn, w_z, w_shapeRows, w_shapeColumns, w_row, w_column, w_below, w_face, w_worn, w_lastBend, w_names, w_bends, w_high, w_to, w_pileSize)) : mm_Ct l yX9_cost cX9_cost 3 (some .int) d D (mm_T cI cL cS cH) [.ref (a 0), .int x1] (wd_X9 cI cL cS cH a v_keptMany v_done v_rowsOf v_columnsOf v_folded v_wronged v_tapeMany v_textMany v_base v_at v_ends v_fault v_opened v_bentMany v_bentWrong v_moreWorn v_planned v_allWrong v_allWorn v_z v_wishedField v_isFound v_bestWrong v_bestWorn v_bestMany v_soughtBy v_sought v_soughtAt v_foundMany v_foundOrder v_isKept v_imageRows v_imageColumns v_imageFolded v_imageWronged v_bodies v_ran v_ownKind v_ownNumber v_limit v_changeWas v_changeIs v_shapeRows v_shapeColumns v_row v_column v_below v_face v_worn v_lastBend v_tape v_text v_names v_bends v_high v_to v_pileSize v_planLine v_planWay v_way1 v_bestWay v_order1 v_placeIn v_bodyKind v_trace v_shelf v_many v_items v_carried) (wd_X9 cI cL cS cH a v_keptMany v_done v_rowsOf v_columnsOf v_folded v_wronged v_tapeMany v_textMany w_base w_at w_ends w_fault w_opened w_bentMany w_bentWrong w_moreWorn v_planned w_allWrong w_allWorn w_z v_wishedField v_isFound v_bestWrong v_bestWorn v_bestMany v_soughtBy v_sought v_soughtAt v_foundMany v_foundOrder v_isKept v_imageRows v_imageColumns v_imageFolded v_imageWronged v_bodies v_ran v_ownKind v_ownNumber v_limit v_changeWas v_changeIs w_shapeRows w_shapeColumns w_row w_column w_below w_face w_worn w_lastBend v_tape v_text w_names w_bends w_high w_to w_pileSize v_planLine v_planWay v_way1 v_bestWay v_order1 v_placeIn v_bodyKind v_trace v_shelf v_many v_items v_carried) (some (.int r)) := by
  refine mm_of (by decide) (Nat.le_of_ble_eq_true rfl) ?_
  intro p e s m args below meth c A H locs ls C0 hP hD hA hS hl
  have C0 : mm_Cx p s m args meth c RX9 cX9_cost 3 (some .int) D (mm_T cI cL cS cH) A := C0
  obtain ⟨hx, hb, hml, hown, hts, hr, hlocks, hK, hSt⟩ := id C0
  have hl : lv_has ls 3 [(0, .ref (a 0)), (1, .int x1)] := hl
  unfold fX9_cost at hf
  refine lv_iload_n hx hb dX9_cost_0 rfl (lv_at hl 1 rfl) ?_
  refine lv_i2l hx hb dX9_cost_1 rfl ?_
  refine lv_lconst (v := 0) hx hb dX9_cost_2 (by decide) ?_
  refine lv_ldc2 hx hb hown (hts _ kc_X9_252) dX9_cost_3 ?_
  obtain ⟨r_1, hc_2, hf⟩ := mm_bd1s hf
  refine mm_callS0 (rest := []) C0 lk_X9_111 (ctX9_within (d := d - 1) (by omega) hc_2) (by omega) rfl hl.1 rfl (mm_cat rfl) dX9_cost_6 hP hD hA hS (fun H locs hP hS => ?_)
  refine W.eq (g2 := F0 m 9 ls [.int (mm_b r_1)]) rfl ?_
  refine lv_if_ne (tgt := 14) hx hb dX9_cost_9 (by decide) (fun c_3 => ?_) (fun c_3 => ?_)
  · have hf := mm_in hf (mm_b1 c_3)
    refine lv_aload_n hx hb dX9_cost_14 rfl (lv_at hl 0 rfl) ?_
    refine lv_bipush (v := 12) hx hb dX9_cost_15 (by decide) ?_
    refine lv_iconst (v := -1) hx hb dX9_cost_17 (by decide) ?_
    refine mm_ct25 hf (fun r_4 w_5 w_6 w_7 w_8 w_9 w_10 w_11 w_12 w_13 w_14 w_15 w_16 w_17 w_18 w_19 w_20 w_21 w_22 w_23 w_24 w_25 w_26 w_27 w_28 hc_29 hf => ?_)
    refine mm_callVF (q0 := 0) (ci := 9) (rest := []) C0 lk_X9_292 (ctX9_goesPlan (a := a) (d := d - 1) (by omega) hc_29) (by omega) rfl hl.1 rfl (mm_cat rfl) dX9_cost_18 hP hD hA hS rfl rfl (fun H locs hP hD hS => ?_)
    refine W.eq (g2 := F0 m 21 ls [.int r_4]) rfl ?_
    refine lv_istore_n (lv' := [(2, .int r_4), (0, .ref (a 0)), (1, .int x1)]) hx hb dX9_cost_21 rfl hl (by decide) rfl (fun ls hl => ?_)
    refine lv_iload_n hx hb dX9_cost_22 rfl (lv_at hl 2 rfl) ?_
    refine lv_if_ne (tgt := 30) hx hb dX9_cost_23 (by decide) (fun c_30 => ?_) (fun c_30 => ?_)
    · have hf := mm_in hf c_30
      refine lv_iload_n hx hb dX9_cost_30 rfl (lv_at hl 2 rfl) ?_
      refine lv_iconst (v := 1) hx hb dX9_cost_31 (by decide) ?_
      refine lv_icmp_ne (tgt := 42) hx hb dX9_cost_32 (by decide) (fun c_31 => ?_) (fun c_31 => ?_)
      · have hf := mm_in hf c_31
        refine lv_iload_n hx hb dX9_cost_42 rfl (lv_at hl 2 rfl) ?_
        refine lv_iconst (v := 2) hx hb dX9_cost_43 (by decide) ?_
        refine lv_icmp_ne (tgt := 54) hx hb dX9_cost_44 (by decide) (fun c_32 => ?_) (fun c_32 => ?_)
        · have hf := mm_in hf c_32
          refine lv_aload_n hx hb dX9_cost_54 rfl (lv_at hl 1 rfl) ?_
          refine lv_iconst (v := 1) hx hb dX9_cost_55 (by decide) ?_
          obtain ⟨r_33, hc_34, hf⟩ := mm_bd1s hf
          refine mm_callVF (q0 := 0) (ci := 9) (rest := []) C0 lk_X9_268 (ctX9_tornNow (a := a) (d := d - 1) (by omega) hc_34) (by omega) rfl hl.1 rfl (mm_cat rfl) dX9_cost_56 hP hD hA hS rfl rfl (fun H locs hP hD hS => ?_)
          refine W.eq (g2 := F0 m 59 ls [.int r_33]) rfl ?_
          refine lv_aload_n hx hb dX9_cost_59 rfl (lv_at hl 1 rfl) ?_
          refine lv_iconst (v := 0) hx hb dX9_cost_60 (by decide) ?_
          obtain ⟨r_35, hc_36, hf⟩ := mm_bd1s hf
          refine mm_callVF (q0 := 0) (ci := 9) (rest := [.int r_33]) C0 lk_X9_268 (ctX9_tornNow (a := a) (d := d - 1) (by omega) hc_36) (by omega) rfl hl.1 rfl (mm_cat rfl) dX9_cost_61 hP hD hA hS rfl rfl (fun H locs hP hD hS => ?_)
          refine W.eq (g2 := F0 m 64 ls [.int r_35, .int r_33]) rfl ?_
          refine lv_isub hx hb dX9_cost_64 ?_
          apply mm_sub25 hf
          exact mm_iret C0 hP hD hS dX9_cost_65
        · have hf := mm_ip hf c_32
          refine lv_aload_n hx hb dX9_cost_47 rfl (lv_at hl 1 rfl) ?_
          refine mm_get C0 hP iw_X9 0 rfl rfl 37 (by decide) fl_X9_282 rfl dX9_cost_48 ?_
          refine lv_goto (tgt := 65) hx hb dX9_cost_51 (by decide) ?_
          apply mm_sub25 hf
          exact mm_iret C0 hP hD hS dX9_cost_65
      · have hf := mm_ip hf c_31
        refine lv_aload_n hx hb dX9_cost_35 rfl (lv_at hl 1 rfl) ?_
        refine mm_get C0 hP iw_X9 0 rfl rfl 38 (by decide) fl_X9_285 rfl dX9_cost_36 ?_
        refine lv_goto (tgt := 65) hx hb dX9_cost_39 (by decide) ?_
        apply mm_sub25 hf
        exact mm_iret C0 hP hD hS dX9_cost_65
    · have hf := mm_ip hf c_30
      refine lv_iload_n hx hb dX9_cost_26 rfl (lv_at hl 0 rfl) ?_
      refine lv_goto (tgt := 65) hx hb dX9_cost_27 (by decide) ?_
      apply mm_sub25 hf
      exact mm_iret C0 hP hD hS dX9_cost_65
  · have hf := mm_ip hf (mm_b0 c_3)
    refine lv_iconst (v := -1) hx hb dX9_cost_12 (by decide) ?_
    apply mm_sub25 hf
    exact mm_iret C0 hP hD hS dX9_cost_13

theorem dX9_isBehind_0 : decode cX9_isBehind 0 = .ok (.iload_n 1, 1) := by decide +kernel
theorem dX9_isBehind_1 : decode cX9_isBehind 1 = .ok (.ifCond .lt 17, 3) := by decide +kernel
theorem dX9_isBehind_4 : decode cX9_isBehind 4 = .ok (.aload_n 0, 1) := by decide +kernel
theorem dX9_isBehind_5 : decode cX9_isBehind 5 = .ok (.iload_n 1, 1) := by decide +kernel
theorem dX9_isBehind_6 : decode cX9_isBehind 6 = .ok (.iconst (-1), 1) := by decide +kernel
theorem dX9_isBehind_7 : decode cX9_isBehind 7 = .ok (.invokevirtual 292, 3) := by decide +kernel
theorem dX9_isBehind_10 : decode cX9_isBehind 10 = .ok (.iload_n 1, 1) := by decide +kernel
theorem dX9_isBehind_11 : decode cX9_isBehind 11 = .ok (.if_icmp .ne 7, 3) := by decide +kernel
theorem dX9_isBehind_14 : decode cX9_isBehind 14 = .ok (.iconst 1, 1) := by decide +kernel
theorem dX9_isBehind_15 : decode cX9_isBehind 15 = .ok (.goto 4, 3) := by decide +kernel
theorem dX9_isBehind_18 : decode cX9_isBehind 18 = .ok (.iconst 0, 1) := by decide +kernel
theorem dX9_isBehind_19 : decode cX9_isBehind 19 = .ok (.ireturn, 1) := by decide +kernel
def fX9_isBehind (N : Nat) (x1 : Int32) (v_rowsOf : Int32) (v_columnsOf : Int32) (v_textMany : Int32) (v_base : Int32) (v_at : Int32) (v_ends : Int32) (v_fault : Int32) (v_opened : Int32) (v_bentMany : Int32) (v_bentWrong : Int32) (v_moreWorn : Int32) (v_planned : Int32) (v_allWrong : Int32) (v_allWorn : Int32) (v_z : Int32) (v_limit : List Int32) (v_shapeRows : List Int32) (v_shapeColumns : List Int32) (v_row : List Int32) (v_column : List Int32) (v_below : List Int32) (v_face : List Int32) (v_worn : List Int32) (v_lastBend : List Int32) (v_tape : List Int32) (v_text : List Int32) (v_names : List Int32) (v_bends : List Int32) (v_high : List Int32) (v_to : List Int32) (v_pileSize : List Int32) (v_planLine : List Int32) (v_planWay : List Int32) : Option (Bool × Int32 × Int32 × Int32 × Int32 × Int32 × Int32 × Int32 × Int32 × Int32 × Int32 × Int32 × List Int32 × List Int32 × List Int32 × List Int32 × List Int32 × List Int32 × List Int32 × List Int32 × List Int32 × List Int32 × List Int32 × List Int32 × List Int32) :=
    if x1 < 0 then
    (some (false, v_base, v_at, v_ends, v_fault, v_opened, v_bentMany, v_bentWrong, v_moreWorn, v_allWrong, v_allWorn, v_z, v_shapeRows, v_shapeColumns, v_row, v_column, v_below, v_face, v_worn, v_lastBend, v_names, v_bends, v_high, v_to, v_pileSize))
    else (mm_bd25 (fX9_goesPlan N x1 (-1 : Int32) v_rowsOf v_columnsOf v_textMany v_base v_at v_ends v_fault v_opened v_bentMany v_bentWrong v_moreWorn v_planned v_allWrong v_allWorn v_z v_limit v_shapeRows v_shapeColumns v_row v_column v_below v_face v_worn v_lastBend v_tape v_text v_names v_bends v_high v_to v_pileSize v_planLine v_planWay) (fun (r_2 : Int32) (w_3 : Int32) (w_4 : Int32) (w_5 : Int32) (w_6 : Int32) (w_7 : Int32) (w_8 : Int32) (w_9 : Int32) (w_10 : Int32) (w_11 : Int32) (w_12 : Int32) (w_13 : Int32) (w_14 : List Int32) (w_15 : List Int32) (w_16 : List Int32) (w_17 : List Int32) (w_18 : List Int32) (w_19 : List Int32) (w_20 : List Int32) (w_21 : List Int32) (w_22 : List Int32) (w_23 : List Int32) (w_24 : List Int32) (w_25 : List Int32) (w_26 : List Int32) =>
    if r_2 = x1 then
    (some (true, w_3, w_4, w_5, w_6, w_7, w_8, w_9, w_10, w_11, w_12, w_13, w_14, w_15, w_16, w_17, w_18, w_19, w_20, w_21, w_22, w_23, w_24, w_25, w_26))
    else (some (false, w_3, w_4, w_5, w_6, w_7, w_8, w_9, w_10, w_11, w_12, w_13, w_14, w_15, w_16, w_17, w_18, w_19, w_20, w_21, w_22, w_23, w_24, w_25, w_26))))

set_option maxHeartbeats 4000000 in
set_option maxRecDepth 100000 in
theorem ctX9_isBehind {l : Launch} {D : va_G} {cI cL cS cH : ClassId} {a : Nat → Nat} {x1 : Int32} {v_keptMany : Int32} {v_done : Int32} {v_rowsOf : Int32} {v_columnsOf : Int32} {v_folded : Int32} {v_wronged : Int32} {v_tapeMany : Int32} {v_textMany : Int32} {v_base : Int32} {v_at : Int32} {v_ends : Int32} {v_fault : Int32} {v_opened : Int32} {v_bentMany : Int32} {v_bentWrong : Int32} {v_moreWorn : Int32} {v_planned : Int32} {v_allWrong : Int32} {v_allWorn : Int32} {v_z : Int32} {v_wishedField : Int32} {v_isFound : Bool} {v_bestWrong : Int32} {v_bestWorn : Int32} {v_bestMany : Int32} {v_soughtBy : Int32} {v_sought : Int32} {v_soughtAt : Int32} {v_foundMany : Int32} {v_foundOrder : Int32} {v_isKept : Bool} {v_imageRows : Int32} {v_imageColumns : Int32} {v_imageFolded : Int32} {v_imageWronged : Int32} {v_bodies : Int32} {v_ran : Int32} {v_ownKind : Int32} {v_ownNumber : Int32} {v_limit : List Int32} {v_changeWas : List Int32} {v_changeIs : List Int32} {v_shapeRows : List Int32} {v_shapeColumns : List Int32} {v_row : List Int32} {v_column : List Int32} {v_below : List Int32} {v_face : List Int32} {v_worn : List Int32} {v_lastBend : List Int32} {v_tape : List Int32} {v_text : List Int32} {v_names : List Int32} {v_bends : List Int32} {v_high : List Int32} {v_to : List Int32} {v_pileSize : List Int32} {v_planLine : List Int32} {v_planWay : List Int32} {v_way1 : List Int32} {v_bestWay : List Int32} {v_order1 : List Int32} {v_placeIn : List Int32} {v_bodyKind : List Int32} {v_trace : List Int32} {v_shelf : List Int32} {v_many : List Int32} {v_items : List Int64} {v_carried : List Int64} {r : Bool} {w_base : Int32} {w_at : Int32} {w_ends : Int32} {w_fault : Int32} {w_opened : Int32} {w_bentMany : Int32} {w_bentWrong : Int32} {w_moreWorn : Int32} {w_allWrong : Int32} {w_allWorn : Int32} {w_z : Int32} {w_shapeRows : List Int32} {w_shapeColumns : List Int32} {w_row : List Int32} {w_column : List Int32} {w_below : List Int32} {w_face : List Int32} {w_worn : List Int32} {w_lastBend : List Int32} {w_names : List Int32} {w_bends : List Int32} {w_high : List Int32} {w_to : List Int32} {w_pileSize : List Int32} {N d : Nat} (hd : 61 ≤ d) (hf : fX9_isBehind N x1 v_rowsOf v_columnsOf v_textMany v_base v_at v_ends v_fault v_opened v_bentMany v_bentWrong v_moreWorn v_planned v_allWrong v_allWorn v_z v_limit v_shapeRows v_shapeColumns v_row v_column v_below v_face v_worn v_lastBend v_tape v_text v_names v_bends v_high v_to v_pileSize v_planLine v_planWay = some (r, w_base, w_at, w_ends, w_fault, w_opened, w_bentMany, w_bentWrong, w_moreWorn, w_allWrong, w_allWorn, w_z, w_shapeRows, w_shapeColumns, w_row, w_column, w_below, w_face, w_worn, w_lastBend, w_names, w_bends, w_high, w_to, w_pileSize)) : mm_Ct l yX9_isBehind cX9_isBehind 2 (some .boolean) d D (mm_T cI cL cS cH) [.ref (a 0), .int x1] (wd_X9 cI cL cS cH a v_keptMany v_done v_rowsOf v_columnsOf v_folded v_wronged v_tapeMany v_textMany v_base v_at v_ends v_fault v_opened v_bentMany v_bentWrong v_moreWorn v_planned v_allWrong v_allWorn v_z v_wishedField v_isFound v_bestWrong v_bestWorn v_bestMany v_soughtBy v_sought v_soughtAt v_foundMany v_foundOrder v_isKept v_imageRows v_imageColumns v_imageFolded v_imageWronged v_bodies v_ran v_ownKind v_ownNumber v_limit v_changeWas v_changeIs v_shapeRows v_shapeColumns v_row v_column v_below v_face v_worn v_lastBend v_tape v_text v_names v_bends v_high v_to v_pileSize v_planLine v_planWay v_way1 v_bestWay v_order1 v_placeIn v_bodyKind v_trace v_shelf v_many v_items v_carried) (wd_X9 cI cL cS cH a v_keptMany v_done v_rowsOf v_columnsOf v_folded v_wronged v_tapeMany v_textMany w_base w_at w_ends w_fault w_opened w_bentMany w_bentWrong w_moreWorn v_planned w_allWrong w_allWorn w_z v_wishedField v_isFound v_bestWrong v_bestWorn v_bestMany v_soughtBy v_sought v_soughtAt v_foundMany v_foundOrder v_isKept v_imageRows v_imageColumns v_imageFolded v_imageWronged v_bodies v_ran v_ownKind v_ownNumber v_limit v_changeWas v_changeIs w_shapeRows w_shapeColumns w_row w_column w_below w_face w_worn w_lastBend v_tape v_text w_names w_bends w_high w_to w_pileSize v_planLine v_planWay v_way1 v_bestWay v_order1 v_placeIn v_bodyKind v_trace v_shelf v_many v_items v_carried) (some (.int (mm_b r))) := by
  refine mm_of (by decide) (Nat.le_of_ble_eq_true rfl) ?_
  intro p e s m args below meth c A H locs ls C0 hP hD hA hS hl
  have C0 : mm_Cx p s m args meth c RX9 cX9_isBehind 2 (some .boolean) D (mm_T cI cL cS cH) A := C0
  obtain ⟨hx, hb, hml, hown, hts, hr, hlocks, hK, hSt⟩ := id C0
  have hl : lv_has ls 2 [(0, .ref (a 0)), (1, .int x1)] := hl
  unfold fX9_isBehind at hf
  refine lv_iload_n hx hb dX9_isBehind_0 rfl (lv_at hl 1 rfl) ?_
  refine lv_if_lt (tgt := 18) hx hb dX9_isBehind_1 (by decide) (fun c_1 => ?_) (fun c_1 => ?_)
  · have hf := mm_ip hf c_1
    refine lv_iconst (v := 0) hx hb dX9_isBehind_18 (by decide) ?_
    apply mm_sub25 hf
    exact mm_zret (v := false) C0 hP hD hS dX9_isBehind_19 (by decide)
  · have hf := mm_in hf c_1
    refine lv_aload_n hx hb dX9_isBehind_4 rfl (lv_at hl 0 rfl) ?_
    refine lv_iload_n hx hb dX9_isBehind_5 rfl (lv_at hl 1 rfl) ?_
    refine lv_iconst (v := -1) hx hb dX9_isBehind_6 (by decide) ?_
    refine mm_ct25 hf (fun r_2 w_3 w_4 w_5 w_6 w_7 w_8 w_9 w_10 w_11 w_12 w_13 w_14 w_15 w_16 w_17 w_18 w_19 w_20 w_21 w_22 w_23 w_24 w_25 w_26 hc_27 hf => ?_)
    refine mm_callVF (q0 := 0) (ci := 9) (rest := []) C0 lk_X9_292 (ctX9_goesPlan (a := a) (d := d - 1) (by omega) hc_27) (by omega) rfl hl.1 rfl (mm_cat rfl) dX9_isBehind_7 hP hD hA hS rfl rfl (fun H locs hP hD hS => ?_)
    refine W.eq (g2 := F0 m 10 ls [.int r_2]) rfl ?_
    refine lv_iload_n hx hb dX9_isBehind_10 rfl (lv_at hl 1 rfl) ?_
    refine lv_icmp_ne (tgt := 18) hx hb dX9_isBehind_11 (by decide) (fun c_28 => ?_) (fun c_28 => ?_)
    · have hf := mm_in hf c_28
      refine lv_iconst (v := 0) hx hb dX9_isBehind_18 (by decide) ?_
      apply mm_sub25 hf
      exact mm_zret (v := false) C0 hP hD hS dX9_isBehind_19 (by decide)
    · have hf := mm_ip hf c_28
      refine lv_iconst (v := 1) hx hb dX9_isBehind_14 (by decide) ?_
      refine lv_goto (tgt := 19) hx hb dX9_isBehind_15 (by decide) ?_
      apply mm_sub25 hf
      exact mm_zret (v := true) C0 hP hD hS dX9_isBehind_19 (by decide)

theorem dX9_lies_0 : decode cX9_lies 0 = .ok (.iload_n 1, 1) := by decide +kernel
theorem dX9_lies_1 : decode cX9_lies 1 = .ok (.ifCond .lt 37, 3) := by decide +kernel
theorem dX9_lies_4 : decode cX9_lies 4 = .ok (.aload_n 0, 1) := by decide +kernel
theorem dX9_lies_5 : decode cX9_lies 5 = .ok (.iload_n 1, 1) := by decide +kernel
theorem dX9_lies_6 : decode cX9_lies 6 = .ok (.bipush 100, 2) := by decide +kernel
theorem dX9_lies_8 : decode cX9_lies 8 = .ok (.idiv, 1) := by decide +kernel
theorem dX9_lies_9 : decode cX9_lies 9 = .ok (.invokevirtual 249, 3) := by decide +kernel
theorem dX9_lies_12 : decode cX9_lies 12 = .ok (.ifCond .eq 26, 3) := by decide +kernel
theorem dX9_lies_15 : decode cX9_lies 15 = .ok (.iload_n 2, 1) := by decide +kernel
theorem dX9_lies_16 : decode cX9_lies 16 = .ok (.i2l, 1) := by decide +kernel
theorem dX9_lies_17 : decode cX9_lies 17 = .ok (.lconst 0, 1) := by decide +kernel
theorem dX9_lies_18 : decode cX9_lies 18 = .ok (.ldc2_w 252, 3) := by decide +kernel
theorem dX9_lies_21 : decode cX9_lies 21 = .ok (.invokestatic 111, 3) := by decide +kernel
theorem dX9_lies_24 : decode cX9_lies 24 = .ok (.ifCond .eq 14, 3) := by decide +kernel
theorem dX9_lies_27 : decode cX9_lies 27 = .ok (.aload_n 0, 1) := by decide +kernel
theorem dX9_lies_28 : decode cX9_lies 28 = .ok (.iload_n 1, 1) := by decide +kernel
theorem dX9_lies_29 : decode cX9_lies 29 = .ok (.bipush 100, 2) := by decide +kernel
theorem dX9_lies_31 : decode cX9_lies 31 = .ok (.irem, 1) := by decide +kernel
theorem dX9_lies_32 : decode cX9_lies 32 = .ok (.invokevirtual 295, 3) := by decide +kernel
theorem dX9_lies_35 : decode cX9_lies 35 = .ok (.ifCond .ne 5, 3) := by decide +kernel
theorem dX9_lies_38 : decode cX9_lies 38 = .ok (.iconst (-1), 1) := by decide +kernel
theorem dX9_lies_39 : decode cX9_lies 39 = .ok (.ireturn, 1) := by decide +kernel
theorem dX9_lies_40 : decode cX9_lies 40 = .ok (.aload_n 0, 1) := by decide +kernel
theorem dX9_lies_41 : decode cX9_lies 41 = .ok (.iconst 1, 1) := by decide +kernel
theorem dX9_lies_42 : decode cX9_lies 42 = .ok (.iload_n 1, 1) := by decide +kernel
theorem dX9_lies_43 : decode cX9_lies 43 = .ok (.bipush 100, 2) := by decide +kernel
theorem dX9_lies_45 : decode cX9_lies 45 = .ok (.idiv, 1) := by decide +kernel
theorem dX9_lies_46 : decode cX9_lies 46 = .ok (.iload_n 2, 1) := by decide +kernel
theorem dX9_lies_47 : decode cX9_lies 47 = .ok (.invokevirtual 254, 3) := by decide +kernel
theorem dX9_lies_50 : decode cX9_lies 50 = .ok (.ireturn, 1) := by decide +kernel
def fX9_lies (N : Nat) (x1 : Int32) (x2 : Int32) (v_rowsOf : Int32) (v_columnsOf : Int32) (v_textMany : Int32) (v_base : Int32) (v_at : Int32) (v_ends : Int32) (v_fault : Int32) (v_opened : Int32) (v_bentMany : Int32) (v_bentWrong : Int32) (v_moreWorn : Int32) (v_planned : Int32) (v_allWrong : Int32) (v_allWorn : Int32) (v_z : Int32) (v_limit : List Int32) (v_shapeRows : List Int32) (v_shapeColumns : List Int32) (v_row : List Int32) (v_column : List Int32) (v_below : List Int32) (v_face : List Int32) (v_worn : List Int32) (v_lastBend : List Int32) (v_tape : List Int32) (v_text : List Int32) (v_names : List Int32) (v_bends : List Int32) (v_high : List Int32) (v_to : List Int32) (v_pileSize : List Int32) (v_planLine : List Int32) (v_planWay : List Int32) : Option (Int32 × Int32 × Int32 × Int32 × Int32 × Int32 × Int32 × Int32 × Int32 × Int32 × Int32 × Int32 × List Int32 × List Int32 × List Int32 × List Int32 × List Int32 × List Int32 × List Int32 × List Int32 × List Int32 × List Int32 × List Int32 × List Int32 × List Int32) :=
    if x1 < 0 then
    (some ((-1 : Int32), v_base, v_at, v_ends, v_fault, v_opened, v_bentMany, v_bentWrong, v_moreWorn, v_allWrong, v_allWorn, v_z, v_shapeRows, v_shapeColumns, v_row, v_column, v_below, v_face, v_worn, v_lastBend, v_names, v_bends, v_high, v_to, v_pileSize))
    else (mm_ck (mm_nz (100 : Int32)) (mm_bd1 (fX9_isField N (x1 / (100 : Int32)) v_rowsOf v_columnsOf) (fun (r_3 : Bool) =>
    if r_3 = false then
    (some ((-1 : Int32), v_base, v_at, v_ends, v_fault, v_opened, v_bentMany, v_bentWrong, v_moreWorn, v_allWrong, v_allWorn, v_z, v_shapeRows, v_shapeColumns, v_row, v_column, v_below, v_face, v_worn, v_lastBend, v_names, v_bends, v_high, v_to, v_pileSize))
    else (mm_bd1 (fX9_within N ((x2).toInt64) (0 : Int64) (3 : Int64)) (fun (r_6 : Bool) =>
    if r_6 = false then
    (some ((-1 : Int32), v_base, v_at, v_ends, v_fault, v_opened, v_bentMany, v_bentWrong, v_moreWorn, v_allWrong, v_allWorn, v_z, v_shapeRows, v_shapeColumns, v_row, v_column, v_below, v_face, v_worn, v_lastBend, v_names, v_bends, v_high, v_to, v_pileSize))
    else (mm_ck (mm_nz (100 : Int32)) (mm_bd25 (fX9_isBehind N (mm_rem x1 (100 : Int32)) v_rowsOf v_columnsOf v_textMany v_base v_at v_ends v_fault v_opened v_bentMany v_bentWrong v_moreWorn v_planned v_allWrong v_allWorn v_z v_limit v_shapeRows v_shapeColumns v_row v_column v_below v_face v_worn v_lastBend v_tape v_text v_names v_bends v_high v_to v_pileSize v_planLine v_planWay) (fun (r_10 : Bool) (w_11 : Int32) (w_12 : Int32) (w_13 : Int32) (w_14 : Int32) (w_15 : Int32) (w_16 : Int32) (w_17 : Int32) (w_18 : Int32) (w_19 : Int32) (w_20 : Int32) (w_21 : Int32) (w_22 : List Int32) (w_23 : List Int32) (w_24 : List Int32) (w_25 : List Int32) (w_26 : List Int32) (w_27 : List Int32) (w_28 : List Int32) (w_29 : List Int32) (w_30 : List Int32) (w_31 : List Int32) (w_32 : List Int32) (w_33 : List Int32) (w_34 : List Int32) =>
    if r_10 = false then
    (some ((-1 : Int32), w_11, w_12, w_13, w_14, w_15, w_16, w_17, w_18, w_19, w_20, w_21, w_22, w_23, w_24, w_25, w_26, w_27, w_28, w_29, w_30, w_31, w_32, w_33, w_34))
    else (mm_ck (mm_nz (100 : Int32)) (mm_bd1 (fX9_whereOf N (1 : Int32) (x1 / (100 : Int32)) x2 w_24 w_25 w_26 w_27) (fun (r_38 : Int32) =>
    some (r_38, w_11, w_12, w_13, w_14, w_15, w_16, w_17, w_18, w_19, w_20, w_21, w_22, w_23, w_24, w_25, w_26, w_27, w_28, w_29, w_30, w_31, w_32, w_33, w_34))))))))))))

set_option maxHeartbeats 4000000 in
set_option maxRecDepth 100000 in
theorem ctX9_lies {l : Launch} {D : va_G} {cI cL cS cH : ClassId} {a : Nat → Nat} {x1 : Int32} {x2 : Int32} {v_keptMany : Int32} {v_done : Int32} {v_rowsOf : Int32} {v_columnsOf : Int32} {v_folded : Int32} {v_wronged : Int32} {v_tapeMany : Int32} {v_textMany : Int32} {v_base : Int32} {v_at : Int32} {v_ends : Int32} {v_fault : Int32} {v_opened : Int32} {v_bentMany : Int32} {v_bentWrong : Int32} {v_moreWorn : Int32} {v_planned : Int32} {v_allWrong : Int32} {v_allWorn : Int32} {v_z : Int32} {v_wishedField : Int32} {v_isFound : Bool} {v_bestWrong : Int32} {v_bestWorn : Int32} {v_bestMany : Int32} {v_soughtBy : Int32} {v_sought : Int32} {v_soughtAt : Int32} {v_foundMany : Int32} {v_foundOrder : Int32} {v_isKept : Bool} {v_imageRows : Int32} {v_imageColumns : Int32} {v_imageFolded : Int32} {v_imageWronged : Int32} {v_bodies : Int32} {v_ran : Int32} {v_ownKind : Int32} {v_ownNumber : Int32} {v_limit : List Int32} {v_changeWas : List Int32} {v_changeIs : List Int32} {v_shapeRows : List Int32} {v_shapeColumns : List Int32} {v_row : List Int32} {v_column : List Int32} {v_below : List Int32} {v_face : List Int32} {v_worn : List Int32} {v_lastBend : List Int32} {v_tape : List Int32} {v_text : List Int32} {v_names : List Int32} {v_bends : List Int32} {v_high : List Int32} {v_to : List Int32} {v_pileSize : List Int32} {v_planLine : List Int32} {v_planWay : List Int32} {v_way1 : List Int32} {v_bestWay : List Int32} {v_order1 : List Int32} {v_placeIn : List Int32} {v_bodyKind : List Int32} {v_trace : List Int32} {v_shelf : List Int32} {v_many : List Int32} {v_items : List Int64} {v_carried : List Int64} {r : Int32} {w_base : Int32} {w_at : Int32} {w_ends : Int32} {w_fault : Int32} {w_opened : Int32} {w_bentMany : Int32} {w_bentWrong : Int32} {w_moreWorn : Int32} {w_allWrong : Int32} {w_allWorn : Int32} {w_z : Int32} {w_shapeRows : List Int32} {w_shapeColumns : List Int32} {w_row : List Int32} {w_column : List Int32} {w_below : List Int32} {w_face : List Int32} {w_worn : List Int32} {w_lastBend : List Int32} {w_names : List Int32} {w_bends : List Int32} {w_high : List Int32} {w_to : List Int32} {w_pileSize : List Int32} {N d : Nat} (hd : 62 ≤ d) (hf : fX9_lies N x1 x2 v_rowsOf v_columnsOf v_textMany v_base v_at v_ends v_fault v_opened v_bentMany v_bentWrong v_moreWorn v_planned v_allWrong v_allWorn v_z v_limit v_shapeRows v_shapeColumns v_row v_column v_below v_face v_worn v_lastBend v_tape v_text v_names v_bends v_high v_to v_pileSize v_planLine v_planWay = some (r, w_base, w_at, w_ends, w_fault, w_opened, w_bentMany, w_bentWrong, w_moreWorn, w_allWrong, w_allWorn, w_z, w_shapeRows, w_shapeColumns, w_row, w_column, w_below, w_face, w_worn, w_lastBend, w_names, w_bends, w_high, w_to, w_pileSize)) : mm_Ct l yX9_lies cX9_lies 3 (some .int) d D (mm_T cI cL cS cH) [.ref (a 0), .int x1, .int x2] (wd_X9 cI cL cS cH a v_keptMany v_done v_rowsOf v_columnsOf v_folded v_wronged v_tapeMany v_textMany v_base v_at v_ends v_fault v_opened v_bentMany v_bentWrong v_moreWorn v_planned v_allWrong v_allWorn v_z v_wishedField v_isFound v_bestWrong v_bestWorn v_bestMany v_soughtBy v_sought v_soughtAt v_foundMany v_foundOrder v_isKept v_imageRows v_imageColumns v_imageFolded v_imageWronged v_bodies v_ran v_ownKind v_ownNumber v_limit v_changeWas v_changeIs v_shapeRows v_shapeColumns v_row v_column v_below v_face v_worn v_lastBend v_tape v_text v_names v_bends v_high v_to v_pileSize v_planLine v_planWay v_way1 v_bestWay v_order1 v_placeIn v_bodyKind v_trace v_shelf v_many v_items v_carried) (wd_X9 cI cL cS cH a v_keptMany v_done v_rowsOf v_columnsOf v_folded v_wronged v_tapeMany v_textMany w_base w_at w_ends w_fault w_opened w_bentMany w_bentWrong w_moreWorn v_planned w_allWrong w_allWorn w_z v_wishedField v_isFound v_bestWrong v_bestWorn v_bestMany v_soughtBy v_sought v_soughtAt v_foundMany v_foundOrder v_isKept v_imageRows v_imageColumns v_imageFolded v_imageWronged v_bodies v_ran v_ownKind v_ownNumber v_limit v_changeWas v_changeIs w_shapeRows w_shapeColumns w_row w_column w_below w_face w_worn w_lastBend v_tape v_text w_names w_bends w_high w_to w_pileSize v_planLine v_planWay v_way1 v_bestWay v_order1 v_placeIn v_bodyKind v_trace v_shelf v_many v_items v_carried) (some (.int r)) := by
  refine mm_of (by decide) (Nat.le_of_ble_eq_true rfl) ?_
  intro p e s m args below meth c A H locs ls C0 hP hD hA hS hl
  have C0 : mm_Cx p s m args meth c RX9 cX9_lies 3 (some .int) D (mm_T cI cL cS cH) A := C0
  obtain ⟨hx, hb, hml, hown, hts, hr, hlocks, hK, hSt⟩ := id C0
  have hl : lv_has ls 3 [(0, .ref (a 0)), (1, .int x1), (2, .int x2)] := hl
  unfold fX9_lies at hf
  refine lv_iload_n hx hb dX9_lies_0 rfl (lv_at hl 1 rfl) ?_
  refine lv_if_lt (tgt := 38) hx hb dX9_lies_1 (by decide) (fun c_1 => ?_) (fun c_1 => ?_)
  · have hf := mm_ip hf c_1
    refine lv_iconst (v := -1) hx hb dX9_lies_38 (by decide) ?_
    apply mm_sub25 hf
    exact mm_iret C0 hP hD hS dX9_lies_39
  · have hf := mm_in hf c_1
    refine lv_aload_n hx hb dX9_lies_4 rfl (lv_at hl 0 rfl) ?_
    refine lv_iload_n hx hb dX9_lies_5 rfl (lv_at hl 1 rfl) ?_
    refine lv_bipush (v := 100) hx hb dX9_lies_6 (by decide) ?_
    obtain ⟨h_2, hf⟩ := mm_cks hf
    refine lv_idiv hx hb dX9_lies_8 (mm_nzs h_2) ?_
    obtain ⟨r_3, hc_4, hf⟩ := mm_bd1s hf
    refine mm_callVF (q0 := 0) (ci := 9) (rest := []) C0 lk_X9_249 (ctX9_isField (a := a) (d := d - 1) (by omega) hc_4) (by omega) rfl hl.1 rfl (mm_cat rfl) dX9_lies_9 hP hD hA hS rfl rfl (fun H locs hP hD hS => ?_)
    refine W.eq (g2 := F0 m 12 ls [.int (mm_b r_3)]) rfl ?_
    refine lv_if_eq (tgt := 38) hx hb dX9_lies_12 (by decide) (fun c_5 => ?_) (fun c_5 => ?_)
    · have hf := mm_ip hf (mm_b0 c_5)
      refine lv_iconst (v := -1) hx hb dX9_lies_38 (by decide) ?_
      apply mm_sub25 hf
      exact mm_iret C0 hP hD hS dX9_lies_39
    · have hf := mm_in hf (mm_b1 c_5)
      refine lv_iload_n hx hb dX9_lies_15 rfl (lv_at hl 2 rfl) ?_
      refine lv_i2l hx hb dX9_lies_16 rfl ?_
      refine lv_lconst (v := 0) hx hb dX9_lies_17 (by decide) ?_
      refine lv_ldc2 hx hb hown (hts _ kc_X9_252) dX9_lies_18 ?_
      obtain ⟨r_6, hc_7, hf⟩ := mm_bd1s hf
      refine mm_callS0 (rest := []) C0 lk_X9_111 (ctX9_within (d := d - 1) (by omega) hc_7) (by omega) rfl hl.1 rfl (mm_cat rfl) dX9_lies_21 hP hD hA hS (fun H locs hP hS => ?_)
      refine W.eq (g2 := F0 m 24 ls [.int (mm_b r_6)]) rfl ?_
      refine lv_if_eq (tgt := 38) hx hb dX9_lies_24 (by decide) (fun c_8 => ?_) (fun c_8 => ?_)
      · have hf := mm_ip hf (mm_b0 c_8)
        refine lv_iconst (v := -1) hx hb dX9_lies_38 (by decide) ?_
        apply mm_sub25 hf
        exact mm_iret C0 hP hD hS dX9_lies_39
      · have hf := mm_in hf (mm_b1 c_8)
        refine lv_aload_n hx hb dX9_lies_27 rfl (lv_at hl 0 rfl) ?_
        refine lv_iload_n hx hb dX9_lies_28 rfl (lv_at hl 1 rfl) ?_
        refine lv_bipush (v := 100) hx hb dX9_lies_29 (by decide) ?_
        obtain ⟨h_9, hf⟩ := mm_cks hf
        refine lv_irem hx hb dX9_lies_31 (mm_nzs h_9) ?_
        refine mm_ct25 hf (fun r_10 w_11 w_12 w_13 w_14 w_15 w_16 w_17 w_18 w_19 w_20 w_21 w_22 w_23 w_24 w_25 w_26 w_27 w_28 w_29 w_30 w_31 w_32 w_33 w_34 hc_35 hf => ?_)
        refine mm_callVF (q0 := 0) (ci := 9) (rest := []) C0 lk_X9_295 (ctX9_isBehind (a := a) (d := d - 1) (by omega) hc_35) (by omega) rfl hl.1 rfl (mm_cat rfl) dX9_lies_32 hP hD hA hS rfl rfl (fun H locs hP hD hS => ?_)
        refine W.eq (g2 := F0 m 35 ls [.int (mm_b r_10)]) rfl ?_
        refine lv_if_ne (tgt := 40) hx hb dX9_lies_35 (by decide) (fun c_36 => ?_) (fun c_36 => ?_)
        · have hf := mm_in hf (mm_b1 c_36)
          refine lv_aload_n hx hb dX9_lies_40 rfl (lv_at hl 0 rfl) ?_
          refine lv_iconst (v := 1) hx hb dX9_lies_41 (by decide) ?_
          refine lv_iload_n hx hb dX9_lies_42 rfl (lv_at hl 1 rfl) ?_
          refine lv_bipush (v := 100) hx hb dX9_lies_43 (by decide) ?_
          obtain ⟨h_37, hf⟩ := mm_cks hf
          refine lv_idiv hx hb dX9_lies_45 (mm_nzs h_37) ?_
          refine lv_iload_n hx hb dX9_lies_46 rfl (lv_at hl 2 rfl) ?_
          obtain ⟨r_38, hc_39, hf⟩ := mm_bd1s hf
          refine mm_callVF (q0 := 0) (ci := 9) (rest := []) C0 lk_X9_254 (ctX9_whereOf (a := a) (d := d - 1) (by omega) hc_39) (by omega) rfl hl.1 rfl (mm_cat rfl) dX9_lies_47 hP hD hA hS rfl rfl (fun H locs hP hD hS => ?_)
          refine W.eq (g2 := F0 m 50 ls [.int r_38]) rfl ?_
          apply mm_sub25 hf
          exact mm_iret C0 hP hD hS dX9_lies_50
        · have hf := mm_ip hf (mm_b0 c_36)
          refine lv_iconst (v := -1) hx hb dX9_lies_38 (by decide) ?_
          apply mm_sub25 hf
          exact mm_iret C0 hP hD hS dX9_lies_39

theorem dX9_topOf_0 : decode cX9_topOf 0 = .ok (.aload_n 0, 1) := by decide +kernel
theorem dX9_topOf_1 : decode cX9_topOf 1 = .ok (.iload_n 1, 1) := by decide +kernel
theorem dX9_topOf_2 : decode cX9_topOf 2 = .ok (.iload_n 2, 1) := by decide +kernel
theorem dX9_topOf_3 : decode cX9_topOf 3 = .ok (.iload_n 3, 1) := by decide +kernel
theorem dX9_topOf_4 : decode cX9_topOf 4 = .ok (.aload_n 0, 1) := by decide +kernel
theorem dX9_topOf_5 : decode cX9_topOf 5 = .ok (.iload_n 1, 1) := by decide +kernel
theorem dX9_topOf_6 : decode cX9_topOf 6 = .ok (.iload_n 2, 1) := by decide +kernel
theorem dX9_topOf_7 : decode cX9_topOf 7 = .ok (.iload_n 3, 1) := by decide +kernel
theorem dX9_topOf_8 : decode cX9_topOf 8 = .ok (.invokevirtual 262, 3) := by decide +kernel
theorem dX9_topOf_11 : decode cX9_topOf 11 = .ok (.iconst 1, 1) := by decide +kernel
theorem dX9_topOf_12 : decode cX9_topOf 12 = .ok (.isub, 1) := by decide +kernel
theorem dX9_topOf_13 : decode cX9_topOf 13 = .ok (.invokevirtual 265, 3) := by decide +kernel
theorem dX9_topOf_16 : decode cX9_topOf 16 = .ok (.ireturn, 1) := by decide +kernel
def fX9_topOf (N : Nat) (x1 : Int32) (x2 : Int32) (x3 : Int32) (v_rowsOf : Int32) (v_columnsOf : Int32) (v_row : List Int32) (v_column : List Int32) (v_below : List Int32) : Option (Int32) :=
    mm_bd1 (fX9_sizeAt N x1 x2 x3 v_rowsOf v_columnsOf v_row v_column) (fun (r_1 : Int32) =>
    mm_bd1 (fX9_fieldAt N x1 x2 x3 (r_1 - (1 : Int32)) v_rowsOf v_columnsOf v_row v_column v_below) (fun (r_3 : Int32) =>
    some (r_3)))

set_option maxHeartbeats 4000000 in
set_option maxRecDepth 100000 in
theorem ctX9_topOf {l : Launch} {D : va_G} {cI cL cS cH : ClassId} {a : Nat → Nat} {x1 : Int32} {x2 : Int32} {x3 : Int32} {v_keptMany : Int32} {v_done : Int32} {v_rowsOf : Int32} {v_columnsOf : Int32} {v_folded : Int32} {v_wronged : Int32} {v_tapeMany : Int32} {v_textMany : Int32} {v_base : Int32} {v_at : Int32} {v_ends : Int32} {v_fault : Int32} {v_opened : Int32} {v_bentMany : Int32} {v_bentWrong : Int32} {v_moreWorn : Int32} {v_planned : Int32} {v_allWrong : Int32} {v_allWorn : Int32} {v_z : Int32} {v_wishedField : Int32} {v_isFound : Bool} {v_bestWrong : Int32} {v_bestWorn : Int32} {v_bestMany : Int32} {v_soughtBy : Int32} {v_sought : Int32} {v_soughtAt : Int32} {v_foundMany : Int32} {v_foundOrder : Int32} {v_isKept : Bool} {v_imageRows : Int32} {v_imageColumns : Int32} {v_imageFolded : Int32} {v_imageWronged : Int32} {v_bodies : Int32} {v_ran : Int32} {v_ownKind : Int32} {v_ownNumber : Int32} {v_limit : List Int32} {v_changeWas : List Int32} {v_changeIs : List Int32} {v_shapeRows : List Int32} {v_shapeColumns : List Int32} {v_row : List Int32} {v_column : List Int32} {v_below : List Int32} {v_face : List Int32} {v_worn : List Int32} {v_lastBend : List Int32} {v_tape : List Int32} {v_text : List Int32} {v_names : List Int32} {v_bends : List Int32} {v_high : List Int32} {v_to : List Int32} {v_pileSize : List Int32} {v_planLine : List Int32} {v_planWay : List Int32} {v_way1 : List Int32} {v_bestWay : List Int32} {v_order1 : List Int32} {v_placeIn : List Int32} {v_bodyKind : List Int32} {v_trace : List Int32} {v_shelf : List Int32} {v_many : List Int32} {v_items : List Int64} {v_carried : List Int64} {r : Int32} {N d : Nat} (hd : 3 ≤ d) (hf : fX9_topOf N x1 x2 x3 v_rowsOf v_columnsOf v_row v_column v_below = some r) : mm_Ct l yX9_topOf cX9_topOf 4 (some .int) d D (mm_T cI cL cS cH) [.ref (a 0), .int x1, .int x2, .int x3] (wd_X9 cI cL cS cH a v_keptMany v_done v_rowsOf v_columnsOf v_folded v_wronged v_tapeMany v_textMany v_base v_at v_ends v_fault v_opened v_bentMany v_bentWrong v_moreWorn v_planned v_allWrong v_allWorn v_z v_wishedField v_isFound v_bestWrong v_bestWorn v_bestMany v_soughtBy v_sought v_soughtAt v_foundMany v_foundOrder v_isKept v_imageRows v_imageColumns v_imageFolded v_imageWronged v_bodies v_ran v_ownKind v_ownNumber v_limit v_changeWas v_changeIs v_shapeRows v_shapeColumns v_row v_column v_below v_face v_worn v_lastBend v_tape v_text v_names v_bends v_high v_to v_pileSize v_planLine v_planWay v_way1 v_bestWay v_order1 v_placeIn v_bodyKind v_trace v_shelf v_many v_items v_carried) (wd_X9 cI cL cS cH a v_keptMany v_done v_rowsOf v_columnsOf v_folded v_wronged v_tapeMany v_textMany v_base v_at v_ends v_fault v_opened v_bentMany v_bentWrong v_moreWorn v_planned v_allWrong v_allWorn v_z v_wishedField v_isFound v_bestWrong v_bestWorn v_bestMany v_soughtBy v_sought v_soughtAt v_foundMany v_foundOrder v_isKept v_imageRows v_imageColumns v_imageFolded v_imageWronged v_bodies v_ran v_ownKind v_ownNumber v_limit v_changeWas v_changeIs v_shapeRows v_shapeColumns v_row v_column v_below v_face v_worn v_lastBend v_tape v_text v_names v_bends v_high v_to v_pileSize v_planLine v_planWay v_way1 v_bestWay v_order1 v_placeIn v_bodyKind v_trace v_shelf v_many v_items v_carried) (some (.int r)) := by
  refine mm_of (by decide) (Nat.le_of_ble_eq_true rfl) ?_
  intro p e s m args below meth c A H locs ls C0 hP hD hA hS hl
  have C0 : mm_Cx p s m args meth c RX9 cX9_topOf 4 (some .int) D (mm_T cI cL cS cH) A := C0
  obtain ⟨hx, hb, hml, hown, hts, hr, hlocks, hK, hSt⟩ := id C0
  have hl : lv_has ls 4 [(0, .ref (a 0)), (1, .int x1), (2, .int x2), (3, .int x3)] := hl
  unfold fX9_topOf at hf
  refine lv_aload_n hx hb dX9_topOf_0 rfl (lv_at hl 0 rfl) ?_
  refine lv_iload_n hx hb dX9_topOf_1 rfl (lv_at hl 1 rfl) ?_
  refine lv_iload_n hx hb dX9_topOf_2 rfl (lv_at hl 2 rfl) ?_
  refine lv_iload_n hx hb dX9_topOf_3 rfl (lv_at hl 3 rfl) ?_
  refine lv_aload_n hx hb dX9_topOf_4 rfl (lv_at hl 0 rfl) ?_
  refine lv_iload_n hx hb dX9_topOf_5 rfl (lv_at hl 1 rfl) ?_
  refine lv_iload_n hx hb dX9_topOf_6 rfl (lv_at hl 2 rfl) ?_
  refine lv_iload_n hx hb dX9_topOf_7 rfl (lv_at hl 3 rfl) ?_
  obtain ⟨r_1, hc_2, hf⟩ := mm_bd1s hf
  refine mm_callVF (q0 := 0) (ci := 9) (rest := [.int x3, .int x2, .int x1, .ref (a 0)]) C0 lk_X9_262 (ctX9_sizeAt (a := a) (d := d - 1) (by omega) hc_2) (by omega) rfl hl.1 rfl (mm_cat rfl) dX9_topOf_8 hP hD hA hS rfl rfl (fun H locs hP hD hS => ?_)
  refine W.eq (g2 := F0 m 11 ls [.int r_1, .int x3, .int x2, .int x1, .ref (a 0)]) rfl ?_
  refine lv_iconst (v := 1) hx hb dX9_topOf_11 (by decide) ?_
  refine lv_isub hx hb dX9_topOf_12 ?_
  obtain ⟨r_3, hc_4, hf⟩ := mm_bd1s hf
  refine mm_callVF (q0 := 0) (ci := 9) (rest := []) C0 lk_X9_265 (ctX9_fieldAt (a := a) (d := d - 1) (by omega) hc_4) (by omega) rfl hl.1 rfl (mm_cat rfl) dX9_topOf_13 hP hD hA hS rfl rfl (fun H locs hP hD hS => ?_)
  refine W.eq (g2 := F0 m 16 ls [.int r_3]) rfl ?_
  obtain rfl := mm_inj1 hf
  exact mm_iret C0 hP hD hS dX9_topOf_16

theorem dX9_top_0 : decode cX9_top 0 = .ok (.aload_n 0, 1) := by decide +kernel
theorem dX9_top_1 : decode cX9_top 1 = .ok (.iload_n 1, 1) := by decide +kernel
theorem dX9_top_2 : decode cX9_top 2 = .ok (.invokevirtual 295, 3) := by decide +kernel
theorem dX9_top_5 : decode cX9_top 5 = .ok (.ifCond .eq 28, 3) := by decide +kernel
theorem dX9_top_8 : decode cX9_top 8 = .ok (.aload_n 0, 1) := by decide +kernel
theorem dX9_top_9 : decode cX9_top 9 = .ok (.iconst 1, 1) := by decide +kernel
theorem dX9_top_10 : decode cX9_top 10 = .ok (.iload_n 2, 1) := by decide +kernel
theorem dX9_top_11 : decode cX9_top 11 = .ok (.invokevirtual 258, 3) := by decide +kernel
theorem dX9_top_14 : decode cX9_top 14 = .ok (.ifCond .eq 19, 3) := by decide +kernel
theorem dX9_top_17 : decode cX9_top 17 = .ok (.aload_n 0, 1) := by decide +kernel
theorem dX9_top_18 : decode cX9_top 18 = .ok (.iconst 1, 1) := by decide +kernel
theorem dX9_top_19 : decode cX9_top 19 = .ok (.iload_n 2, 1) := by decide +kernel
theorem dX9_top_20 : decode cX9_top 20 = .ok (.bipush 10, 2) := by decide +kernel
theorem dX9_top_22 : decode cX9_top 22 = .ok (.idiv, 1) := by decide +kernel
theorem dX9_top_23 : decode cX9_top 23 = .ok (.iload_n 2, 1) := by decide +kernel
theorem dX9_top_24 : decode cX9_top 24 = .ok (.bipush 10, 2) := by decide +kernel
theorem dX9_top_26 : decode cX9_top 26 = .ok (.irem, 1) := by decide +kernel
theorem dX9_top_27 : decode cX9_top 27 = .ok (.invokevirtual 298, 3) := by decide +kernel
theorem dX9_top_30 : decode cX9_top 30 = .ok (.goto 4, 3) := by decide +kernel
theorem dX9_top_33 : decode cX9_top 33 = .ok (.iconst (-1), 1) := by decide +kernel
theorem dX9_top_34 : decode cX9_top 34 = .ok (.ireturn, 1) := by decide +kernel
def fX9_top (N : Nat) (x1 : Int32) (x2 : Int32) (v_rowsOf : Int32) (v_columnsOf : Int32) (v_textMany : Int32) (v_base : Int32) (v_at : Int32) (v_ends : Int32) (v_fault : Int32) (v_opened : Int32) (v_bentMany : Int32) (v_bentWrong : Int32) (v_moreWorn : Int32) (v_planned : Int32) (v_allWrong : Int32) (v_allWorn : Int32) (v_z : Int32) (v_limit : List Int32) (v_shapeRows : List Int32) (v_shapeColumns : List Int32) (v_row : List Int32) (v_column : List Int32) (v_below : List Int32) (v_face : List Int32) (v_worn : List Int32) (v_lastBend : List Int32) (v_tape : List Int32) (v_text : List Int32) (v_names : List Int32) (v_bends : List Int32) (v_high : List Int32) (v_to : List Int32) (v_pileSize : List Int32) (v_planLine : List Int32) (v_planWay : List Int32) : Option (Int32 × Int32 × Int32 × Int32 × Int32 × Int32 × Int32 × Int32 × Int32 × Int32 × Int32 × Int32 × List Int32 × List Int32 × List Int32 × List Int32 × List Int32 × List Int32 × List Int32 × List Int32 × List Int32 × List Int32 × List Int32 × List Int32 × List Int32) :=
    mm_bd25 (fX9_isBehind N x1 v_rowsOf v_columnsOf v_textMany v_base v_at v_ends v_fault v_opened v_bentMany v_bentWrong v_moreWorn v_planned v_allWrong v_allWorn v_z v_limit v_shapeRows v_shapeColumns v_row v_column v_below v_face v_worn v_lastBend v_tape v_text v_names v_bends v_high v_to v_pileSize v_planLine v_planWay) (fun (r_1 : Bool) (w_2 : Int32) (w_3 : Int32) (w_4 : Int32) (w_5 : Int32) (w_6 : Int32) (w_7 : Int32) (w_8 : Int32) (w_9 : Int32) (w_10 : Int32) (w_11 : Int32) (w_12 : Int32) (w_13 : List Int32) (w_14 : List Int32) (w_15 : List Int32) (w_16 : List Int32) (w_17 : List Int32) (w_18 : List Int32) (w_19 : List Int32) (w_20 : List Int32) (w_21 : List Int32) (w_22 : List Int32) (w_23 : List Int32) (w_24 : List Int32) (w_25 : List Int32) =>
    if r_1 = false then
    (some ((-1 : Int32), w_2, w_3, w_4, w_5, w_6, w_7, w_8, w_9, w_10, w_11, w_12, w_13, w_14, w_15, w_16, w_17, w_18, w_19, w_20, w_21, w_22, w_23, w_24, w_25))
    else (mm_bd1 (fX9_isPile N (1 : Int32) x2 w_13 w_14) (fun (r_28 : Bool) =>
    if r_28 = false then
    (some ((-1 : Int32), w_2, w_3, w_4, w_5, w_6, w_7, w_8, w_9, w_10, w_11, w_12, w_13, w_14, w_15, w_16, w_17, w_18, w_19, w_20, w_21, w_22, w_23, w_24, w_25))
    else (mm_ck (mm_nz (10 : Int32)) (mm_ck (mm_nz (10 : Int32)) (mm_bd1 (fX9_topOf N (1 : Int32) (x2 / (10 : Int32)) (mm_rem x2 (10 : Int32)) v_rowsOf v_columnsOf w_15 w_16 w_17) (fun (r_33 : Int32) =>
    some (r_33, w_2, w_3, w_4, w_5, w_6, w_7, w_8, w_9, w_10, w_11, w_12, w_13, w_14, w_15, w_16, w_17, w_18, w_19, w_20, w_21, w_22, w_23, w_24, w_25))))))))

set_option maxHeartbeats 4000000 in
set_option maxRecDepth 100000 in
theorem ctX9_top {l : Launch} {D : va_G} {cI cL cS cH : ClassId} {a : Nat → Nat} {x1 : Int32} {x2 : Int32} {v_keptMany : Int32} {v_done : Int32} {v_rowsOf : Int32} {v_columnsOf : Int32} {v_folded : Int32} {v_wronged : Int32} {v_tapeMany : Int32} {v_textMany : Int32} {v_base : Int32} {v_at : Int32} {v_ends : Int32} {v_fault : Int32} {v_opened : Int32} {v_bentMany : Int32} {v_bentWrong : Int32} {v_moreWorn : Int32} {v_planned : Int32} {v_allWrong : Int32} {v_allWorn : Int32} {v_z : Int32} {v_wishedField : Int32} {v_isFound : Bool} {v_bestWrong : Int32} {v_bestWorn : Int32} {v_bestMany : Int32} {v_soughtBy : Int32} {v_sought : Int32} {v_soughtAt : Int32} {v_foundMany : Int32} {v_foundOrder : Int32} {v_isKept : Bool} {v_imageRows : Int32} {v_imageColumns : Int32} {v_imageFolded : Int32} {v_imageWronged : Int32} {v_bodies : Int32} {v_ran : Int32} {v_ownKind : Int32} {v_ownNumber : Int32} {v_limit : List Int32} {v_changeWas : List Int32} {v_changeIs : List Int32} {v_shapeRows : List Int32} {v_shapeColumns : List Int32} {v_row : List Int32} {v_column : List Int32} {v_below : List Int32} {v_face : List Int32} {v_worn : List Int32} {v_lastBend : List Int32} {v_tape : List Int32} {v_text : List Int32} {v_names : List Int32} {v_bends : List Int32} {v_high : List Int32} {v_to : List Int32} {v_pileSize : List Int32} {v_planLine : List Int32} {v_planWay : List Int32} {v_way1 : List Int32} {v_bestWay : List Int32} {v_order1 : List Int32} {v_placeIn : List Int32} {v_bodyKind : List Int32} {v_trace : List Int32} {v_shelf : List Int32} {v_many : List Int32} {v_items : List Int64} {v_carried : List Int64} {r : Int32} {w_base : Int32} {w_at : Int32} {w_ends : Int32} {w_fault : Int32} {w_opened : Int32} {w_bentMany : Int32} {w_bentWrong : Int32} {w_moreWorn : Int32} {w_allWrong : Int32} {w_allWorn : Int32} {w_z : Int32} {w_shapeRows : List Int32} {w_shapeColumns : List Int32} {w_row : List Int32} {w_column : List Int32} {w_below : List Int32} {w_face : List Int32} {w_worn : List Int32} {w_lastBend : List Int32} {w_names : List Int32} {w_bends : List Int32} {w_high : List Int32} {w_to : List Int32} {w_pileSize : List Int32} {N d : Nat} (hd : 62 ≤ d) (hf : fX9_top N x1 x2 v_rowsOf v_columnsOf v_textMany v_base v_at v_ends v_fault v_opened v_bentMany v_bentWrong v_moreWorn v_planned v_allWrong v_allWorn v_z v_limit v_shapeRows v_shapeColumns v_row v_column v_below v_face v_worn v_lastBend v_tape v_text v_names v_bends v_high v_to v_pileSize v_planLine v_planWay = some (r, w_base, w_at, w_ends, w_fault, w_opened, w_bentMany, w_bentWrong, w_moreWorn, w_allWrong, w_allWorn, w_z, w_shapeRows, w_shapeColumns, w_row, w_column, w_below, w_face, w_worn, w_lastBend, w_names, w_bends, w_high, w_to, w_pileSize)) : mm_Ct l yX9_top cX9_top 3 (some .int) d D (mm_T cI cL cS cH) [.ref (a 0), .int x1, .int x2] (wd_X9 cI cL cS cH a v_keptMany v_done v_rowsOf v_columnsOf v_folded v_wronged v_tapeMany v_textMany v_base v_at v_ends v_fault v_opened v_bentMany v_bentWrong v_moreWorn v_planned v_allWrong v_allWorn v_z v_wishedField v_isFound v_bestWrong v_bestWorn v_bestMany v_soughtBy v_sought v_soughtAt v_foundMany v_foundOrder v_isKept v_imageRows v_imageColumns v_imageFolded v_imageWronged v_bodies v_ran v_ownKind v_ownNumber v_limit v_changeWas v_changeIs v_shapeRows v_shapeColumns v_row v_column v_below v_face v_worn v_lastBend v_tape v_text v_names v_bends v_high v_to v_pileSize v_planLine v_planWay v_way1 v_bestWay v_order1 v_placeIn v_bodyKind v_trace v_shelf v_many v_items v_carried) (wd_X9 cI cL cS cH a v_keptMany v_done v_rowsOf v_columnsOf v_folded v_wronged v_tapeMany v_textMany w_base w_at w_ends w_fault w_opened w_bentMany w_bentWrong w_moreWorn v_planned w_allWrong w_allWorn w_z v_wishedField v_isFound v_bestWrong v_bestWorn v_bestMany v_soughtBy v_sought v_soughtAt v_foundMany v_foundOrder v_isKept v_imageRows v_imageColumns v_imageFolded v_imageWronged v_bodies v_ran v_ownKind v_ownNumber v_limit v_changeWas v_changeIs w_shapeRows w_shapeColumns w_row w_column w_below w_face w_worn w_lastBend v_tape v_text w_names w_bends w_high w_to w_pileSize v_planLine v_planWay v_way1 v_bestWay v_order1 v_placeIn v_bodyKind v_trace v_shelf v_many v_items v_carried) (some (.int r)) := by
  refine mm_of (by decide) (Nat.le_of_ble_eq_true rfl) ?_
  intro p e s m args below meth c A H locs ls C0 hP hD hA hS hl
  have C0 : mm_Cx p s m args meth c RX9 cX9_top 3 (some .int) D (mm_T cI cL cS cH) A := C0
  obtain ⟨hx, hb, hml, hown, hts, hr, hlocks, hK, hSt⟩ := id C0
  have hl : lv_has ls 3 [(0, .ref (a 0)), (1, .int x1), (2, .int x2)] := hl
  unfold fX9_top at hf
  refine lv_aload_n hx hb dX9_top_0 rfl (lv_at hl 0 rfl) ?_
  refine lv_iload_n hx hb dX9_top_1 rfl (lv_at hl 1 rfl) ?_
  refine mm_ct25 hf (fun r_1 w_2 w_3 w_4 w_5 w_6 w_7 w_8 w_9 w_10 w_11 w_12 w_13 w_14 w_15 w_16 w_17 w_18 w_19 w_20 w_21 w_22 w_23 w_24 w_25 hc_26 hf => ?_)
  refine mm_callVF (q0 := 0) (ci := 9) (rest := []) C0 lk_X9_295 (ctX9_isBehind (a := a) (d := d - 1) (by omega) hc_26) (by omega) rfl hl.1 rfl (mm_cat rfl) dX9_top_2 hP hD hA hS rfl rfl (fun H locs hP hD hS => ?_)
  refine W.eq (g2 := F0 m 5 ls [.int (mm_b r_1)]) rfl ?_
  refine lv_if_eq (tgt := 33) hx hb dX9_top_5 (by decide) (fun c_27 => ?_) (fun c_27 => ?_)
  · have hf := mm_ip hf (mm_b0 c_27)
    refine lv_iconst (v := -1) hx hb dX9_top_33 (by decide) ?_
    apply mm_sub25 hf
    exact mm_iret C0 hP hD hS dX9_top_34
  · have hf := mm_in hf (mm_b1 c_27)
    refine lv_aload_n hx hb dX9_top_8 rfl (lv_at hl 0 rfl) ?_
    refine lv_iconst (v := 1) hx hb dX9_top_9 (by decide) ?_
    refine lv_iload_n hx hb dX9_top_10 rfl (lv_at hl 2 rfl) ?_
    obtain ⟨r_28, hc_29, hf⟩ := mm_bd1s hf
    refine mm_callVF (q0 := 0) (ci := 9) (rest := []) C0 lk_X9_258 (ctX9_isPile (a := a) (d := d - 1) (by omega) hc_29) (by omega) rfl hl.1 rfl (mm_cat rfl) dX9_top_11 hP hD hA hS rfl rfl (fun H locs hP hD hS => ?_)
    refine W.eq (g2 := F0 m 14 ls [.int (mm_b r_28)]) rfl ?_
    refine lv_if_eq (tgt := 33) hx hb dX9_top_14 (by decide) (fun c_30 => ?_) (fun c_30 => ?_)
    · have hf := mm_ip hf (mm_b0 c_30)
      refine lv_iconst (v := -1) hx hb dX9_top_33 (by decide) ?_
      apply mm_sub25 hf
      exact mm_iret C0 hP hD hS dX9_top_34
    · have hf := mm_in hf (mm_b1 c_30)
      refine lv_aload_n hx hb dX9_top_17 rfl (lv_at hl 0 rfl) ?_
      refine lv_iconst (v := 1) hx hb dX9_top_18 (by decide) ?_
      refine lv_iload_n hx hb dX9_top_19 rfl (lv_at hl 2 rfl) ?_
      refine lv_bipush (v := 10) hx hb dX9_top_20 (by decide) ?_
      obtain ⟨h_31, hf⟩ := mm_cks hf
      refine lv_idiv hx hb dX9_top_22 (mm_nzs h_31) ?_
      refine lv_iload_n hx hb dX9_top_23 rfl (lv_at hl 2 rfl) ?_
      refine lv_bipush (v := 10) hx hb dX9_top_24 (by decide) ?_
      obtain ⟨h_32, hf⟩ := mm_cks hf
      refine lv_irem hx hb dX9_top_26 (mm_nzs h_32) ?_
      obtain ⟨r_33, hc_34, hf⟩ := mm_bd1s hf
      refine mm_callVF (q0 := 0) (ci := 9) (rest := []) C0 lk_X9_298 (ctX9_topOf (a := a) (d := d - 1) (by omega) hc_34) (by omega) rfl hl.1 rfl (mm_cat rfl) dX9_top_27 hP hD hA hS rfl rfl (fun H locs hP hD hS => ?_)
      refine W.eq (g2 := F0 m 30 ls [.int r_33]) rfl ?_
      refine lv_goto (tgt := 34) hx hb dX9_top_30 (by decide) ?_
      apply mm_sub25 hf
      exact mm_iret C0 hP hD hS dX9_top_34

theorem dX9_isOnTop_0 : decode cX9_isOnTop 0 = .ok (.aload_n 0, 1) := by decide +kernel
theorem dX9_isOnTop_1 : decode cX9_isOnTop 1 = .ok (.iload_n 1, 1) := by decide +kernel
theorem dX9_isOnTop_2 : decode cX9_isOnTop 2 = .ok (.aload_n 0, 1) := by decide +kernel
theorem dX9_isOnTop_3 : decode cX9_isOnTop 3 = .ok (.getfield 25, 3) := by decide +kernel
theorem dX9_isOnTop_6 : decode cX9_isOnTop 6 = .ok (.bipush 32, 2) := by decide +kernel
theorem dX9_isOnTop_8 : decode cX9_isOnTop 8 = .ok (.iload_n 1, 1) := by decide +kernel
theorem dX9_isOnTop_9 : decode cX9_isOnTop 9 = .ok (.imul, 1) := by decide +kernel
theorem dX9_isOnTop_10 : decode cX9_isOnTop 10 = .ok (.iload_n 2, 1) := by decide +kernel
theorem dX9_isOnTop_11 : decode cX9_isOnTop 11 = .ok (.iadd, 1) := by decide +kernel
theorem dX9_isOnTop_12 : decode cX9_isOnTop 12 = .ok (.iaload, 1) := by decide +kernel
theorem dX9_isOnTop_13 : decode cX9_isOnTop 13 = .ok (.aload_n 0, 1) := by decide +kernel
theorem dX9_isOnTop_14 : decode cX9_isOnTop 14 = .ok (.getfield 28, 3) := by decide +kernel
theorem dX9_isOnTop_17 : decode cX9_isOnTop 17 = .ok (.bipush 32, 2) := by decide +kernel
theorem dX9_isOnTop_19 : decode cX9_isOnTop 19 = .ok (.iload_n 1, 1) := by decide +kernel
theorem dX9_isOnTop_20 : decode cX9_isOnTop 20 = .ok (.imul, 1) := by decide +kernel
theorem dX9_isOnTop_21 : decode cX9_isOnTop 21 = .ok (.iload_n 2, 1) := by decide +kernel
theorem dX9_isOnTop_22 : decode cX9_isOnTop 22 = .ok (.iadd, 1) := by decide +kernel
theorem dX9_isOnTop_23 : decode cX9_isOnTop 23 = .ok (.iaload, 1) := by decide +kernel
theorem dX9_isOnTop_24 : decode cX9_isOnTop 24 = .ok (.invokevirtual 298, 3) := by decide +kernel
theorem dX9_isOnTop_27 : decode cX9_isOnTop 27 = .ok (.iload_n 2, 1) := by decide +kernel
theorem dX9_isOnTop_28 : decode cX9_isOnTop 28 = .ok (.if_icmp .ne 7, 3) := by decide +kernel
theorem dX9_isOnTop_31 : decode cX9_isOnTop 31 = .ok (.iconst 1, 1) := by decide +kernel
theorem dX9_isOnTop_32 : decode cX9_isOnTop 32 = .ok (.goto 4, 3) := by decide +kernel
theorem dX9_isOnTop_35 : decode cX9_isOnTop 35 = .ok (.iconst 0, 1) := by decide +kernel
theorem dX9_isOnTop_36 : decode cX9_isOnTop 36 = .ok (.ireturn, 1) := by decide +kernel
def fX9_isOnTop (N : Nat) (x1 : Int32) (x2 : Int32) (v_rowsOf : Int32) (v_columnsOf : Int32) (v_row : List Int32) (v_column : List Int32) (v_below : List Int32) : Option (Bool) :=
    mm_ck (mm_inb (((32 : Int32) * x1) + x2) v_row.length) (mm_ck (mm_inb (((32 : Int32) * x1) + x2) v_column.length) (mm_bd1 (fX9_topOf N x1 (mm_ig v_row (((32 : Int32) * x1) + x2)) (mm_ig v_column (((32 : Int32) * x1) + x2)) v_rowsOf v_columnsOf v_row v_column v_below) (fun (r_3 : Int32) =>
    if r_3 = x2 then
    (some (true))
    else (some (false)))))

set_option maxHeartbeats 4000000 in
set_option maxRecDepth 100000 in
theorem ctX9_isOnTop {l : Launch} {D : va_G} {cI cL cS cH : ClassId} {a : Nat → Nat} {x1 : Int32} {x2 : Int32} {v_keptMany : Int32} {v_done : Int32} {v_rowsOf : Int32} {v_columnsOf : Int32} {v_folded : Int32} {v_wronged : Int32} {v_tapeMany : Int32} {v_textMany : Int32} {v_base : Int32} {v_at : Int32} {v_ends : Int32} {v_fault : Int32} {v_opened : Int32} {v_bentMany : Int32} {v_bentWrong : Int32} {v_moreWorn : Int32} {v_planned : Int32} {v_allWrong : Int32} {v_allWorn : Int32} {v_z : Int32} {v_wishedField : Int32} {v_isFound : Bool} {v_bestWrong : Int32} {v_bestWorn : Int32} {v_bestMany : Int32} {v_soughtBy : Int32} {v_sought : Int32} {v_soughtAt : Int32} {v_foundMany : Int32} {v_foundOrder : Int32} {v_isKept : Bool} {v_imageRows : Int32} {v_imageColumns : Int32} {v_imageFolded : Int32} {v_imageWronged : Int32} {v_bodies : Int32} {v_ran : Int32} {v_ownKind : Int32} {v_ownNumber : Int32} {v_limit : List Int32} {v_changeWas : List Int32} {v_changeIs : List Int32} {v_shapeRows : List Int32} {v_shapeColumns : List Int32} {v_row : List Int32} {v_column : List Int32} {v_below : List Int32} {v_face : List Int32} {v_worn : List Int32} {v_lastBend : List Int32} {v_tape : List Int32} {v_text : List Int32} {v_names : List Int32} {v_bends : List Int32} {v_high : List Int32} {v_to : List Int32} {v_pileSize : List Int32} {v_planLine : List Int32} {v_planWay : List Int32} {v_way1 : List Int32} {v_bestWay : List Int32} {v_order1 : List Int32} {v_placeIn : List Int32} {v_bodyKind : List Int32} {v_trace : List Int32} {v_shelf : List Int32} {v_many : List Int32} {v_items : List Int64} {v_carried : List Int64} {r : Bool} {N d : Nat} (hd : 4 ≤ d) (hf : fX9_isOnTop N x1 x2 v_rowsOf v_columnsOf v_row v_column v_below = some r) : mm_Ct l yX9_isOnTop cX9_isOnTop 3 (some .boolean) d D (mm_T cI cL cS cH) [.ref (a 0), .int x1, .int x2] (wd_X9 cI cL cS cH a v_keptMany v_done v_rowsOf v_columnsOf v_folded v_wronged v_tapeMany v_textMany v_base v_at v_ends v_fault v_opened v_bentMany v_bentWrong v_moreWorn v_planned v_allWrong v_allWorn v_z v_wishedField v_isFound v_bestWrong v_bestWorn v_bestMany v_soughtBy v_sought v_soughtAt v_foundMany v_foundOrder v_isKept v_imageRows v_imageColumns v_imageFolded v_imageWronged v_bodies v_ran v_ownKind v_ownNumber v_limit v_changeWas v_changeIs v_shapeRows v_shapeColumns v_row v_column v_below v_face v_worn v_lastBend v_tape v_text v_names v_bends v_high v_to v_pileSize v_planLine v_planWay v_way1 v_bestWay v_order1 v_placeIn v_bodyKind v_trace v_shelf v_many v_items v_carried) (wd_X9 cI cL cS cH a v_keptMany v_done v_rowsOf v_columnsOf v_folded v_wronged v_tapeMany v_textMany v_base v_at v_ends v_fault v_opened v_bentMany v_bentWrong v_moreWorn v_planned v_allWrong v_allWorn v_z v_wishedField v_isFound v_bestWrong v_bestWorn v_bestMany v_soughtBy v_sought v_soughtAt v_foundMany v_foundOrder v_isKept v_imageRows v_imageColumns v_imageFolded v_imageWronged v_bodies v_ran v_ownKind v_ownNumber v_limit v_changeWas v_changeIs v_shapeRows v_shapeColumns v_row v_column v_below v_face v_worn v_lastBend v_tape v_text v_names v_bends v_high v_to v_pileSize v_planLine v_planWay v_way1 v_bestWay v_order1 v_placeIn v_bodyKind v_trace v_shelf v_many v_items v_carried) (some (.int (mm_b r))) := by
  refine mm_of (by decide) (Nat.le_of_ble_eq_true rfl) ?_
  intro p e s m args below meth c A H locs ls C0 hP hD hA hS hl
  have C0 : mm_Cx p s m args meth c RX9 cX9_isOnTop 3 (some .boolean) D (mm_T cI cL cS cH) A := C0
  obtain ⟨hx, hb, hml, hown, hts, hr, hlocks, hK, hSt⟩ := id C0
  have hl : lv_has ls 3 [(0, .ref (a 0)), (1, .int x1), (2, .int x2)] := hl
  unfold fX9_isOnTop at hf
  refine lv_aload_n hx hb dX9_isOnTop_0 rfl (lv_at hl 0 rfl) ?_
  refine lv_iload_n hx hb dX9_isOnTop_1 rfl (lv_at hl 1 rfl) ?_
  refine lv_aload_n hx hb dX9_isOnTop_2 rfl (lv_at hl 0 rfl) ?_
  refine mm_get C0 hP iw_X9 0 rfl rfl 9 (by decide) fl_X9_25 rfl dX9_isOnTop_3 ?_
  refine lv_bipush (v := 32) hx hb dX9_isOnTop_6 (by decide) ?_
  refine lv_iload_n hx hb dX9_isOnTop_8 rfl (lv_at hl 1 rfl) ?_
  refine lv_imul hx hb dX9_isOnTop_9 ?_
  refine lv_iload_n hx hb dX9_isOnTop_10 rfl (lv_at hl 2 rfl) ?_
  refine lv_iadd hx hb dX9_isOnTop_11 ?_
  obtain ⟨h_1, hf⟩ := mm_cks hf
  refine mm_iald C0 hP 6 rfl h_1 dX9_isOnTop_12 ?_
  refine lv_aload_n hx hb dX9_isOnTop_13 rfl (lv_at hl 0 rfl) ?_
  refine mm_get C0 hP iw_X9 0 rfl rfl 10 (by decide) fl_X9_28 rfl dX9_isOnTop_14 ?_
  refine lv_bipush (v := 32) hx hb dX9_isOnTop_17 (by decide) ?_
  refine lv_iload_n hx hb dX9_isOnTop_19 rfl (lv_at hl 1 rfl) ?_
  refine lv_imul hx hb dX9_isOnTop_20 ?_
  refine lv_iload_n hx hb dX9_isOnTop_21 rfl (lv_at hl 2 rfl) ?_
  refine lv_iadd hx hb dX9_isOnTop_22 ?_
  obtain ⟨h_2, hf⟩ := mm_cks hf
  refine mm_iald C0 hP 7 rfl h_2 dX9_isOnTop_23 ?_
  obtain ⟨r_3, hc_4, hf⟩ := mm_bd1s hf
  refine mm_callVF (q0 := 0) (ci := 9) (rest := []) C0 lk_X9_298 (ctX9_topOf (a := a) (d := d - 1) (by omega) hc_4) (by omega) rfl hl.1 rfl (mm_cat rfl) dX9_isOnTop_24 hP hD hA hS rfl rfl (fun H locs hP hD hS => ?_)
  refine W.eq (g2 := F0 m 27 ls [.int r_3]) rfl ?_
  refine lv_iload_n hx hb dX9_isOnTop_27 rfl (lv_at hl 2 rfl) ?_
  refine lv_icmp_ne (tgt := 35) hx hb dX9_isOnTop_28 (by decide) (fun c_5 => ?_) (fun c_5 => ?_)
  · have hf := mm_in hf c_5
    refine lv_iconst (v := 0) hx hb dX9_isOnTop_35 (by decide) ?_
    obtain rfl := mm_inj1 hf
    exact mm_zret (v := false) C0 hP hD hS dX9_isOnTop_36 (by decide)
  · have hf := mm_ip hf c_5
    refine lv_iconst (v := 1) hx hb dX9_isOnTop_31 (by decide) ?_
    refine lv_goto (tgt := 36) hx hb dX9_isOnTop_32 (by decide) ?_
    obtain rfl := mm_inj1 hf
    exact mm_zret (v := true) C0 hP hD hS dX9_isOnTop_36 (by decide)

