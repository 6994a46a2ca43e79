section
/-! reference: X9_goesOrders, X9_seeks, X9_orders, X9_by, X9_with, X9_image, X9_back, X9_isBody, X9_kindOf, X9_body, X9_above -/
theorem nb_dX9_goesOrders_0 : bls_w cX9_goesOrders [(0, [28]), (1, [27]), (2, [160, 0, 11]), (5, [42]), (6, [27]), (7, [21, 4]), (9, [182, 1, 114]), (12, [177]), (13, [3]), (14, [54, 5]), (16, [21, 5]), (18, [27])] := bls_of (by decide +kernel)
theorem dX9_goesOrders_0 : decode cX9_goesOrders 0 = .ok (.iload_n 2, 1) := op_28 nb_dX9_goesOrders_0.1
theorem dX9_goesOrders_1 : decode cX9_goesOrders 1 = .ok (.iload_n 1, 1) := op_27 nb_dX9_goesOrders_0.2.1
set_option maxRecDepth 100000 in
theorem dX9_goesOrders_2 : decode cX9_goesOrders 2 = .ok (.if_icmp .ne 11, 3) := (op_160 nb_dX9_goesOrders_0.2.2.1).trans rfl
theorem dX9_goesOrders_5 : decode cX9_goesOrders 5 = .ok (.aload_n 0, 1) := op_42 nb_dX9_goesOrders_0.2.2.2.1
theorem dX9_goesOrders_6 : decode cX9_goesOrders 6 = .ok (.iload_n 1, 1) := op_27 nb_dX9_goesOrders_0.2.2.2.2.1
set_option maxRecDepth 100000 in
theorem dX9_goesOrders_7 : decode cX9_goesOrders 7 = .ok (.iload 4, 2) := (op_21 nb_dX9_goesOrders_0.2.2.2.2.2.1).trans rfl
set_option maxRecDepth 100000 in
theorem dX9_goesOrders_9 : decode cX9_goesOrders 9 = .ok (.invokevirtual 370, 3) := (op_182 nb_dX9_goesOrders_0.2.2.2.2.2.2.1).trans rfl
theorem dX9_goesOrders_12 : decode cX9_goesOrders 12 = .ok (.return_, 1) := op_177 nb_dX9_goesOrders_0.2.2.2.2.2.2.2.1
theorem dX9_goesOrders_13 : decode cX9_goesOrders 13 = .ok (.iconst 0, 1) := op_3 nb_dX9_goesOrders_0.2.2.2.2.2.2.2.2.1
set_option maxRecDepth 100000 in
theorem dX9_goesOrders_14 : decode cX9_goesOrders 14 = .ok (.istore 5, 2) := (op_54 nb_dX9_goesOrders_0.2.2.2.2.2.2.2.2.2.1).trans rfl
set_option maxRecDepth 100000 in
theorem dX9_goesOrders_16 : decode cX9_goesOrders 16 = .ok (.iload 5, 2) := (op_21 nb_dX9_goesOrders_0.2.2.2.2.2.2.2.2.2.2.1).trans rfl
theorem dX9_goesOrders_18 : decode cX9_goesOrders 18 = .ok (.iload_n 1, 1) := op_27 nb_dX9_goesOrders_0.2.2.2.2.2.2.2.2.2.2.2.1
theorem nb_dX9_goesOrders_19 : bls_w cX9_goesOrders [(19, [162, 0, 58]), (22, [29]), (23, [21, 5]), (25, [122]), (26, [4]), (27, [126]), (28, [154, 0, 43]), (31, [42]), (32, [180, 0, 76]), (35, [28]), (36, [21, 5]), (38, [79])] := bls_of (by decide +kernel)
set_option maxRecDepth 100000 in
theorem dX9_goesOrders_19 : decode cX9_goesOrders 19 = .ok (.if_icmp .ge 58, 3) := (op_162 nb_dX9_goesOrders_19.1).trans rfl
theorem dX9_goesOrders_22 : decode cX9_goesOrders 22 = .ok (.iload_n 3, 1) := op_29 nb_dX9_goesOrders_19.2.1
set_option maxRecDepth 100000 in
theorem dX9_goesOrders_23 : decode cX9_goesOrders 23 = .ok (.iload 5, 2) := (op_21 nb_dX9_goesOrders_19.2.2.1).trans rfl
theorem dX9_goesOrders_25 : decode cX9_goesOrders 25 = .ok (.ishr, 1) := op_122 nb_dX9_goesOrders_19.2.2.2.1
theorem dX9_goesOrders_26 : decode cX9_goesOrders 26 = .ok (.iconst 1, 1) := op_4 nb_dX9_goesOrders_19.2.2.2.2.1
theorem dX9_goesOrders_27 : decode cX9_goesOrders 27 = .ok (.iand, 1) := op_126 nb_dX9_goesOrders_19.2.2.2.2.2.1
set_option maxRecDepth 100000 in
theorem dX9_goesOrders_28 : decode cX9_goesOrders 28 = .ok (.ifCond .ne 43, 3) := (op_154 nb_dX9_goesOrders_19.2.2.2.2.2.2.1).trans rfl
theorem dX9_goesOrders_31 : decode cX9_goesOrders 31 = .ok (.aload_n 0, 1) := op_42 nb_dX9_goesOrders_19.2.2.2.2.2.2.2.1
set_option maxRecDepth 100000 in
theorem dX9_goesOrders_32 : decode cX9_goesOrders 32 = .ok (.getfield 76, 3) := (op_180 nb_dX9_goesOrders_19.2.2.2.2.2.2.2.2.1).trans rfl
theorem dX9_goesOrders_35 : decode cX9_goesOrders 35 = .ok (.iload_n 2, 1) := op_28 nb_dX9_goesOrders_19.2.2.2.2.2.2.2.2.2.1
set_option maxRecDepth 100000 in
theorem dX9_goesOrders_36 : decode cX9_goesOrders 36 = .ok (.iload 5, 2) := (op_21 nb_dX9_goesOrders_19.2.2.2.2.2.2.2.2.2.2.1).trans rfl
theorem dX9_goesOrders_38 : decode cX9_goesOrders 38 = .ok (.iastore, 1) := op_79 nb_dX9_goesOrders_19.2.2.2.2.2.2.2.2.2.2.2.1
theorem nb_dX9_goesOrders_39 : bls_w cX9_goesOrders [(39, [42]), (40, [180, 0, 79]), (43, [21, 5]), (45, [28]), (46, [79]), (47, [42]), (48, [27]), (49, [28]), (50, [4]), (51, [96]), (52, [29]), (53, [4])] := bls_of (by decide +kernel)
theorem dX9_goesOrders_39 : decode cX9_goesOrders 39 = .ok (.aload_n 0, 1) := op_42 nb_dX9_goesOrders_39.1
set_option maxRecDepth 100000 in
theorem dX9_goesOrders_40 : decode cX9_goesOrders 40 = .ok (.getfield 79, 3) := (op_180 nb_dX9_goesOrders_39.2.1).trans rfl
set_option maxRecDepth 100000 in
theorem dX9_goesOrders_43 : decode cX9_goesOrders 43 = .ok (.iload 5, 2) := (op_21 nb_dX9_goesOrders_39.2.2.1).trans rfl
theorem dX9_goesOrders_45 : decode cX9_goesOrders 45 = .ok (.iload_n 2, 1) := op_28 nb_dX9_goesOrders_39.2.2.2.1
theorem dX9_goesOrders_46 : decode cX9_goesOrders 46 = .ok (.iastore, 1) := op_79 nb_dX9_goesOrders_39.2.2.2.2.1
theorem dX9_goesOrders_47 : decode cX9_goesOrders 47 = .ok (.aload_n 0, 1) := op_42 nb_dX9_goesOrders_39.2.2.2.2.2.1
theorem dX9_goesOrders_48 : decode cX9_goesOrders 48 = .ok (.iload_n 1, 1) := op_27 nb_dX9_goesOrders_39.2.2.2.2.2.2.1
theorem dX9_goesOrders_49 : decode cX9_goesOrders 49 = .ok (.iload_n 2, 1) := op_28 nb_dX9_goesOrders_39.2.2.2.2.2.2.2.1
theorem dX9_goesOrders_50 : decode cX9_goesOrders 50 = .ok (.iconst 1, 1) := op_4 nb_dX9_goesOrders_39.2.2.2.2.2.2.2.2.1
theorem dX9_goesOrders_51 : decode cX9_goesOrders 51 = .ok (.iadd, 1) := op_96 nb_dX9_goesOrders_39.2.2.2.2.2.2.2.2.2.1
theorem dX9_goesOrders_52 : decode cX9_goesOrders 52 = .ok (.iload_n 3, 1) := op_29 nb_dX9_goesOrders_39.2.2.2.2.2.2.2.2.2.2.1
theorem dX9_goesOrders_53 : decode cX9_goesOrders 53 = .ok (.iconst 1, 1) := op_4 nb_dX9_goesOrders_39.2.2.2.2.2.2.2.2.2.2.2.1
theorem nb_dX9_goesOrders_54 : bls_w cX9_goesOrders [(54, [21, 5]), (56, [120]), (57, [128]), (58, [16, 10]), (60, [21, 4]), (62, [104]), (63, [21, 5]), (65, [96]), (66, [4]), (67, [96]), (68, [182, 1, 117]), (71, [132, 5, 1])] := bls_of (by decide +kernel)
set_option maxRecDepth 100000 in
theorem dX9_goesOrders_54 : decode cX9_goesOrders 54 = .ok (.iload 5, 2) := (op_21 nb_dX9_goesOrders_54.1).trans rfl
theorem dX9_goesOrders_56 : decode cX9_goesOrders 56 = .ok (.ishl, 1) := op_120 nb_dX9_goesOrders_54.2.1
theorem dX9_goesOrders_57 : decode cX9_goesOrders 57 = .ok (.ior, 1) := op_128 nb_dX9_goesOrders_54.2.2.1
set_option maxRecDepth 100000 in
theorem dX9_goesOrders_58 : decode cX9_goesOrders 58 = .ok (.bipush 10, 2) := (op_16 nb_dX9_goesOrders_54.2.2.2.1).trans rfl
set_option maxRecDepth 100000 in
theorem dX9_goesOrders_60 : decode cX9_goesOrders 60 = .ok (.iload 4, 2) := (op_21 nb_dX9_goesOrders_54.2.2.2.2.1).trans rfl
theorem dX9_goesOrders_62 : decode cX9_goesOrders 62 = .ok (.imul, 1) := op_104 nb_dX9_goesOrders_54.2.2.2.2.2.1
set_option maxRecDepth 100000 in
theorem dX9_goesOrders_63 : decode cX9_goesOrders 63 = .ok (.iload 5, 2) := (op_21 nb_dX9_goesOrders_54.2.2.2.2.2.2.1).trans rfl
theorem dX9_goesOrders_65 : decode cX9_goesOrders 65 = .ok (.iadd, 1) := op_96 nb_dX9_goesOrders_54.2.2.2.2.2.2.2.1
theorem dX9_goesOrders_66 : decode cX9_goesOrders 66 = .ok (.iconst 1, 1) := op_4 nb_dX9_goesOrders_54.2.2.2.2.2.2.2.2.1
theorem dX9_goesOrders_67 : decode cX9_goesOrders 67 = .ok (.iadd, 1) := op_96 nb_dX9_goesOrders_54.2.2.2.2.2.2.2.2.2.1
set_option maxRecDepth 100000 in
theorem dX9_goesOrders_68 : decode cX9_goesOrders 68 = .ok (.invokevirtual 373, 3) := (op_182 nb_dX9_goesOrders_54.2.2.2.2.2.2.2.2.2.2.1).trans rfl
set_option maxRecDepth 100000 in
theorem dX9_goesOrders_71 : decode cX9_goesOrders 71 = .ok (.iinc 5 1, 3) := (op_132 nb_dX9_goesOrders_54.2.2.2.2.2.2.2.2.2.2.2.1).trans rfl
theorem nb_dX9_goesOrders_74 : bls_w cX9_goesOrders [(74, [167, 255, 198]), (77, [177])] := bls_of (by decide +kernel)
set_option maxRecDepth 100000 in
theorem dX9_goesOrders_74 : decode cX9_goesOrders 74 = .ok (.goto (-58), 3) := (op_167 nb_dX9_goesOrders_74.1).trans rfl
theorem dX9_goesOrders_77 : decode cX9_goesOrders 77 = .ok (.return_, 1) := op_177 nb_dX9_goesOrders_74.2.1
def fX9_goesOrders_71 (N : Nat) (go : Int32 → Int32 → Int32 → Int32 → Int32 → Int32 → Int32 → Int32 → Int32 → List Int32 → List Int32 → Option (Int32 × Int32 × List Int32 × List Int32)) (k_16 : Int32 → Int32 → Int32 → Int32 → Int32 → Int32 → Int32 → Int32 → Int32 → Int32 → List Int32 → List Int32 → Option (Int32 × Int32 × List Int32 × List Int32)) (x1 : Int32) (x2 : Int32) (x3 : Int32) (x4 : Int32) (x5 : Int32) (v_soughtBy : Int32) (v_sought : Int32) (v_soughtAt : Int32) (v_foundMany : Int32) (v_foundOrder : Int32) (v_order1 : List Int32) (v_placeIn : List Int32) : Option (Int32 × Int32 × List Int32 × List Int32) :=
    mm_nm (x5 + (1 : Int32)) (fun (y_16 : Int32) =>
    k_16 x1 x2 x3 x4 y_16 v_soughtBy v_sought v_soughtAt v_foundMany v_foundOrder v_order1 v_placeIn)

set_option maxHeartbeats 4000000 in
set_option maxRecDepth 100000 in
theorem tX9_goesOrders_71 {p : Program} {l : Launch} {e : Env} {s : State} {m : MethodId} {args : Array Value} {below : List Frame} {meth : Method} {c : Code} {D : va_G} {cI cL cS cH : ClassId} {A : Nat → Prop} {d : Nat} {a : Nat → Nat} {go : Int32 → Int32 → Int32 → Int32 → Int32 → Int32 → Int32 → Int32 → Int32 → List Int32 → List Int32 → Option (Int32 × Int32 × List Int32 × List Int32)} {dgo : Nat} (hgo : ∀ (a : Nat → Nat) (x1 : Int32) (x2 : Int32) (x3 : Int32) (x4 : Int32) (v_keptMany : Int32) (v_done : Int32) (v_rowsOf : Int32) (v_columnsOf : Int32) (v_folded : Int32) (v_wronged : Int32) (v_tapeMany : Int32) (v_textMany : Int32) (v_base : Int32) (v_at : Int32) (v_ends : Int32) (v_fault : Int32) (v_opened : Int32) (v_bentMany : Int32) (v_bentWrong : Int32) (v_moreWorn : Int32) (v_planned : Int32) (v_allWrong : Int32) (v_allWorn : Int32) (v_z : Int32) (v_wishedField : Int32) (v_isFound : Bool) (v_bestWrong : Int32) (v_bestWorn : Int32) (v_bestMany : Int32) (v_soughtBy : Int32) (v_sought : Int32) (v_soughtAt : Int32) (v_foundMany : Int32) (v_foundOrder : Int32) (v_isKept : Bool) (v_imageRows : Int32) (v_imageColumns : Int32) (v_imageFolded : Int32) (v_imageWronged : Int32) (v_bodies : Int32) (v_ran : Int32) (v_ownKind : Int32) (v_ownNumber : Int32) (v_limit : List Int32) (v_changeWas : List Int32) (v_changeIs : List Int32) (v_shapeRows : List Int32) (v_shapeColumns : List Int32) (v_row : List Int32) (v_column : List Int32) (v_below : List Int32) (v_face : List Int32) (v_worn : List Int32) (v_lastBend : List Int32) (v_tape : List Int32) (v_text : List Int32) (v_names : List Int32) (v_bends : List Int32) (v_high : List Int32) (v_to : List Int32) (v_pileSize : List Int32) (v_planLine : List Int32) (v_planWay : List Int32) (v_way1 : List Int32) (v_bestWay : List Int32) (v_order1 : List Int32) (v_placeIn : List Int32) (v_bodyKind : List Int32) (v_trace : List Int32) (v_shelf : List Int32) (v_many : List Int32) (v_items : List Int64) (v_carried : List Int64) (w_foundMany : Int32) (w_foundOrder : Int32) (w_order1 : List Int32) (w_placeIn : List Int32), go x1 x2 x3 x4 v_soughtBy v_sought v_soughtAt v_foundMany v_foundOrder v_order1 v_placeIn = some (w_foundMany, w_foundOrder, w_order1, w_placeIn) → mm_Ct l yX9_goesOrders cX9_goesOrders 6 none dgo D (mm_T cI cL cS cH) [.ref (a 0), .int x1, .int x2, .int x3, .int x4] (wd_X9 cI cL cS cH a v_keptMany v_done v_rowsOf v_columnsOf v_folded v_wronged v_tapeMany v_textMany v_base v_at v_ends v_fault v_opened v_bentMany v_bentWrong v_moreWorn v_planned v_allWrong v_allWorn v_z v_wishedField v_isFound v_bestWrong v_bestWorn v_bestMany v_soughtBy v_sought v_soughtAt v_foundMany v_foundOrder v_isKept v_imageRows v_imageColumns v_imageFolded v_imageWronged v_bodies v_ran v_ownKind v_ownNumber v_limit v_changeWas v_changeIs v_shapeRows v_shapeColumns v_row v_column v_below v_face v_worn v_lastBend v_tape v_text v_names v_bends v_high v_to v_pileSize v_planLine v_planWay v_way1 v_bestWay v_order1 v_placeIn v_bodyKind v_trace v_shelf v_many v_items v_carried) (wd_X9 cI cL cS cH a v_keptMany v_done v_rowsOf v_columnsOf v_folded v_wronged v_tapeMany v_textMany v_base v_at v_ends v_fault v_opened v_bentMany v_bentWrong v_moreWorn v_planned v_allWrong v_allWorn v_z v_wishedField v_isFound v_bestWrong v_bestWorn v_bestMany v_soughtBy v_sought v_soughtAt w_foundMany w_foundOrder v_isKept v_imageRows v_imageColumns v_imageFolded v_imageWronged v_bodies v_ran v_ownKind v_ownNumber v_limit v_changeWas v_changeIs v_shapeRows v_shapeColumns v_row v_column v_below v_face v_worn v_lastBend v_tape v_text v_names v_bends v_high v_to v_pileSize v_planLine v_planWay v_way1 v_bestWay w_order1 w_placeIn v_bodyKind v_trace v_shelf v_many v_items v_carried) none) (hE : 4 ≤ dgo) (hd : dgo + 1 ≤ d) (C0 : mm_Cx p s m args meth c RX9 cX9_goesOrders 6 none D (mm_T cI cL cS cH) A) (hA : ∀ q, s.heap.size ≤ q → A q) {v_keptMany : Int32} {v_done : Int32} {v_rowsOf : Int32} {v_columnsOf : Int32} {v_folded : Int32} {v_wronged : Int32} {v_tapeMany : Int32} {v_textMany : Int32} {v_base : Int32} {v_at : Int32} {v_ends : Int32} {v_fault : Int32} {v_opened : Int32} {v_bentMany : Int32} {v_bentWrong : Int32} {v_moreWorn : Int32} {v_planned : Int32} {v_allWrong : Int32} {v_allWorn : Int32} {v_z : Int32} {v_wishedField : Int32} {v_isFound : Bool} {v_bestWrong : Int32} {v_bestWorn : Int32} {v_bestMany : Int32} {v_isKept : Bool} {v_imageRows : Int32} {v_imageColumns : Int32} {v_imageFolded : Int32} {v_imageWronged : Int32} {v_bodies : Int32} {v_ran : Int32} {v_ownKind : Int32} {v_ownNumber : Int32} {v_limit : List Int32} {v_changeWas : List Int32} {v_changeIs : List Int32} {v_shapeRows : List Int32} {v_shapeColumns : List Int32} {v_row : List Int32} {v_column : List Int32} {v_below : List Int32} {v_face : List Int32} {v_worn : List Int32} {v_lastBend : List Int32} {v_tape : List Int32} {v_text : List Int32} {v_names : List Int32} {v_bends : List Int32} {v_high : List Int32} {v_to : List Int32} {v_pileSize : List Int32} {v_planLine : List Int32} {v_planWay : List Int32} {v_way1 : List Int32} {v_bestWay : List Int32} {v_bodyKind : List Int32} {v_trace : List Int32} {v_shelf : List Int32} {v_many : List Int32} {v_items : List Int64} {v_carried : List Int64} {w_foundMany : Int32} {w_foundOrder : Int32} {w_order1 : List Int32} {w_placeIn : List Int32} (N : Nat) {k_16 : Int32 → Int32 → Int32 → Int32 → Int32 → Int32 → Int32 → Int32 → Int32 → Int32 → List Int32 → List Int32 → Option (Int32 × Int32 × List Int32 × List Int32)} (hk_16 : ∀ (x1 : Int32) (x2 : Int32) (x3 : Int32) (x4 : Int32) (x5 : Int32) (v_soughtBy : Int32) (v_sought : Int32) (v_soughtAt : Int32) (v_foundMany : Int32) (v_foundOrder : Int32) (v_order1 : List Int32) (v_placeIn : List Int32) (H : Heap) (locs : List Loc) (ls : Array Slot), k_16 x1 x2 x3 x4 x5 v_soughtBy v_sought v_soughtAt v_foundMany v_foundOrder v_order1 v_placeIn = some (w_foundMany, w_foundOrder, w_order1, w_placeIn) → va_P D mm_cl (wd_X9 cI cL cS cH a v_keptMany v_done v_rowsOf v_columnsOf v_folded v_wronged v_tapeMany v_textMany v_base v_at v_ends v_fault v_opened v_bentMany v_bentWrong v_moreWorn v_planned v_allWrong v_allWorn v_z v_wishedField v_isFound v_bestWrong v_bestWorn v_bestMany v_soughtBy v_sought v_soughtAt v_foundMany v_foundOrder v_isKept v_imageRows v_imageColumns v_imageFolded v_imageWronged v_bodies v_ran v_ownKind v_ownNumber v_limit v_changeWas v_changeIs v_shapeRows v_shapeColumns v_row v_column v_below v_face v_worn v_lastBend v_tape v_text v_names v_bends v_high v_to v_pileSize v_planLine v_planWay v_way1 v_bestWay v_order1 v_placeIn v_bodyKind v_trace v_shelf v_many v_items v_carried) H → va_D A (wd_X9 cI cL cS cH a v_keptMany v_done v_rowsOf v_columnsOf v_folded v_wronged v_tapeMany v_textMany v_base v_at v_ends v_fault v_opened v_bentMany v_bentWrong v_moreWorn v_planned v_allWrong v_allWorn v_z v_wishedField v_isFound v_bestWrong v_bestWorn v_bestMany v_soughtBy v_sought v_soughtAt v_foundMany v_foundOrder v_isKept v_imageRows v_imageColumns v_imageFolded v_imageWronged v_bodies v_ran v_ownKind v_ownNumber v_limit v_changeWas v_changeIs v_shapeRows v_shapeColumns v_row v_column v_below v_face v_worn v_lastBend v_tape v_text v_names v_bends v_high v_to v_pileSize v_planLine v_planWay v_way1 v_bestWay v_order1 v_placeIn v_bodyKind v_trace v_shelf v_many v_items v_carried) → va_S A s.heap H locs → lv_has ls 6 [(0, .ref (a 0)), (1, .int x1), (2, .int x2), (3, .int x3), (4, .int x4), (5, .int x5)] → W p l e (mm_rr d) s m args below meth c H locs 0 0 (mm_Z below D A (wd_X9 cI cL cS cH a v_keptMany v_done v_rowsOf v_columnsOf v_folded v_wronged v_tapeMany v_textMany v_base v_at v_ends v_fault v_opened v_bentMany v_bentWrong v_moreWorn v_planned v_allWrong v_allWorn v_z v_wishedField v_isFound v_bestWrong v_bestWorn v_bestMany v_soughtBy v_sought v_soughtAt w_foundMany w_foundOrder v_isKept v_imageRows v_imageColumns v_imageFolded v_imageWronged v_bodies v_ran v_ownKind v_ownNumber v_limit v_changeWas v_changeIs v_shapeRows v_shapeColumns v_row v_column v_below v_face v_worn v_lastBend v_tape v_text v_names v_bends v_high v_to v_pileSize v_planLine v_planWay v_way1 v_bestWay w_order1 w_placeIn v_bodyKind v_trace v_shelf v_many v_items v_carried) none args s) (F0 m 16 ls [])) : ∀ (x1 : Int32) (x2 : Int32) (x3 : Int32) (x4 : Int32) (x5 : Int32) (v_soughtBy : Int32) (v_sought : Int32) (v_soughtAt : Int32) (v_foundMany : Int32) (v_foundOrder : Int32) (v_order1 : List Int32) (v_placeIn : List Int32) (H : Heap) (locs : List Loc) (ls : Array Slot), fX9_goesOrders_71 N go k_16 x1 x2 x3 x4 x5 v_soughtBy v_sought v_soughtAt v_foundMany v_foundOrder v_order1 v_placeIn = some (w_foundMany, w_foundOrder, w_order1, w_placeIn) → va_P D mm_cl (wd_X9 cI cL cS cH a v_keptMany v_done v_rowsOf v_columnsOf v_folded v_wronged v_tapeMany v_textMany v_base v_at v_ends v_fault v_opened v_bentMany v_bentWrong v_moreWorn v_planned v_allWrong v_allWorn v_z v_wishedField v_isFound v_bestWrong v_bestWorn v_bestMany v_soughtBy v_sought v_soughtAt v_foundMany v_foundOrder v_isKept v_imageRows v_imageColumns v_imageFolded v_imageWronged v_bodies v_ran v_ownKind v_ownNumber v_limit v_changeWas v_changeIs v_shapeRows v_shapeColumns v_row v_column v_below v_face v_worn v_lastBend v_tape v_text v_names v_bends v_high v_to v_pileSize v_planLine v_planWay v_way1 v_bestWay v_order1 v_placeIn v_bodyKind v_trace v_shelf v_many v_items v_carried) H → va_D A (wd_X9 cI cL cS cH a v_keptMany v_done v_rowsOf v_columnsOf v_folded v_wronged v_tapeMany v_textMany v_base v_at v_ends v_fault v_opened v_bentMany v_bentWrong v_moreWorn v_planned v_allWrong v_allWorn v_z v_wishedField v_isFound v_bestWrong v_bestWorn v_bestMany v_soughtBy v_sought v_soughtAt v_foundMany v_foundOrder v_isKept v_imageRows v_imageColumns v_imageFolded v_imageWronged v_bodies v_ran v_ownKind v_ownNumber v_limit v_changeWas v_changeIs v_shapeRows v_shapeColumns v_row v_column v_below v_face v_worn v_lastBend v_tape v_text v_names v_bends v_high v_to v_pileSize v_planLine v_planWay v_way1 v_bestWay v_order1 v_placeIn v_bodyKind v_trace v_shelf v_many v_items v_carried) → va_S A s.heap H locs → lv_has ls 6 [(0, .ref (a 0)), (1, .int x1), (2, .int x2), (3, .int x3), (4, .int x4), (5, .int x5)] → W p l e (mm_rr d) s m args below meth c H locs 0 0 (mm_Z below D A (wd_X9 cI cL cS cH a v_keptMany v_done v_rowsOf v_columnsOf v_folded v_wronged v_tapeMany v_textMany v_base v_at v_ends v_fault v_opened v_bentMany v_bentWrong v_moreWorn v_planned v_allWrong v_allWorn v_z v_wishedField v_isFound v_bestWrong v_bestWorn v_bestMany v_soughtBy v_sought v_soughtAt w_foundMany w_foundOrder v_isKept v_imageRows v_imageColumns v_imageFolded v_imageWronged v_bodies v_ran v_ownKind v_ownNumber v_limit v_changeWas v_changeIs v_shapeRows v_shapeColumns v_row v_column v_below v_face v_worn v_lastBend v_tape v_text v_names v_bends v_high v_to v_pileSize v_planLine v_planWay v_way1 v_bestWay w_order1 w_placeIn v_bodyKind v_trace v_shelf v_many v_items v_carried) none args s) (F0 m 71 ls []) := by
  obtain ⟨hx, hb, hml, hown, hts, hr, hlocks, hK, hSt⟩ := id C0
  intro x1 x2 x3 x4 x5 v_soughtBy v_sought v_soughtAt v_foundMany v_foundOrder v_order1 v_placeIn H locs ls hf hP hD hS hl
  unfold fX9_goesOrders_71 at hf
  obtain ⟨y_16, ey_16⟩ : ∃ z : Int32, z = x5 + (1 : Int32) := ⟨_, rfl⟩
  have hf := mm_nms hf ey_16
  refine lv_iinc (v := y_16) (lv' := [(5, .int y_16), (0, .ref (a 0)), (1, .int x1), (2, .int x2), (3, .int x3), (4, .int x4)]) hx hb dX9_goesOrders_71 hl (k := 5) rfl (by rw [ey_16]; rfl) (by decide) rfl (fun ls hl => ?_)
  refine lv_goto (tgt := 16) hx hb dX9_goesOrders_74 (by decide) ?_
  exact hk_16 _ _ _ _ _ _ _ _ _ _ _ _ H locs ls hf hP hD hS (lv_sub hl [1, 2, 3, 4, 5, 0] rfl)

def fX9_goesOrders_16 (N : Nat) (go : Int32 → Int32 → Int32 → Int32 → Int32 → Int32 → Int32 → Int32 → Int32 → List Int32 → List Int32 → Option (Int32 × Int32 × List Int32 × List Int32))  : Nat → Int32 → Int32 → Int32 → Int32 → Int32 → Int32 → Int32 → Int32 → Int32 → Int32 → List Int32 → List Int32 → Option (Int32 × Int32 × List Int32 × List Int32)
  | 0 => fun _ _ _ _ _ _ _ _ _ _ _ _ => none
  | n + 1 => fun x1 x2 x3 x4 x5 v_soughtBy v_sought v_soughtAt v_foundMany v_foundOrder v_order1 v_placeIn =>
    if x1 ≤ x5 then
    (some (v_foundMany, v_foundOrder, v_order1, v_placeIn))
    else (if ((x3 >>> (x5 &&& 31)) &&& (1 : Int32)) = 0 then
    (mm_ck (mm_inb x2 v_order1.length) (mm_nm (mm_is v_order1 x2 x5) (fun (l_8 : List Int32) =>
    mm_ck (mm_inb x5 v_placeIn.length) (mm_nm (mm_is v_placeIn x5 x2) (fun (l_10 : List Int32) =>
    mm_bd4 (go x1 (x2 + (1 : Int32)) (x3 ||| ((1 : Int32) <<< (x5 &&& 31))) ((((10 : Int32) * x4) + x5) + (1 : Int32)) v_soughtBy v_sought v_soughtAt v_foundMany v_foundOrder l_8 l_10) (fun (w_11 : Int32) (w_12 : Int32) (w_13 : List Int32) (w_14 : List Int32) =>
    fX9_goesOrders_71 N go (fX9_goesOrders_16 N go n) x1 x2 x3 x4 x5 v_soughtBy v_sought v_soughtAt w_11 w_12 w_13 w_14))))))
    else (fX9_goesOrders_71 N go (fX9_goesOrders_16 N go n) x1 x2 x3 x4 x5 v_soughtBy v_sought v_soughtAt v_foundMany v_foundOrder v_order1 v_placeIn))

set_option maxHeartbeats 4000000 in
set_option maxRecDepth 100000 in
theorem tX9_goesOrders_16 {p : Program} {l : Launch} {e : Env} {s : State} {m : MethodId} {args : Array Value} {below : List Frame} {meth : Method} {c : Code} {D : va_G} {cI cL cS cH : ClassId} {A : Nat → Prop} {d : Nat} {a : Nat → Nat} {go : Int32 → Int32 → Int32 → Int32 → Int32 → Int32 → Int32 → Int32 → Int32 → List Int32 → List Int32 → Option (Int32 × Int32 × List Int32 × List Int32)} {dgo : Nat} (hgo : ∀ (a : Nat → Nat) (x1 : Int32) (x2 : Int32) (x3 : Int32) (x4 : Int32) (v_keptMany : Int32) (v_done : Int32) (v_rowsOf : Int32) (v_columnsOf : Int32) (v_folded : Int32) (v_wronged : Int32) (v_tapeMany : Int32) (v_textMany : Int32) (v_base : Int32) (v_at : Int32) (v_ends : Int32) (v_fault : Int32) (v_opened : Int32) (v_bentMany : Int32) (v_bentWrong : Int32) (v_moreWorn : Int32) (v_planned : Int32) (v_allWrong : Int32) (v_allWorn : Int32) (v_z : Int32) (v_wishedField : Int32) (v_isFound : Bool) (v_bestWrong : Int32) (v_bestWorn : Int32) (v_bestMany : Int32) (v_soughtBy : Int32) (v_sought : Int32) (v_soughtAt : Int32) (v_foundMany : Int32) (v_foundOrder : Int32) (v_isKept : Bool) (v_imageRows : Int32) (v_imageColumns : Int32) (v_imageFolded : Int32) (v_imageWronged : Int32) (v_bodies : Int32) (v_ran : Int32) (v_ownKind : Int32) (v_ownNumber : Int32) (v_limit : List Int32) (v_changeWas : List Int32) (v_changeIs : List Int32) (v_shapeRows : List Int32) (v_shapeColumns : List Int32) (v_row : List Int32) (v_column : List Int32) (v_below : List Int32) (v_face : List Int32) (v_worn : List Int32) (v_lastBend : List Int32) (v_tape : List Int32) (v_text : List Int32) (v_names : List Int32) (v_bends : List Int32) (v_high : List Int32) (v_to : List Int32) (v_pileSize : List Int32) (v_planLine : List Int32) (v_planWay : List Int32) (v_way1 : List Int32) (v_bestWay : List Int32) (v_order1 : List Int32) (v_placeIn : List Int32) (v_bodyKind : List Int32) (v_trace : List Int32) (v_shelf : List Int32) (v_many : List Int32) (v_items : List Int64) (v_carried : List Int64) (w_foundMany : Int32) (w_foundOrder : Int32) (w_order1 : List Int32) (w_placeIn : List Int32), go x1 x2 x3 x4 v_soughtBy v_sought v_soughtAt v_foundMany v_foundOrder v_order1 v_placeIn = some (w_foundMany, w_foundOrder, w_order1, w_placeIn) → mm_Ct l yX9_goesOrders cX9_goesOrders 6 none dgo D (mm_T cI cL cS cH) [.ref (a 0), .int x1, .int x2, .int x3, .int x4] (wd_X9 cI cL cS cH a v_keptMany v_done v_rowsOf v_columnsOf v_folded v_wronged v_tapeMany v_textMany v_base v_at v_ends v_fault v_opened v_bentMany v_bentWrong v_moreWorn v_planned v_allWrong v_allWorn v_z v_wishedField v_isFound v_bestWrong v_bestWorn v_bestMany v_soughtBy v_sought v_soughtAt v_foundMany v_foundOrder v_isKept v_imageRows v_imageColumns v_imageFolded v_imageWronged v_bodies v_ran v_ownKind v_ownNumber v_limit v_changeWas v_changeIs v_shapeRows v_shapeColumns v_row v_column v_below v_face v_worn v_lastBend v_tape v_text v_names v_bends v_high v_to v_pileSize v_planLine v_planWay v_way1 v_bestWay v_order1 v_placeIn v_bodyKind v_trace v_shelf v_many v_items v_carried) (wd_X9 cI cL cS cH a v_keptMany v_done v_rowsOf v_columnsOf v_folded v_wronged v_tapeMany v_textMany v_base v_at v_ends v_fault v_opened v_bentMany v_bentWrong v_moreWorn v_planned v_allWrong v_allWorn v_z v_wishedField v_isFound v_bestWrong v_bestWorn v_bestMany v_soughtBy v_sought v_soughtAt w_foundMany w_foundOrder v_isKept v_imageRows v_imageColumns v_imageFolded v_imageWronged v_bodies v_ran v_ownKind v_ownNumber v_limit v_changeWas v_changeIs v_shapeRows v_shapeColumns v_row v_column v_below v_face v_worn v_lastBend v_tape v_text v_names v_bends v_high v_to v_pileSize v_planLine v_planWay v_way1 v_bestWay w_order1 w_placeIn v_bodyKind v_trace v_shelf v_many v_items v_carried) none) (hE : 4 ≤ dgo) (hd : dgo + 1 ≤ d) (C0 : mm_Cx p s m args meth c RX9 cX9_goesOrders 6 none D (mm_T cI cL cS cH) A) (hA : ∀ q, s.heap.size ≤ q → A q) {v_keptMany : Int32} {v_done : Int32} {v_rowsOf : Int32} {v_columnsOf : Int32} {v_folded : Int32} {v_wronged : Int32} {v_tapeMany : Int32} {v_textMany : Int32} {v_base : Int32} {v_at : Int32} {v_ends : Int32} {v_fault : Int32} {v_opened : Int32} {v_bentMany : Int32} {v_bentWrong : Int32} {v_moreWorn : Int32} {v_planned : Int32} {v_allWrong : Int32} {v_allWorn : Int32} {v_z : Int32} {v_wishedField : Int32} {v_isFound : Bool} {v_bestWrong : Int32} {v_bestWorn : Int32} {v_bestMany : Int32} {v_isKept : Bool} {v_imageRows : Int32} {v_imageColumns : Int32} {v_imageFolded : Int32} {v_imageWronged : Int32} {v_bodies : Int32} {v_ran : Int32} {v_ownKind : Int32} {v_ownNumber : Int32} {v_limit : List Int32} {v_changeWas : List Int32} {v_changeIs : List Int32} {v_shapeRows : List Int32} {v_shapeColumns : List Int32} {v_row : List Int32} {v_column : List Int32} {v_below : List Int32} {v_face : List Int32} {v_worn : List Int32} {v_lastBend : List Int32} {v_tape : List Int32} {v_text : List Int32} {v_names : List Int32} {v_bends : List Int32} {v_high : List Int32} {v_to : List Int32} {v_pileSize : List Int32} {v_planLine : List Int32} {v_planWay : List Int32} {v_way1 : List Int32} {v_bestWay : List Int32} {v_bodyKind : List Int32} {v_trace : List Int32} {v_shelf : List Int32} {v_many : List Int32} {v_items : List Int64} {v_carried : List Int64} {w_foundMany : Int32} {w_foundOrder : Int32} {w_order1 : List Int32} {w_placeIn : List Int32} (N : Nat)  : ∀ (n : Nat), ∀ (x1 : Int32) (x2 : Int32) (x3 : Int32) (x4 : Int32) (x5 : Int32) (v_soughtBy : Int32) (v_sought : Int32) (v_soughtAt : Int32) (v_foundMany : Int32) (v_foundOrder : Int32) (v_order1 : List Int32) (v_placeIn : List Int32) (H : Heap) (locs : List Loc) (ls : Array Slot), fX9_goesOrders_16 N go n x1 x2 x3 x4 x5 v_soughtBy v_sought v_soughtAt v_foundMany v_foundOrder v_order1 v_placeIn = some (w_foundMany, w_foundOrder, w_order1, w_placeIn) → va_P D mm_cl (wd_X9 cI cL cS cH a v_keptMany v_done v_rowsOf v_columnsOf v_folded v_wronged v_tapeMany v_textMany v_base v_at v_ends v_fault v_opened v_bentMany v_bentWrong v_moreWorn v_planned v_allWrong v_allWorn v_z v_wishedField v_isFound v_bestWrong v_bestWorn v_bestMany v_soughtBy v_sought v_soughtAt v_foundMany v_foundOrder v_isKept v_imageRows v_imageColumns v_imageFolded v_imageWronged v_bodies v_ran v_ownKind v_ownNumber v_limit v_changeWas v_changeIs v_shapeRows v_shapeColumns v_row v_column v_below v_face v_worn v_lastBend v_tape v_text v_names v_bends v_high v_to v_pileSize v_planLine v_planWay v_way1 v_bestWay v_order1 v_placeIn v_bodyKind v_trace v_shelf v_many v_items v_carried) H → va_D A (wd_X9 cI cL cS cH a v_keptMany v_done v_rowsOf v_columnsOf v_folded v_wronged v_tapeMany v_textMany v_base v_at v_ends v_fault v_opened v_bentMany v_bentWrong v_moreWorn v_planned v_allWrong v_allWorn v_z v_wishedField v_isFound v_bestWrong v_bestWorn v_bestMany v_soughtBy v_sought v_soughtAt v_foundMany v_foundOrder v_isKept v_imageRows v_imageColumns v_imageFolded v_imageWronged v_bodies v_ran v_ownKind v_ownNumber v_limit v_changeWas v_changeIs v_shapeRows v_shapeColumns v_row v_column v_below v_face v_worn v_lastBend v_tape v_text v_names v_bends v_high v_to v_pileSize v_planLine v_planWay v_way1 v_bestWay v_order1 v_placeIn v_bodyKind v_trace v_shelf v_many v_items v_carried) → va_S A s.heap H locs → lv_has ls 6 [(0, .ref (a 0)), (1, .int x1), (2, .int x2), (3, .int x3), (4, .int x4), (5, .int x5)] → W p l e (mm_rr d) s m args below meth c H locs 0 0 (mm_Z below D A (wd_X9 cI cL cS cH a v_keptMany v_done v_rowsOf v_columnsOf v_folded v_wronged v_tapeMany v_textMany v_base v_at v_ends v_fault v_opened v_bentMany v_bentWrong v_moreWorn v_planned v_allWrong v_allWorn v_z v_wishedField v_isFound v_bestWrong v_bestWorn v_bestMany v_soughtBy v_sought v_soughtAt w_foundMany w_foundOrder v_isKept v_imageRows v_imageColumns v_imageFolded v_imageWronged v_bodies v_ran v_ownKind v_ownNumber v_limit v_changeWas v_changeIs v_shapeRows v_shapeColumns v_row v_column v_below v_face v_worn v_lastBend v_tape v_text v_names v_bends v_high v_to v_pileSize v_planLine v_planWay v_way1 v_bestWay w_order1 w_placeIn v_bodyKind v_trace v_shelf v_many v_items v_carried) none args s) (F0 m 16 ls []) := by
  obtain ⟨hx, hb, hml, hown, hts, hr, hlocks, hK, hSt⟩ := id C0
  intro n
  induction n with
  | zero =>
    intro x1 x2 x3 x4 x5 v_soughtBy v_sought v_soughtAt v_foundMany v_foundOrder v_order1 v_placeIn H locs ls hf
    cases (show none = some _ from hf)
  | succ n ih =>
    intro x1 x2 x3 x4 x5 v_soughtBy v_sought v_soughtAt v_foundMany v_foundOrder v_order1 v_placeIn H locs ls hf hP hD hS hl
    unfold fX9_goesOrders_16 at hf
    refine lv_iload hx hb dX9_goesOrders_16 (lv_at hl 5 rfl) ?_
    refine lv_iload_n hx hb dX9_goesOrders_18 rfl (lv_at hl 1 rfl) ?_
    refine lv_icmp_ge (tgt := 77) hx hb dX9_goesOrders_19 (by decide) (fun c_5 => ?_) (fun c_5 => ?_)
    · have hf := mm_ip hf c_5
      apply mm_sub4 hf
      exact mm_vret C0 hP hD hS dX9_goesOrders_77
    · have hf := mm_in hf c_5
      refine lv_iload_n hx hb dX9_goesOrders_22 rfl (lv_at hl 3 rfl) ?_
      refine lv_iload hx hb dX9_goesOrders_23 (lv_at hl 5 rfl) ?_
      refine lv_ishr hx hb dX9_goesOrders_25 ?_
      refine lv_iconst (v := 1) hx hb dX9_goesOrders_26 (by decide) ?_
      refine lv_iand hx hb dX9_goesOrders_27 ?_
      refine lv_if_ne (tgt := 71) hx hb dX9_goesOrders_28 (by decide) (fun c_6 => ?_) (fun c_6 => ?_)
      · have hf := mm_in hf c_6
        exact tX9_goesOrders_71 hgo hE hd C0 hA N ih _ _ _ _ _ _ _ _ _ _ _ _ H locs ls hf hP hD hS (lv_sub hl [0, 1, 2, 3, 4, 5] rfl)
      · have hf := mm_ip hf c_6
        refine lv_aload_n hx hb dX9_goesOrders_31 rfl (lv_at hl 0 rfl) ?_
        refine mm_get C0 hP iw_X9 0 rfl rfl 47 (by decide) fl_X9_76 rfl dX9_goesOrders_32 ?_
        refine lv_iload_n hx hb dX9_goesOrders_35 rfl (lv_at hl 2 rfl) ?_
        refine lv_iload hx hb dX9_goesOrders_36 (lv_at hl 5 rfl) ?_
        obtain ⟨h_7, hf⟩ := mm_cks hf
        refine mm_iast C0 hP hD hS 23 rfl h_7 dX9_goesOrders_38 (w2 := (wd_X9 cI cL cS cH a v_keptMany v_done v_rowsOf v_columnsOf v_folded v_wronged v_tapeMany v_textMany v_base v_at v_ends v_fault v_opened v_bentMany v_bentWrong v_moreWorn v_planned v_allWrong v_allWorn v_z v_wishedField v_isFound v_bestWrong v_bestWorn v_bestMany v_soughtBy v_sought v_soughtAt v_foundMany v_foundOrder v_isKept v_imageRows v_imageColumns v_imageFolded v_imageWronged v_bodies v_ran v_ownKind v_ownNumber v_limit v_changeWas v_changeIs v_shapeRows v_shapeColumns v_row v_column v_below v_face v_worn v_lastBend v_tape v_text v_names v_bends v_high v_to v_pileSize v_planLine v_planWay v_way1 v_bestWay (mm_is v_order1 x2 x5) v_placeIn v_bodyKind v_trace v_shelf v_many v_items v_carried)) rfl (fun H locs hP hD hS => ?_)
        generalize el_8 : (mm_is v_order1 x2 x5) = l_8 at hP hD
        have hf := mm_nms hf el_8.symm
        refine lv_aload_n hx hb dX9_goesOrders_39 rfl (lv_at hl 0 rfl) ?_
        refine mm_get C0 hP iw_X9 0 rfl rfl 48 (by decide) fl_X9_79 rfl dX9_goesOrders_40 ?_
        refine lv_iload hx hb dX9_goesOrders_43 (lv_at hl 5 rfl) ?_
        refine lv_iload_n hx hb dX9_goesOrders_45 rfl (lv_at hl 2 rfl) ?_
        obtain ⟨h_9, hf⟩ := mm_cks hf
        refine mm_iast C0 hP hD hS 24 rfl h_9 dX9_goesOrders_46 (w2 := (wd_X9 cI cL cS cH a v_keptMany v_done v_rowsOf v_columnsOf v_folded v_wronged v_tapeMany v_textMany v_base v_at v_ends v_fault v_opened v_bentMany v_bentWrong v_moreWorn v_planned v_allWrong v_allWorn v_z v_wishedField v_isFound v_bestWrong v_bestWorn v_bestMany v_soughtBy v_sought v_soughtAt v_foundMany v_foundOrder v_isKept v_imageRows v_imageColumns v_imageFolded v_imageWronged v_bodies v_ran v_ownKind v_ownNumber v_limit v_changeWas v_changeIs v_shapeRows v_shapeColumns v_row v_column v_below v_face v_worn v_lastBend v_tape v_text v_names v_bends v_high v_to v_pileSize v_planLine v_planWay v_way1 v_bestWay l_8 (mm_is v_placeIn x5 x2) v_bodyKind v_trace v_shelf v_many v_items v_carried)) rfl (fun H locs hP hD hS => ?_)
        generalize el_10 : (mm_is v_placeIn x5 x2) = l_10 at hP hD
        have hf := mm_nms hf el_10.symm
        refine lv_aload_n hx hb dX9_goesOrders_47 rfl (lv_at hl 0 rfl) ?_
        refine lv_iload_n hx hb dX9_goesOrders_48 rfl (lv_at hl 1 rfl) ?_
        refine lv_iload_n hx hb dX9_goesOrders_49 rfl (lv_at hl 2 rfl) ?_
        refine lv_iconst (v := 1) hx hb dX9_goesOrders_50 (by decide) ?_
        refine lv_iadd hx hb dX9_goesOrders_51 ?_
        refine lv_iload_n hx hb dX9_goesOrders_52 rfl (lv_at hl 3 rfl) ?_
        refine lv_iconst (v := 1) hx hb dX9_goesOrders_53 (by decide) ?_
        refine lv_iload hx hb dX9_goesOrders_54 (lv_at hl 5 rfl) ?_
        refine lv_ishl hx hb dX9_goesOrders_56 ?_
        refine lv_ior hx hb dX9_goesOrders_57 ?_
        refine lv_bipush (v := 10) hx hb dX9_goesOrders_58 (by decide) ?_
        refine lv_iload hx hb dX9_goesOrders_60 (lv_at hl 4 rfl) ?_
        refine lv_imul hx hb dX9_goesOrders_62 ?_
        refine lv_iload hx hb dX9_goesOrders_63 (lv_at hl 5 rfl) ?_
        refine lv_iadd hx hb dX9_goesOrders_65 ?_
        refine lv_iconst (v := 1) hx hb dX9_goesOrders_66 (by decide) ?_
        refine lv_iadd hx hb dX9_goesOrders_67 ?_
        obtain ⟨w_11, w_12, w_13, w_14, hc_15, hf⟩ := mm_bd4s hf
        refine mm_callVF (q0 := 0) (ci := 9) (rest := []) C0 lk_X9_373 (hgo a _ _ _ _ _ _ _ _ _ _ _ _ _ _ _ _ _ _ _ _ _ _ _ _ _ _ _ _ _ _ _ _ _ _ _ _ _ _ _ _ _ _ _ _ _ _ _ _ _ _ _ _ _ _ _ _ _ _ _ _ _ _ _ _ _ _ _ _ _ _ _ _ _ _ _ _ _ hc_15) (by omega) rfl hl.1 rfl (mm_cat rfl) dX9_goesOrders_68 hP hD hA hS rfl rfl (fun H locs hP hD hS => ?_)
        refine W.eq (g2 := F0 m 71 ls []) rfl ?_
        exact tX9_goesOrders_71 hgo hE hd C0 hA N ih _ _ _ _ _ _ _ _ _ _ _ _ H locs ls hf hP hD hS (lv_sub hl [0, 1, 2, 3, 4, 5] rfl)

def fX9_goesOrderso (N : Nat) (go : Int32 → Int32 → Int32 → Int32 → Int32 → Int32 → Int32 → Int32 → Int32 → List Int32 → List Int32 → Option (Int32 × Int32 × List Int32 × List Int32)) (x1 : Int32) (x2 : Int32) (x3 : Int32) (x4 : Int32) (v_soughtBy : Int32) (v_sought : Int32) (v_soughtAt : Int32) (v_foundMany : Int32) (v_foundOrder : Int32) (v_order1 : List Int32) (v_placeIn : List Int32) : Option (Int32 × Int32 × List Int32 × List Int32) :=
    if x2 = x1 then
    (mm_bd2 (fX9_looksAt N x1 x4 v_soughtBy v_sought v_soughtAt v_foundMany v_foundOrder v_order1 v_placeIn) (fun (w_2 : Int32) (w_3 : Int32) =>
    some (w_2, w_3, v_order1, v_placeIn)))
    else (fX9_goesOrders_16 N go N x1 x2 x3 x4 (0 : Int32) v_soughtBy v_sought v_soughtAt v_foundMany v_foundOrder v_order1 v_placeIn)

set_option maxHeartbeats 4000000 in
set_option maxRecDepth 100000 in
theorem ctX9_goesOrderso {l : Launch} {D : va_G} {cI cL cS cH : ClassId} {a : Nat → Nat} {x1 : Int32} {x2 : Int32} {x3 : Int32} {x4 : Int32} {v_keptMany : Int32} {v_done : Int32} {v_rowsOf : Int32} {v_columnsOf : Int32} {v_folded : Int32} {v_wronged : Int32} {v_tapeMany : Int32} {v_textMany : Int32} {v_base : Int32} {v_at : Int32} {v_ends : Int32} {v_fault : Int32} {v_opened : Int32} {v_bentMany : Int32} {v_bentWrong : Int32} {v_moreWorn : Int32} {v_planned : Int32} {v_allWrong : Int32} {v_allWorn : Int32} {v_z : Int32} {v_wishedField : Int32} {v_isFound : Bool} {v_bestWrong : Int32} {v_bestWorn : Int32} {v_bestMany : Int32} {v_soughtBy : Int32} {v_sought : Int32} {v_soughtAt : Int32} {v_foundMany : Int32} {v_foundOrder : Int32} {v_isKept : Bool} {v_imageRows : Int32} {v_imageColumns : Int32} {v_imageFolded : Int32} {v_imageWronged : Int32} {v_bodies : Int32} {v_ran : Int32} {v_ownKind : Int32} {v_ownNumber : Int32} {v_limit : List Int32} {v_changeWas : List Int32} {v_changeIs : List Int32} {v_shapeRows : List Int32} {v_shapeColumns : List Int32} {v_row : List Int32} {v_column : List Int32} {v_below : List Int32} {v_face : List Int32} {v_worn : List Int32} {v_lastBend : List Int32} {v_tape : List Int32} {v_text : List Int32} {v_names : List Int32} {v_bends : List Int32} {v_high : List Int32} {v_to : List Int32} {v_pileSize : List Int32} {v_planLine : List Int32} {v_planWay : List Int32} {v_way1 : List Int32} {v_bestWay : List Int32} {v_order1 : List Int32} {v_placeIn : List Int32} {v_bodyKind : List Int32} {v_trace : List Int32} {v_shelf : List Int32} {v_many : List Int32} {v_items : List Int64} {v_carried : List Int64} {w_foundMany : Int32} {w_foundOrder : Int32} {w_order1 : List Int32} {w_placeIn : List Int32} {N d : Nat} {go : Int32 → Int32 → Int32 → Int32 → Int32 → Int32 → Int32 → Int32 → Int32 → List Int32 → List Int32 → Option (Int32 × Int32 × List Int32 × List Int32)} {dgo : Nat} (hgo : ∀ (a : Nat → Nat) (x1 : Int32) (x2 : Int32) (x3 : Int32) (x4 : Int32) (v_keptMany : Int32) (v_done : Int32) (v_rowsOf : Int32) (v_columnsOf : Int32) (v_folded : Int32) (v_wronged : Int32) (v_tapeMany : Int32) (v_textMany : Int32) (v_base : Int32) (v_at : Int32) (v_ends : Int32) (v_fault : Int32) (v_opened : Int32) (v_bentMany : Int32) (v_bentWrong : Int32) (v_moreWorn : Int32) (v_planned : Int32) (v_allWrong : Int32) (v_allWorn : Int32) (v_z : Int32) (v_wishedField : Int32) (v_isFound : Bool) (v_bestWrong : Int32) (v_bestWorn : Int32) (v_bestMany : Int32) (v_soughtBy : Int32) (v_sought : Int32) (v_soughtAt : Int32) (v_foundMany : Int32) (v_foundOrder : Int32) (v_isKept : Bool) (v_imageRows : Int32) (v_imageColumns : Int32) (v_imageFolded : Int32) (v_imageWronged : Int32) (v_bodies : Int32) (v_ran : Int32) (v_ownKind : Int32) (v_ownNumber : Int32) (v_limit : List Int32) (v_changeWas : List Int32) (v_changeIs : List Int32) (v_shapeRows : List Int32) (v_shapeColumns : List Int32) (v_row : List Int32) (v_column : List Int32) (v_below : List Int32) (v_face : List Int32) (v_worn : List Int32) (v_lastBend : List Int32) (v_tape : List Int32) (v_text : List Int32) (v_names : List Int32) (v_bends : List Int32) (v_high : List Int32) (v_to : List Int32) (v_pileSize : List Int32) (v_planLine : List Int32) (v_planWay : List Int32) (v_way1 : List Int32) (v_bestWay : List Int32) (v_order1 : List Int32) (v_placeIn : List Int32) (v_bodyKind : List Int32) (v_trace : List Int32) (v_shelf : List Int32) (v_many : List Int32) (v_items : List Int64) (v_carried : List Int64) (w_foundMany : Int32) (w_foundOrder : Int32) (w_order1 : List Int32) (w_placeIn : List Int32), go x1 x2 x3 x4 v_soughtBy v_sought v_soughtAt v_foundMany v_foundOrder v_order1 v_placeIn = some (w_foundMany, w_foundOrder, w_order1, w_placeIn) → mm_Ct l yX9_goesOrders cX9_goesOrders 6 none dgo D (mm_T cI cL cS cH) [.ref (a 0), .int x1, .int x2, .int x3, .int x4] (wd_X9 cI cL cS cH a v_keptMany v_done v_rowsOf v_columnsOf v_folded v_wronged v_tapeMany v_textMany v_base v_at v_ends v_fault v_opened v_bentMany v_bentWrong v_moreWorn v_planned v_allWrong v_allWorn v_z v_wishedField v_isFound v_bestWrong v_bestWorn v_bestMany v_soughtBy v_sought v_soughtAt v_foundMany v_foundOrder v_isKept v_imageRows v_imageColumns v_imageFolded v_imageWronged v_bodies v_ran v_ownKind v_ownNumber v_limit v_changeWas v_changeIs v_shapeRows v_shapeColumns v_row v_column v_below v_face v_worn v_lastBend v_tape v_text v_names v_bends v_high v_to v_pileSize v_planLine v_planWay v_way1 v_bestWay v_order1 v_placeIn v_bodyKind v_trace v_shelf v_many v_items v_carried) (wd_X9 cI cL cS cH a v_keptMany v_done v_rowsOf v_columnsOf v_folded v_wronged v_tapeMany v_textMany v_base v_at v_ends v_fault v_opened v_bentMany v_bentWrong v_moreWorn v_planned v_allWrong v_allWorn v_z v_wishedField v_isFound v_bestWrong v_bestWorn v_bestMany v_soughtBy v_sought v_soughtAt w_foundMany w_foundOrder v_isKept v_imageRows v_imageColumns v_imageFolded v_imageWronged v_bodies v_ran v_ownKind v_ownNumber v_limit v_changeWas v_changeIs v_shapeRows v_shapeColumns v_row v_column v_below v_face v_worn v_lastBend v_tape v_text v_names v_bends v_high v_to v_pileSize v_planLine v_planWay v_way1 v_bestWay w_order1 w_placeIn v_bodyKind v_trace v_shelf v_many v_items v_carried) none) (hE : 4 ≤ dgo) (hd : dgo + 1 ≤ d) (hf : fX9_goesOrderso N go x1 x2 x3 x4 v_soughtBy v_sought v_soughtAt v_foundMany v_foundOrder v_order1 v_placeIn = some (w_foundMany, w_foundOrder, w_order1, w_placeIn)) : mm_Ct l yX9_goesOrders cX9_goesOrders 6 none d D (mm_T cI cL cS cH) [.ref (a 0), .int x1, .int x2, .int x3, .int x4] (wd_X9 cI cL cS cH a v_keptMany v_done v_rowsOf v_columnsOf v_folded v_wronged v_tapeMany v_textMany v_base v_at v_ends v_fault v_opened v_bentMany v_bentWrong v_moreWorn v_planned v_allWrong v_allWorn v_z v_wishedField v_isFound v_bestWrong v_bestWorn v_bestMany v_soughtBy v_sought v_soughtAt v_foundMany v_foundOrder v_isKept v_imageRows v_imageColumns v_imageFolded v_imageWronged v_bodies v_ran v_ownKind v_ownNumber v_limit v_changeWas v_changeIs v_shapeRows v_shapeColumns v_row v_column v_below v_face v_worn v_lastBend v_tape v_text v_names v_bends v_high v_to v_pileSize v_planLine v_planWay v_way1 v_bestWay v_order1 v_placeIn v_bodyKind v_trace v_shelf v_many v_items v_carried) (wd_X9 cI cL cS cH a v_keptMany v_done v_rowsOf v_columnsOf v_folded v_wronged v_tapeMany v_textMany v_base v_at v_ends v_fault v_opened v_bentMany v_bentWrong v_moreWorn v_planned v_allWrong v_allWorn v_z v_wishedField v_isFound v_bestWrong v_bestWorn v_bestMany v_soughtBy v_sought v_soughtAt w_foundMany w_foundOrder v_isKept v_imageRows v_imageColumns v_imageFolded v_imageWronged v_bodies v_ran v_ownKind v_ownNumber v_limit v_changeWas v_changeIs v_shapeRows v_shapeColumns v_row v_column v_below v_face v_worn v_lastBend v_tape v_text v_names v_bends v_high v_to v_pileSize v_planLine v_planWay v_way1 v_bestWay w_order1 w_placeIn v_bodyKind v_trace v_shelf v_many v_items v_carried) none := by
  refine mm_of (by decide) (Nat.le_of_ble_eq_true rfl) ?_
  intro p e s m args below meth c A H locs ls C0 hP hD hA hS hl
  have C0 : mm_Cx p s m args meth c RX9 cX9_goesOrders 6 none D (mm_T cI cL cS cH) A := C0
  obtain ⟨hx, hb, hml, hown, hts, hr, hlocks, hK, hSt⟩ := id C0
  have hl : lv_has ls 6 [(0, .ref (a 0)), (1, .int x1), (2, .int x2), (3, .int x3), (4, .int x4)] := hl
  unfold fX9_goesOrderso at hf
  refine lv_iload_n hx hb dX9_goesOrders_0 rfl (lv_at hl 2 rfl) ?_
  refine lv_iload_n hx hb dX9_goesOrders_1 rfl (lv_at hl 1 rfl) ?_
  refine lv_icmp_ne (tgt := 13) hx hb dX9_goesOrders_2 (by decide) (fun c_1 => ?_) (fun c_1 => ?_)
  · have hf := mm_in hf c_1
    refine lv_iconst (v := 0) hx hb dX9_goesOrders_13 (by decide) ?_
    refine lv_istore (lv' := [(5, .int (0 : Int32)), (0, .ref (a 0)), (1, .int x1), (2, .int x2), (3, .int x3), (4, .int x4)]) hx hb dX9_goesOrders_14 hl (by decide) rfl (fun ls hl => ?_)
    exact tX9_goesOrders_16 hgo hE hd C0 hA N  N _ _ _ _ _ _ _ _ _ _ _ _ H locs ls hf hP hD hS (lv_sub hl [1, 2, 3, 4, 5, 0] rfl)
  · have hf := mm_ip hf c_1
    refine lv_aload_n hx hb dX9_goesOrders_5 rfl (lv_at hl 0 rfl) ?_
    refine lv_iload_n hx hb dX9_goesOrders_6 rfl (lv_at hl 1 rfl) ?_
    refine lv_iload hx hb dX9_goesOrders_7 (lv_at hl 4 rfl) ?_
    obtain ⟨w_2, w_3, hc_4, hf⟩ := mm_bd2s hf
    refine mm_callVF (q0 := 0) (ci := 9) (rest := []) C0 lk_X9_370 (ctX9_looksAt (a := a) (d := d - 1) (by omega) hc_4) (by omega) rfl hl.1 rfl (mm_cat rfl) dX9_goesOrders_9 hP hD hA hS rfl rfl (fun H locs hP hD hS => ?_)
    refine W.eq (g2 := F0 m 12 ls []) rfl ?_
    apply mm_sub4 hf
    exact mm_vret C0 hP hD hS dX9_goesOrders_12

def fX9_goesOrders (N : Nat) : Nat → Int32 → Int32 → Int32 → Int32 → Int32 → Int32 → Int32 → Int32 → Int32 → List Int32 → List Int32 → Option (Int32 × Int32 × List Int32 × List Int32)
  | 0 => fun _ _ _ _ _ _ _ _ _ _ _ => none
  | M + 1 => fX9_goesOrderso N (fX9_goesOrders N M)
set_option maxHeartbeats 4000000 in
set_option maxRecDepth 100000 in
theorem ctX9_goesOrders {l : Launch} {D : va_G} {cI cL cS cH : ClassId} {N : Nat} : ∀ (M d : Nat), 4 + 1 * M ≤ d → ∀ (a : Nat → Nat) (x1 : Int32) (x2 : Int32) (x3 : Int32) (x4 : Int32) (v_keptMany : Int32) (v_done : Int32) (v_rowsOf : Int32) (v_columnsOf : Int32) (v_folded : Int32) (v_wronged : Int32) (v_tapeMany : Int32) (v_textMany : Int32) (v_base : Int32) (v_at : Int32) (v_ends : Int32) (v_fault : Int32) (v_opened : Int32) (v_bentMany : Int32) (v_bentWrong : Int32) (v_moreWorn : Int32) (v_planned : Int32) (v_allWrong : Int32) (v_allWorn : Int32) (v_z : Int32) (v_wishedField : Int32) (v_isFound : Bool) (v_bestWrong : Int32) (v_bestWorn : Int32) (v_bestMany : Int32) (v_soughtBy : Int32) (v_sought : Int32) (v_soughtAt : Int32) (v_foundMany : Int32) (v_foundOrder : Int32) (v_isKept : Bool) (v_imageRows : Int32) (v_imageColumns : Int32) (v_imageFolded : Int32) (v_imageWronged : Int32) (v_bodies : Int32) (v_ran : Int32) (v_ownKind : Int32) (v_ownNumber : Int32) (v_limit : List Int32) (v_changeWas : List Int32) (v_changeIs : List Int32) (v_shapeRows : List Int32) (v_shapeColumns : List Int32) (v_row : List Int32) (v_column : List Int32) (v_below : List Int32) (v_face : List Int32) (v_worn : List Int32) (v_lastBend : List Int32) (v_tape : List Int32) (v_text : List Int32) (v_names : List Int32) (v_bends : List Int32) (v_high : List Int32) (v_to : List Int32) (v_pileSize : List Int32) (v_planLine : List Int32) (v_planWay : List Int32) (v_way1 : List Int32) (v_bestWay : List Int32) (v_order1 : List Int32) (v_placeIn : List Int32) (v_bodyKind : List Int32) (v_trace : List Int32) (v_shelf : List Int32) (v_many : List Int32) (v_items : List Int64) (v_carried : List Int64) (w_foundMany : Int32) (w_foundOrder : Int32) (w_order1 : List Int32) (w_placeIn : List Int32), fX9_goesOrders N M x1 x2 x3 x4 v_soughtBy v_sought v_soughtAt v_foundMany v_foundOrder v_order1 v_placeIn = some (w_foundMany, w_foundOrder, w_order1, w_placeIn) → mm_Ct l yX9_goesOrders cX9_goesOrders 6 none d D (mm_T cI cL cS cH) [.ref (a 0), .int x1, .int x2, .int x3, .int x4] (wd_X9 cI cL cS cH a v_keptMany v_done v_rowsOf v_columnsOf v_folded v_wronged v_tapeMany v_textMany v_base v_at v_ends v_fault v_opened v_bentMany v_bentWrong v_moreWorn v_planned v_allWrong v_allWorn v_z v_wishedField v_isFound v_bestWrong v_bestWorn v_bestMany v_soughtBy v_sought v_soughtAt v_foundMany v_foundOrder v_isKept v_imageRows v_imageColumns v_imageFolded v_imageWronged v_bodies v_ran v_ownKind v_ownNumber v_limit v_changeWas v_changeIs v_shapeRows v_shapeColumns v_row v_column v_below v_face v_worn v_lastBend v_tape v_text v_names v_bends v_high v_to v_pileSize v_planLine v_planWay v_way1 v_bestWay v_order1 v_placeIn v_bodyKind v_trace v_shelf v_many v_items v_carried) (wd_X9 cI cL cS cH a v_keptMany v_done v_rowsOf v_columnsOf v_folded v_wronged v_tapeMany v_textMany v_base v_at v_ends v_fault v_opened v_bentMany v_bentWrong v_moreWorn v_planned v_allWrong v_allWorn v_z v_wishedField v_isFound v_bestWrong v_bestWorn v_bestMany v_soughtBy v_sought v_soughtAt w_foundMany w_foundOrder v_isKept v_imageRows v_imageColumns v_imageFolded v_imageWronged v_bodies v_ran v_ownKind v_ownNumber v_limit v_changeWas v_changeIs v_shapeRows v_shapeColumns v_row v_column v_below v_face v_worn v_lastBend v_tape v_text v_names v_bends v_high v_to v_pileSize v_planLine v_planWay v_way1 v_bestWay w_order1 w_placeIn v_bodyKind v_trace v_shelf v_many v_items v_carried) none := by
  intro M
  induction M with
  | zero =>
    intro d hd a x1 x2 x3 x4 v_keptMany v_done v_rowsOf v_columnsOf v_folded v_wronged v_tapeMany v_textMany v_base v_at v_ends v_fault v_opened v_bentMany v_bentWrong v_moreWorn v_planned v_allWrong v_allWorn v_z v_wishedField v_isFound v_bestWrong v_bestWorn v_bestMany v_soughtBy v_sought v_soughtAt v_foundMany v_foundOrder v_isKept v_imageRows v_imageColumns v_imageFolded v_imageWronged v_bodies v_ran v_ownKind v_ownNumber v_limit v_changeWas v_changeIs v_shapeRows v_shapeColumns v_row v_column v_below v_face v_worn v_lastBend v_tape v_text v_names v_bends v_high v_to v_pileSize v_planLine v_planWay v_way1 v_bestWay v_order1 v_placeIn v_bodyKind v_trace v_shelf v_many v_items v_carried w_foundMany w_foundOrder w_order1 w_placeIn hf
    cases (show none = some _ from hf)
  | succ M ih =>
    intro d hd a x1 x2 x3 x4 v_keptMany v_done v_rowsOf v_columnsOf v_folded v_wronged v_tapeMany v_textMany v_base v_at v_ends v_fault v_opened v_bentMany v_bentWrong v_moreWorn v_planned v_allWrong v_allWorn v_z v_wishedField v_isFound v_bestWrong v_bestWorn v_bestMany v_soughtBy v_sought v_soughtAt v_foundMany v_foundOrder v_isKept v_imageRows v_imageColumns v_imageFolded v_imageWronged v_bodies v_ran v_ownKind v_ownNumber v_limit v_changeWas v_changeIs v_shapeRows v_shapeColumns v_row v_column v_below v_face v_worn v_lastBend v_tape v_text v_names v_bends v_high v_to v_pileSize v_planLine v_planWay v_way1 v_bestWay v_order1 v_placeIn v_bodyKind v_trace v_shelf v_many v_items v_carried w_foundMany w_foundOrder w_order1 w_placeIn hf
    exact ctX9_goesOrderso (N := N) (ih (4 + 1 * M) (Nat.le_refl _)) (Nat.le_add_right _ _) (by omega) hf

theorem nb_dX9_seeks_0 : bls_w cX9_seeks [(0, [42]), (1, [28]), (2, [181, 1, 99]), (5, [42]), (6, [29]), (7, [181, 1, 102]), (10, [42]), (11, [21, 4]), (13, [181, 1, 108]), (16, [42]), (17, [3]), (18, [181, 1, 105])] := bls_of (by decide +kernel)
theorem dX9_seeks_0 : decode cX9_seeks 0 = .ok (.aload_n 0, 1) := op_42 nb_dX9_seeks_0.1
theorem dX9_seeks_1 : decode cX9_seeks 1 = .ok (.iload_n 2, 1) := op_28 nb_dX9_seeks_0.2.1
set_option maxRecDepth 100000 in
theorem dX9_seeks_2 : decode cX9_seeks 2 = .ok (.putfield 355, 3) := (op_181 nb_dX9_seeks_0.2.2.1).trans rfl
theorem dX9_seeks_5 : decode cX9_seeks 5 = .ok (.aload_n 0, 1) := op_42 nb_dX9_seeks_0.2.2.2.1
theorem dX9_seeks_6 : decode cX9_seeks 6 = .ok (.iload_n 3, 1) := op_29 nb_dX9_seeks_0.2.2.2.2.1
set_option maxRecDepth 100000 in
theorem dX9_seeks_7 : decode cX9_seeks 7 = .ok (.putfield 358, 3) := (op_181 nb_dX9_seeks_0.2.2.2.2.2.1).trans rfl
theorem dX9_seeks_10 : decode cX9_seeks 10 = .ok (.aload_n 0, 1) := op_42 nb_dX9_seeks_0.2.2.2.2.2.2.1
set_option maxRecDepth 100000 in
theorem dX9_seeks_11 : decode cX9_seeks 11 = .ok (.iload 4, 2) := (op_21 nb_dX9_seeks_0.2.2.2.2.2.2.2.1).trans rfl
set_option maxRecDepth 100000 in
theorem dX9_seeks_13 : decode cX9_seeks 13 = .ok (.putfield 364, 3) := (op_181 nb_dX9_seeks_0.2.2.2.2.2.2.2.2.1).trans rfl
theorem dX9_seeks_16 : decode cX9_seeks 16 = .ok (.aload_n 0, 1) := op_42 nb_dX9_seeks_0.2.2.2.2.2.2.2.2.2.1
theorem dX9_seeks_17 : decode cX9_seeks 17 = .ok (.iconst 0, 1) := op_3 nb_dX9_seeks_0.2.2.2.2.2.2.2.2.2.2.1
set_option maxRecDepth 100000 in
theorem dX9_seeks_18 : decode cX9_seeks 18 = .ok (.putfield 361, 3) := (op_181 nb_dX9_seeks_0.2.2.2.2.2.2.2.2.2.2.2.1).trans rfl
theorem nb_dX9_seeks_21 : bls_w cX9_seeks [(21, [42]), (22, [2]), (23, [181, 1, 111]), (26, [42]), (27, [27]), (28, [3]), (29, [3]), (30, [3]), (31, [182, 1, 117]), (34, [177])] := bls_of (by decide +kernel)
theorem dX9_seeks_21 : decode cX9_seeks 21 = .ok (.aload_n 0, 1) := op_42 nb_dX9_seeks_21.1
theorem dX9_seeks_22 : decode cX9_seeks 22 = .ok (.iconst (-1), 1) := op_2 nb_dX9_seeks_21.2.1
set_option maxRecDepth 100000 in
theorem dX9_seeks_23 : decode cX9_seeks 23 = .ok (.putfield 367, 3) := (op_181 nb_dX9_seeks_21.2.2.1).trans rfl
theorem dX9_seeks_26 : decode cX9_seeks 26 = .ok (.aload_n 0, 1) := op_42 nb_dX9_seeks_21.2.2.2.1
theorem dX9_seeks_27 : decode cX9_seeks 27 = .ok (.iload_n 1, 1) := op_27 nb_dX9_seeks_21.2.2.2.2.1
theorem dX9_seeks_28 : decode cX9_seeks 28 = .ok (.iconst 0, 1) := op_3 nb_dX9_seeks_21.2.2.2.2.2.1
theorem dX9_seeks_29 : decode cX9_seeks 29 = .ok (.iconst 0, 1) := op_3 nb_dX9_seeks_21.2.2.2.2.2.2.1
theorem dX9_seeks_30 : decode cX9_seeks 30 = .ok (.iconst 0, 1) := op_3 nb_dX9_seeks_21.2.2.2.2.2.2.2.1
set_option maxRecDepth 100000 in
theorem dX9_seeks_31 : decode cX9_seeks 31 = .ok (.invokevirtual 373, 3) := (op_182 nb_dX9_seeks_21.2.2.2.2.2.2.2.2.1).trans rfl
theorem dX9_seeks_34 : decode cX9_seeks 34 = .ok (.return_, 1) := op_177 nb_dX9_seeks_21.2.2.2.2.2.2.2.2.2.1
def fX9_seeks (N : Nat) (x1 : Int32) (x2 : Int32) (x3 : Int32) (x4 : Int32) (v_soughtBy : Int32) (v_sought : Int32) (v_soughtAt : Int32) (v_foundMany : Int32) (v_foundOrder : Int32) (v_order1 : List Int32) (v_placeIn : List Int32) : Option (Int32 × Int32 × Int32 × Int32 × Int32 × List Int32 × List Int32) :=
    mm_bd4 (fX9_goesOrders N 9 x1 (0 : Int32) (0 : Int32) (0 : Int32) x2 x3 x4 (0 : Int32) (-1 : Int32) v_order1 v_placeIn) (fun (w_1 : Int32) (w_2 : Int32) (w_3 : List Int32) (w_4 : List Int32) =>
    some (x2, x3, x4, w_1, w_2, w_3, w_4))

set_option maxHeartbeats 4000000 in
set_option maxRecDepth 100000 in
theorem ctX9_seeks {l : Launch} {D : va_G} {cI cL cS cH : ClassId} {a : Nat → Nat} {x1 : Int32} {x2 : Int32} {x3 : Int32} {x4 : Int32} {v_keptMany : Int32} {v_done : Int32} {v_rowsOf : Int32} {v_columnsOf : Int32} {v_folded : Int32} {v_wronged : Int32} {v_tapeMany : Int32} {v_textMany : Int32} {v_base : Int32} {v_at : Int32} {v_ends : Int32} {v_fault : Int32} {v_opened : Int32} {v_bentMany : Int32} {v_bentWrong : Int32} {v_moreWorn : Int32} {v_planned : Int32} {v_allWrong : Int32} {v_allWorn : Int32} {v_z : Int32} {v_wishedField : Int32} {v_isFound : Bool} {v_bestWrong : Int32} {v_bestWorn : Int32} {v_bestMany : Int32} {v_soughtBy : Int32} {v_sought : Int32} {v_soughtAt : Int32} {v_foundMany : Int32} {v_foundOrder : Int32} {v_isKept : Bool} {v_imageRows : Int32} {v_imageColumns : Int32} {v_imageFolded : Int32} {v_imageWronged : Int32} {v_bodies : Int32} {v_ran : Int32} {v_ownKind : Int32} {v_ownNumber : Int32} {v_limit : List Int32} {v_changeWas : List Int32} {v_changeIs : List Int32} {v_shapeRows : List Int32} {v_shapeColumns : List Int32} {v_row : List Int32} {v_column : List Int32} {v_below : List Int32} {v_face : List Int32} {v_worn : List Int32} {v_lastBend : List Int32} {v_tape : List Int32} {v_text : List Int32} {v_names : List Int32} {v_bends : List Int32} {v_high : List Int32} {v_to : List Int32} {v_pileSize : List Int32} {v_planLine : List Int32} {v_planWay : List Int32} {v_way1 : List Int32} {v_bestWay : List Int32} {v_order1 : List Int32} {v_placeIn : List Int32} {v_bodyKind : List Int32} {v_trace : List Int32} {v_shelf : List Int32} {v_many : List Int32} {v_items : List Int64} {v_carried : List Int64} {w_soughtBy : Int32} {w_sought : Int32} {w_soughtAt : Int32} {w_foundMany : Int32} {w_foundOrder : Int32} {w_order1 : List Int32} {w_placeIn : List Int32} {N d : Nat} (hd : 14 ≤ d) (hf : fX9_seeks N x1 x2 x3 x4 v_soughtBy v_sought v_soughtAt v_foundMany v_foundOrder v_order1 v_placeIn = some (w_soughtBy, w_sought, w_soughtAt, w_foundMany, w_foundOrder, w_order1, w_placeIn)) : mm_Ct l yX9_seeks cX9_seeks 5 none d D (mm_T cI cL cS cH) [.ref (a 0), .int x1, .int x2, .int x3, .int x4] (wd_X9 cI cL cS cH a v_keptMany v_done v_rowsOf v_columnsOf v_folded v_wronged v_tapeMany v_textMany v_base v_at v_ends v_fault v_opened v_bentMany v_bentWrong v_moreWorn v_planned v_allWrong v_allWorn v_z v_wishedField v_isFound v_bestWrong v_bestWorn v_bestMany v_soughtBy v_sought v_soughtAt v_foundMany v_foundOrder v_isKept v_imageRows v_imageColumns v_imageFolded v_imageWronged v_bodies v_ran v_ownKind v_ownNumber v_limit v_changeWas v_changeIs v_shapeRows v_shapeColumns v_row v_column v_below v_face v_worn v_lastBend v_tape v_text v_names v_bends v_high v_to v_pileSize v_planLine v_planWay v_way1 v_bestWay v_order1 v_placeIn v_bodyKind v_trace v_shelf v_many v_items v_carried) (wd_X9 cI cL cS cH a v_keptMany v_done v_rowsOf v_columnsOf v_folded v_wronged v_tapeMany v_textMany v_base v_at v_ends v_fault v_opened v_bentMany v_bentWrong v_moreWorn v_planned v_allWrong v_allWorn v_z v_wishedField v_isFound v_bestWrong v_bestWorn v_bestMany w_soughtBy w_sought w_soughtAt w_foundMany w_foundOrder v_isKept v_imageRows v_imageColumns v_imageFolded v_imageWronged v_bodies v_ran v_ownKind v_ownNumber v_limit v_changeWas v_changeIs v_shapeRows v_shapeColumns v_row v_column v_below v_face v_worn v_lastBend v_tape v_text v_names v_bends v_high v_to v_pileSize v_planLine v_planWay v_way1 v_bestWay w_order1 w_placeIn v_bodyKind v_trace v_shelf v_many v_items v_carried) none := by
  refine mm_of (by decide) (Nat.le_of_ble_eq_true rfl) ?_
  intro p e s m args below meth c A H locs ls C0 hP hD hA hS hl
  have C0 : mm_Cx p s m args meth c RX9 cX9_seeks 5 none D (mm_T cI cL cS cH) A := C0
  obtain ⟨hx, hb, hml, hown, hts, hr, hlocks, hK, hSt⟩ := id C0
  have hl : lv_has ls 5 [(0, .ref (a 0)), (1, .int x1), (2, .int x2), (3, .int x3), (4, .int x4)] := hl
  unfold fX9_seeks at hf
  refine lv_aload_n hx hb dX9_seeks_0 rfl (lv_at hl 0 rfl) ?_
  refine lv_iload_n hx hb dX9_seeks_1 rfl (lv_at hl 2 rfl) ?_
  refine mm_put C0 hP hD hS iw_X9 tyX9 tyX9_ok nmX9 0 rfl rfl 49 (by decide) fl_X9_355 rfl rfl rfl (Nat.le_of_ble_eq_true rfl) dX9_seeks_2 (w2 := (wd_X9 cI cL cS cH a v_keptMany v_done v_rowsOf v_columnsOf v_folded v_wronged v_tapeMany v_textMany v_base v_at v_ends v_fault v_opened v_bentMany v_bentWrong v_moreWorn v_planned v_allWrong v_allWorn v_z v_wishedField v_isFound v_bestWrong v_bestWorn v_bestMany x2 v_sought v_soughtAt v_foundMany v_foundOrder v_isKept v_imageRows v_imageColumns v_imageFolded v_imageWronged v_bodies v_ran v_ownKind v_ownNumber v_limit v_changeWas v_changeIs v_shapeRows v_shapeColumns v_row v_column v_below v_face v_worn v_lastBend v_tape v_text v_names v_bends v_high v_to v_pileSize v_planLine v_planWay v_way1 v_bestWay v_order1 v_placeIn v_bodyKind v_trace v_shelf v_many v_items v_carried)) rfl (fun H locs hP hD hS => ?_)
  refine lv_aload_n hx hb dX9_seeks_5 rfl (lv_at hl 0 rfl) ?_
  refine lv_iload_n hx hb dX9_seeks_6 rfl (lv_at hl 3 rfl) ?_
  refine mm_put C0 hP hD hS iw_X9 tyX9 tyX9_ok nmX9 0 rfl rfl 50 (by decide) fl_X9_358 rfl rfl rfl (Nat.le_of_ble_eq_true rfl) dX9_seeks_7 (w2 := (wd_X9 cI cL cS cH a v_keptMany v_done v_rowsOf v_columnsOf v_folded v_wronged v_tapeMany v_textMany v_base v_at v_ends v_fault v_opened v_bentMany v_bentWrong v_moreWorn v_planned v_allWrong v_allWorn v_z v_wishedField v_isFound v_bestWrong v_bestWorn v_bestMany x2 x3 v_soughtAt v_foundMany v_foundOrder v_isKept v_imageRows v_imageColumns v_imageFolded v_imageWronged v_bodies v_ran v_ownKind v_ownNumber v_limit v_changeWas v_changeIs v_shapeRows v_shapeColumns v_row v_column v_below v_face v_worn v_lastBend v_tape v_text v_names v_bends v_high v_to v_pileSize v_planLine v_planWay v_way1 v_bestWay v_order1 v_placeIn v_bodyKind v_trace v_shelf v_many v_items v_carried)) rfl (fun H locs hP hD hS => ?_)
  refine lv_aload_n hx hb dX9_seeks_10 rfl (lv_at hl 0 rfl) ?_
  refine lv_iload hx hb dX9_seeks_11 (lv_at hl 4 rfl) ?_
  refine mm_put C0 hP hD hS iw_X9 tyX9 tyX9_ok nmX9 0 rfl rfl 51 (by decide) fl_X9_364 rfl rfl rfl (Nat.le_of_ble_eq_true rfl) dX9_seeks_13 (w2 := (wd_X9 cI cL cS cH a v_keptMany v_done v_rowsOf v_columnsOf v_folded v_wronged v_tapeMany v_textMany v_base v_at v_ends v_fault v_opened v_bentMany v_bentWrong v_moreWorn v_planned v_allWrong v_allWorn v_z v_wishedField v_isFound v_bestWrong v_bestWorn v_bestMany x2 x3 x4 v_foundMany v_foundOrder v_isKept v_imageRows v_imageColumns v_imageFolded v_imageWronged v_bodies v_ran v_ownKind v_ownNumber v_limit v_changeWas v_changeIs v_shapeRows v_shapeColumns v_row v_column v_below v_face v_worn v_lastBend v_tape v_text v_names v_bends v_high v_to v_pileSize v_planLine v_planWay v_way1 v_bestWay v_order1 v_placeIn v_bodyKind v_trace v_shelf v_many v_items v_carried)) rfl (fun H locs hP hD hS => ?_)
  refine lv_aload_n hx hb dX9_seeks_16 rfl (lv_at hl 0 rfl) ?_
  refine lv_iconst (v := 0) hx hb dX9_seeks_17 (by decide) ?_
  refine mm_put C0 hP hD hS iw_X9 tyX9 tyX9_ok nmX9 0 rfl rfl 52 (by decide) fl_X9_361 rfl rfl rfl (Nat.le_of_ble_eq_true rfl) dX9_seeks_18 (w2 := (wd_X9 cI cL cS cH a v_keptMany v_done v_rowsOf v_columnsOf v_folded v_wronged v_tapeMany v_textMany v_base v_at v_ends v_fault v_opened v_bentMany v_bentWrong v_moreWorn v_planned v_allWrong v_allWorn v_z v_wishedField v_isFound v_bestWrong v_bestWorn v_bestMany x2 x3 x4 (0 : Int32) v_foundOrder v_isKept v_imageRows v_imageColumns v_imageFolded v_imageWronged v_bodies v_ran v_ownKind v_ownNumber v_limit v_changeWas v_changeIs v_shapeRows v_shapeColumns v_row v_column v_below v_face v_worn v_lastBend v_tape v_text v_names v_bends v_high v_to v_pileSize v_planLine v_planWay v_way1 v_bestWay v_order1 v_placeIn v_bodyKind v_trace v_shelf v_many v_items v_carried)) rfl (fun H locs hP hD hS => ?_)
  refine lv_aload_n hx hb dX9_seeks_21 rfl (lv_at hl 0 rfl) ?_
  refine lv_iconst (v := -1) hx hb dX9_seeks_22 (by decide) ?_
  refine mm_put C0 hP hD hS iw_X9 tyX9 tyX9_ok nmX9 0 rfl rfl 53 (by decide) fl_X9_367 rfl rfl rfl (Nat.le_of_ble_eq_true rfl) dX9_seeks_23 (w2 := (wd_X9 cI cL cS cH a v_keptMany v_done v_rowsOf v_columnsOf v_folded v_wronged v_tapeMany v_textMany v_base v_at v_ends v_fault v_opened v_bentMany v_bentWrong v_moreWorn v_planned v_allWrong v_allWorn v_z v_wishedField v_isFound v_bestWrong v_bestWorn v_bestMany x2 x3 x4 (0 : Int32) (-1 : Int32) v_isKept v_imageRows v_imageColumns v_imageFolded v_imageWronged v_bodies v_ran v_ownKind v_ownNumber v_limit v_changeWas v_changeIs v_shapeRows v_shapeColumns v_row v_column v_below v_face v_worn v_lastBend v_tape v_text v_names v_bends v_high v_to v_pileSize v_planLine v_planWay v_way1 v_bestWay v_order1 v_placeIn v_bodyKind v_trace v_shelf v_many v_items v_carried)) rfl (fun H locs hP hD hS => ?_)
  refine lv_aload_n hx hb dX9_seeks_26 rfl (lv_at hl 0 rfl) ?_
  refine lv_iload_n hx hb dX9_seeks_27 rfl (lv_at hl 1 rfl) ?_
  refine lv_iconst (v := 0) hx hb dX9_seeks_28 (by decide) ?_
  refine lv_iconst (v := 0) hx hb dX9_seeks_29 (by decide) ?_
  refine lv_iconst (v := 0) hx hb dX9_seeks_30 (by decide) ?_
  obtain ⟨w_1, w_2, w_3, w_4, hc_5, hf⟩ := mm_bd4s hf
  refine mm_callVF (q0 := 0) (ci := 9) (rest := []) C0 lk_X9_373 (ctX9_goesOrders (N := N) 9 (d - 1) (by omega) a _ _ _ _ _ _ _ _ _ _ _ _ _ _ _ _ _ _ _ _ _ _ _ _ _ _ _ _ _ _ _ _ _ _ _ _ _ _ _ _ _ _ _ _ _ _ _ _ _ _ _ _ _ _ _ _ _ _ _ _ _ _ _ _ _ _ _ _ _ _ _ _ _ _ _ _ _ hc_5) (by omega) rfl hl.1 rfl (mm_cat rfl) dX9_seeks_31 hP hD hA hS rfl rfl (fun H locs hP hD hS => ?_)
  refine W.eq (g2 := F0 m 34 ls []) rfl ?_
  apply mm_sub7 hf
  exact mm_vret C0 hP hD hS dX9_seeks_34

theorem nb_dX9_orders_0 : bls_w cX9_orders [(0, [27]), (1, [184, 1, 87]), (4, [153, 0, 8]), (7, [28]), (8, [2]), (9, [162, 0, 5]), (12, [2]), (13, [172]), (14, [42]), (15, [27]), (16, [3]), (17, [3])] := bls_of (by decide +kernel)
theorem dX9_orders_0 : decode cX9_orders 0 = .ok (.iload_n 1, 1) := op_27 nb_dX9_orders_0.1
set_option maxRecDepth 100000 in
theorem dX9_orders_1 : decode cX9_orders 1 = .ok (.invokestatic 343, 3) := (op_184 nb_dX9_orders_0.2.1).trans rfl
set_option maxRecDepth 100000 in
theorem dX9_orders_4 : decode cX9_orders 4 = .ok (.ifCond .eq 8, 3) := (op_153 nb_dX9_orders_0.2.2.1).trans rfl
theorem dX9_orders_7 : decode cX9_orders 7 = .ok (.iload_n 2, 1) := op_28 nb_dX9_orders_0.2.2.2.1
theorem dX9_orders_8 : decode cX9_orders 8 = .ok (.iconst (-1), 1) := op_2 nb_dX9_orders_0.2.2.2.2.1
set_option maxRecDepth 100000 in
theorem dX9_orders_9 : decode cX9_orders 9 = .ok (.if_icmp .ge 5, 3) := (op_162 nb_dX9_orders_0.2.2.2.2.2.1).trans rfl
theorem dX9_orders_12 : decode cX9_orders 12 = .ok (.iconst (-1), 1) := op_2 nb_dX9_orders_0.2.2.2.2.2.2.1
theorem dX9_orders_13 : decode cX9_orders 13 = .ok (.ireturn, 1) := op_172 nb_dX9_orders_0.2.2.2.2.2.2.2.1
theorem dX9_orders_14 : decode cX9_orders 14 = .ok (.aload_n 0, 1) := op_42 nb_dX9_orders_0.2.2.2.2.2.2.2.2.1
theorem dX9_orders_15 : decode cX9_orders 15 = .ok (.iload_n 1, 1) := op_27 nb_dX9_orders_0.2.2.2.2.2.2.2.2.2.1
theorem dX9_orders_16 : decode cX9_orders 16 = .ok (.iconst 0, 1) := op_3 nb_dX9_orders_0.2.2.2.2.2.2.2.2.2.2.1
theorem dX9_orders_17 : decode cX9_orders 17 = .ok (.iconst 0, 1) := op_3 nb_dX9_orders_0.2.2.2.2.2.2.2.2.2.2.2.1
theorem nb_dX9_orders_18 : bls_w cX9_orders [(18, [28]), (19, [182, 1, 121]), (22, [28]), (23, [2]), (24, [160, 0, 10]), (27, [42]), (28, [180, 1, 105]), (31, [167, 0, 7]), (34, [42]), (35, [180, 1, 111]), (38, [172])] := bls_of (by decide +kernel)
theorem dX9_orders_18 : decode cX9_orders 18 = .ok (.iload_n 2, 1) := op_28 nb_dX9_orders_18.1
set_option maxRecDepth 100000 in
theorem dX9_orders_19 : decode cX9_orders 19 = .ok (.invokevirtual 377, 3) := (op_182 nb_dX9_orders_18.2.1).trans rfl
theorem dX9_orders_22 : decode cX9_orders 22 = .ok (.iload_n 2, 1) := op_28 nb_dX9_orders_18.2.2.1
theorem dX9_orders_23 : decode cX9_orders 23 = .ok (.iconst (-1), 1) := op_2 nb_dX9_orders_18.2.2.2.1
set_option maxRecDepth 100000 in
theorem dX9_orders_24 : decode cX9_orders 24 = .ok (.if_icmp .ne 10, 3) := (op_160 nb_dX9_orders_18.2.2.2.2.1).trans rfl
theorem dX9_orders_27 : decode cX9_orders 27 = .ok (.aload_n 0, 1) := op_42 nb_dX9_orders_18.2.2.2.2.2.1
set_option maxRecDepth 100000 in
theorem dX9_orders_28 : decode cX9_orders 28 = .ok (.getfield 361, 3) := (op_180 nb_dX9_orders_18.2.2.2.2.2.2.1).trans rfl
set_option maxRecDepth 100000 in
theorem dX9_orders_31 : decode cX9_orders 31 = .ok (.goto 7, 3) := (op_167 nb_dX9_orders_18.2.2.2.2.2.2.2.1).trans rfl
theorem dX9_orders_34 : decode cX9_orders 34 = .ok (.aload_n 0, 1) := op_42 nb_dX9_orders_18.2.2.2.2.2.2.2.2.1
set_option maxRecDepth 100000 in
theorem dX9_orders_35 : decode cX9_orders 35 = .ok (.getfield 367, 3) := (op_180 nb_dX9_orders_18.2.2.2.2.2.2.2.2.2.1).trans rfl
theorem dX9_orders_38 : decode cX9_orders 38 = .ok (.ireturn, 1) := op_172 nb_dX9_orders_18.2.2.2.2.2.2.2.2.2.2.1
def fX9_orders (N : Nat) (x1 : Int32) (x2 : Int32) (v_soughtBy : Int32) (v_sought : Int32) (v_soughtAt : Int32) (v_foundMany : Int32) (v_foundOrder : Int32) (v_order1 : List Int32) (v_placeIn : List Int32) : Option (Int32 × Int32 × Int32 × Int32 × Int32 × Int32 × List Int32 × List Int32) :=
    mm_bd1 (fX9_isStrip N x1) (fun (r_1 : Bool) =>
    if r_1 = false then
    (some ((-1 : Int32), v_soughtBy, v_sought, v_soughtAt, v_foundMany, v_foundOrder, v_order1, v_placeIn))
    else (if (-1 : Int32) ≤ x2 then
    (mm_bd7 (fX9_seeks N x1 (0 : Int32) (0 : Int32) x2 v_soughtBy v_sought v_soughtAt v_foundMany v_foundOrder v_order1 v_placeIn) (fun (w_5 : Int32) (w_6 : Int32) (w_7 : Int32) (w_8 : Int32) (w_9 : Int32) (w_10 : List Int32) (w_11 : List Int32) =>
    if x2 = (-1 : Int32) then
    (some (w_8, w_5, w_6, w_7, w_8, w_9, w_10, w_11))
    else (some (w_9, w_5, w_6, w_7, w_8, w_9, w_10, w_11))))
    else (some ((-1 : Int32), v_soughtBy, v_sought, v_soughtAt, v_foundMany, v_foundOrder, v_order1, v_placeIn))))

set_option maxHeartbeats 4000000 in
set_option maxRecDepth 100000 in
theorem ctX9_orders {l : Launch} {D : va_G} {cI cL cS cH : ClassId} {a : Nat → Nat} {x1 : Int32} {x2 : Int32} {v_keptMany : Int32} {v_done : Int32} {v_rowsOf : Int32} {v_columnsOf : Int32} {v_folded : Int32} {v_wronged : Int32} {v_tapeMany : Int32} {v_textMany : Int32} {v_base : Int32} {v_at : Int32} {v_ends : Int32} {v_fault : Int32} {v_opened : Int32} {v_bentMany : Int32} {v_bentWrong : Int32} {v_moreWorn : Int32} {v_planned : Int32} {v_allWrong : Int32} {v_allWorn : Int32} {v_z : Int32} {v_wishedField : Int32} {v_isFound : Bool} {v_bestWrong : Int32} {v_bestWorn : Int32} {v_bestMany : Int32} {v_soughtBy : Int32} {v_sought : Int32} {v_soughtAt : Int32} {v_foundMany : Int32} {v_foundOrder : Int32} {v_isKept : Bool} {v_imageRows : Int32} {v_imageColumns : Int32} {v_imageFolded : Int32} {v_imageWronged : Int32} {v_bodies : Int32} {v_ran : Int32} {v_ownKind : Int32} {v_ownNumber : Int32} {v_limit : List Int32} {v_changeWas : List Int32} {v_changeIs : List Int32} {v_shapeRows : List Int32} {v_shapeColumns : List Int32} {v_row : List Int32} {v_column : List Int32} {v_below : List Int32} {v_face : List Int32} {v_worn : List Int32} {v_lastBend : List Int32} {v_tape : List Int32} {v_text : List Int32} {v_names : List Int32} {v_bends : List Int32} {v_high : List Int32} {v_to : List Int32} {v_pileSize : List Int32} {v_planLine : List Int32} {v_planWay : List Int32} {v_way1 : List Int32} {v_bestWay : List Int32} {v_order1 : List Int32} {v_placeIn : List Int32} {v_bodyKind : List Int32} {v_trace : List Int32} {v_shelf : List Int32} {v_many : List Int32} {v_items : List Int64} {v_carried : List Int64} {r : Int32} {w_soughtBy : Int32} {w_sought : Int32} {w_soughtAt : Int32} {w_foundMany : Int32} {w_foundOrder : Int32} {w_order1 : List Int32} {w_placeIn : List Int32} {N d : Nat} (hd : 15 ≤ d) (hf : fX9_orders N x1 x2 v_soughtBy v_sought v_soughtAt v_foundMany v_foundOrder v_order1 v_placeIn = some (r, w_soughtBy, w_sought, w_soughtAt, w_foundMany, w_foundOrder, w_order1, w_placeIn)) : mm_Ct l yX9_orders cX9_orders 3 (some .int) d D (mm_T cI cL cS cH) [.ref (a 0), .int x1, .int x2] (wd_X9 cI cL cS cH a v_keptMany v_done v_rowsOf v_columnsOf v_folded v_wronged v_tapeMany v_textMany v_base v_at v_ends v_fault v_opened v_bentMany v_bentWrong v_moreWorn v_planned v_allWrong v_allWorn v_z v_wishedField v_isFound v_bestWrong v_bestWorn v_bestMany v_soughtBy v_sought v_soughtAt v_foundMany v_foundOrder v_isKept v_imageRows v_imageColumns v_imageFolded v_imageWronged v_bodies v_ran v_ownKind v_ownNumber v_limit v_changeWas v_changeIs v_shapeRows v_shapeColumns v_row v_column v_below v_face v_worn v_lastBend v_tape v_text v_names v_bends v_high v_to v_pileSize v_planLine v_planWay v_way1 v_bestWay v_order1 v_placeIn v_bodyKind v_trace v_shelf v_many v_items v_carried) (wd_X9 cI cL cS cH a v_keptMany v_done v_rowsOf v_columnsOf v_folded v_wronged v_tapeMany v_textMany v_base v_at v_ends v_fault v_opened v_bentMany v_bentWrong v_moreWorn v_planned v_allWrong v_allWorn v_z v_wishedField v_isFound v_bestWrong v_bestWorn v_bestMany w_soughtBy w_sought w_soughtAt w_foundMany w_foundOrder v_isKept v_imageRows v_imageColumns v_imageFolded v_imageWronged v_bodies v_ran v_ownKind v_ownNumber v_limit v_changeWas v_changeIs v_shapeRows v_shapeColumns v_row v_column v_below v_face v_worn v_lastBend v_tape v_text v_names v_bends v_high v_to v_pileSize v_planLine v_planWay v_way1 v_bestWay w_order1 w_placeIn v_bodyKind v_trace v_shelf v_many v_items v_carried) (some (.int r)) := by
  refine mm_of (by decide) (Nat.le_of_ble_eq_true rfl) ?_
  intro p e s m args below meth c A H locs ls C0 hP hD hA hS hl
  have C0 : mm_Cx p s m args meth c RX9 cX9_orders 3 (some .int) D (mm_T cI cL cS cH) A := C0
  obtain ⟨hx, hb, hml, hown, hts, hr, hlocks, hK, hSt⟩ := id C0
  have hl : lv_has ls 3 [(0, .ref (a 0)), (1, .int x1), (2, .int x2)] := hl
  unfold fX9_orders at hf
  refine lv_iload_n hx hb dX9_orders_0 rfl (lv_at hl 1 rfl) ?_
  obtain ⟨r_1, hc_2, hf⟩ := mm_bd1s hf
  refine mm_callS0 (rest := []) C0 lk_X9_343 (ctX9_isStrip (d := d - 1) (by omega) hc_2) (by omega) rfl hl.1 rfl (mm_cat rfl) dX9_orders_1 hP hD hA hS (fun H locs hP hS => ?_)
  refine W.eq (g2 := F0 m 4 ls [.int (mm_b r_1)]) rfl ?_
  refine lv_if_eq (tgt := 12) hx hb dX9_orders_4 (by decide) (fun c_3 => ?_) (fun c_3 => ?_)
  · have hf := mm_ip hf (mm_b0 c_3)
    refine lv_iconst (v := -1) hx hb dX9_orders_12 (by decide) ?_
    apply mm_sub8 hf
    exact mm_iret C0 hP hD hS dX9_orders_13
  · have hf := mm_in hf (mm_b1 c_3)
    refine lv_iload_n hx hb dX9_orders_7 rfl (lv_at hl 2 rfl) ?_
    refine lv_iconst (v := -1) hx hb dX9_orders_8 (by decide) ?_
    refine lv_icmp_ge (tgt := 14) hx hb dX9_orders_9 (by decide) (fun c_4 => ?_) (fun c_4 => ?_)
    · have hf := mm_ip hf c_4
      refine lv_aload_n hx hb dX9_orders_14 rfl (lv_at hl 0 rfl) ?_
      refine lv_iload_n hx hb dX9_orders_15 rfl (lv_at hl 1 rfl) ?_
      refine lv_iconst (v := 0) hx hb dX9_orders_16 (by decide) ?_
      refine lv_iconst (v := 0) hx hb dX9_orders_17 (by decide) ?_
      refine lv_iload_n hx hb dX9_orders_18 rfl (lv_at hl 2 rfl) ?_
      refine mm_ct7 hf (fun w_5 w_6 w_7 w_8 w_9 w_10 w_11 hc_12 hf => ?_)
      refine mm_callVF (q0 := 0) (ci := 9) (rest := []) C0 lk_X9_377 (ctX9_seeks (a := a) (d := d - 1) (by omega) hc_12) (by omega) rfl hl.1 rfl (mm_cat rfl) dX9_orders_19 hP hD hA hS rfl rfl (fun H locs hP hD hS => ?_)
      refine W.eq (g2 := F0 m 22 ls []) rfl ?_
      refine lv_iload_n hx hb dX9_orders_22 rfl (lv_at hl 2 rfl) ?_
      refine lv_iconst (v := -1) hx hb dX9_orders_23 (by decide) ?_
      refine lv_icmp_ne (tgt := 34) hx hb dX9_orders_24 (by decide) (fun c_13 => ?_) (fun c_13 => ?_)
      · have hf := mm_in hf c_13
        refine lv_aload_n hx hb dX9_orders_34 rfl (lv_at hl 0 rfl) ?_
        refine mm_get C0 hP iw_X9 0 rfl rfl 53 (by decide) fl_X9_367 rfl dX9_orders_35 ?_
        apply mm_sub8 hf
        exact mm_iret C0 hP hD hS dX9_orders_38
      · have hf := mm_ip hf c_13
        refine lv_aload_n hx hb dX9_orders_27 rfl (lv_at hl 0 rfl) ?_
        refine mm_get C0 hP iw_X9 0 rfl rfl 52 (by decide) fl_X9_361 rfl dX9_orders_28 ?_
        refine lv_goto (tgt := 38) hx hb dX9_orders_31 (by decide) ?_
        apply mm_sub8 hf
        exact mm_iret C0 hP hD hS dX9_orders_38
    · have hf := mm_in hf c_4
      refine lv_iconst (v := -1) hx hb dX9_orders_12 (by decide) ?_
      apply mm_sub8 hf
      exact mm_iret C0 hP hD hS dX9_orders_13

theorem nb_dX9_by_0 : bls_w cX9_by [(0, [27]), (1, [184, 1, 87]), (4, [153, 0, 30]), (7, [28]), (8, [133]), (9, [9]), (10, [4]), (11, [27]), (12, [4]), (13, [100]), (14, [120]), (15, [4])] := bls_of (by decide +kernel)
theorem dX9_by_0 : decode cX9_by 0 = .ok (.iload_n 1, 1) := op_27 nb_dX9_by_0.1
set_option maxRecDepth 100000 in
theorem dX9_by_1 : decode cX9_by 1 = .ok (.invokestatic 343, 3) := (op_184 nb_dX9_by_0.2.1).trans rfl
set_option maxRecDepth 100000 in
theorem dX9_by_4 : decode cX9_by 4 = .ok (.ifCond .eq 30, 3) := (op_153 nb_dX9_by_0.2.2.1).trans rfl
theorem dX9_by_7 : decode cX9_by 7 = .ok (.iload_n 2, 1) := op_28 nb_dX9_by_0.2.2.2.1
theorem dX9_by_8 : decode cX9_by 8 = .ok (.i2l, 1) := op_133 nb_dX9_by_0.2.2.2.2.1
theorem dX9_by_9 : decode cX9_by 9 = .ok (.lconst 0, 1) := op_9 nb_dX9_by_0.2.2.2.2.2.1
theorem dX9_by_10 : decode cX9_by 10 = .ok (.iconst 1, 1) := op_4 nb_dX9_by_0.2.2.2.2.2.2.1
theorem dX9_by_11 : decode cX9_by 11 = .ok (.iload_n 1, 1) := op_27 nb_dX9_by_0.2.2.2.2.2.2.2.1
theorem dX9_by_12 : decode cX9_by 12 = .ok (.iconst 1, 1) := op_4 nb_dX9_by_0.2.2.2.2.2.2.2.2.1
theorem dX9_by_13 : decode cX9_by 13 = .ok (.isub, 1) := op_100 nb_dX9_by_0.2.2.2.2.2.2.2.2.2.1
theorem dX9_by_14 : decode cX9_by 14 = .ok (.ishl, 1) := op_120 nb_dX9_by_0.2.2.2.2.2.2.2.2.2.2.1
theorem dX9_by_15 : decode cX9_by 15 = .ok (.iconst 1, 1) := op_4 nb_dX9_by_0.2.2.2.2.2.2.2.2.2.2.2.1
theorem nb_dX9_by_16 : bls_w cX9_by [(16, [100]), (17, [133]), (18, [184, 0, 111]), (21, [153, 0, 13]), (24, [29]), (25, [133]), (26, [9]), (27, [10]), (28, [184, 0, 111]), (31, [154, 0, 5]), (34, [2]), (35, [172])] := bls_of (by decide +kernel)
theorem dX9_by_16 : decode cX9_by 16 = .ok (.isub, 1) := op_100 nb_dX9_by_16.1
theorem dX9_by_17 : decode cX9_by 17 = .ok (.i2l, 1) := op_133 nb_dX9_by_16.2.1
set_option maxRecDepth 100000 in
theorem dX9_by_18 : decode cX9_by 18 = .ok (.invokestatic 111, 3) := (op_184 nb_dX9_by_16.2.2.1).trans rfl
set_option maxRecDepth 100000 in
theorem dX9_by_21 : decode cX9_by 21 = .ok (.ifCond .eq 13, 3) := (op_153 nb_dX9_by_16.2.2.2.1).trans rfl
theorem dX9_by_24 : decode cX9_by 24 = .ok (.iload_n 3, 1) := op_29 nb_dX9_by_16.2.2.2.2.1
theorem dX9_by_25 : decode cX9_by 25 = .ok (.i2l, 1) := op_133 nb_dX9_by_16.2.2.2.2.2.1
theorem dX9_by_26 : decode cX9_by 26 = .ok (.lconst 0, 1) := op_9 nb_dX9_by_16.2.2.2.2.2.2.1
theorem dX9_by_27 : decode cX9_by 27 = .ok (.lconst 1, 1) := op_10 nb_dX9_by_16.2.2.2.2.2.2.2.1
set_option maxRecDepth 100000 in
theorem dX9_by_28 : decode cX9_by 28 = .ok (.invokestatic 111, 3) := (op_184 nb_dX9_by_16.2.2.2.2.2.2.2.2.1).trans rfl
set_option maxRecDepth 100000 in
theorem dX9_by_31 : decode cX9_by 31 = .ok (.ifCond .ne 5, 3) := (op_154 nb_dX9_by_16.2.2.2.2.2.2.2.2.2.1).trans rfl
theorem dX9_by_34 : decode cX9_by 34 = .ok (.iconst (-1), 1) := op_2 nb_dX9_by_16.2.2.2.2.2.2.2.2.2.2.1
theorem dX9_by_35 : decode cX9_by 35 = .ok (.ireturn, 1) := op_172 nb_dX9_by_16.2.2.2.2.2.2.2.2.2.2.2.1
theorem nb_dX9_by_36 : bls_w cX9_by [(36, [42]), (37, [27]), (38, [4]), (39, [28]), (40, [3]), (41, [182, 1, 121]), (44, [29]), (45, [154, 0, 10]), (48, [42]), (49, [180, 1, 105]), (52, [167, 0, 19]), (55, [42])] := bls_of (by decide +kernel)
theorem dX9_by_36 : decode cX9_by 36 = .ok (.aload_n 0, 1) := op_42 nb_dX9_by_36.1
theorem dX9_by_37 : decode cX9_by 37 = .ok (.iload_n 1, 1) := op_27 nb_dX9_by_36.2.1
theorem dX9_by_38 : decode cX9_by 38 = .ok (.iconst 1, 1) := op_4 nb_dX9_by_36.2.2.1
theorem dX9_by_39 : decode cX9_by 39 = .ok (.iload_n 2, 1) := op_28 nb_dX9_by_36.2.2.2.1
theorem dX9_by_40 : decode cX9_by 40 = .ok (.iconst 0, 1) := op_3 nb_dX9_by_36.2.2.2.2.1
set_option maxRecDepth 100000 in
theorem dX9_by_41 : decode cX9_by 41 = .ok (.invokevirtual 377, 3) := (op_182 nb_dX9_by_36.2.2.2.2.2.1).trans rfl
theorem dX9_by_44 : decode cX9_by 44 = .ok (.iload_n 3, 1) := op_29 nb_dX9_by_36.2.2.2.2.2.2.1
set_option maxRecDepth 100000 in
theorem dX9_by_45 : decode cX9_by 45 = .ok (.ifCond .ne 10, 3) := (op_154 nb_dX9_by_36.2.2.2.2.2.2.2.1).trans rfl
theorem dX9_by_48 : decode cX9_by 48 = .ok (.aload_n 0, 1) := op_42 nb_dX9_by_36.2.2.2.2.2.2.2.2.1
set_option maxRecDepth 100000 in
theorem dX9_by_49 : decode cX9_by 49 = .ok (.getfield 361, 3) := (op_180 nb_dX9_by_36.2.2.2.2.2.2.2.2.2.1).trans rfl
set_option maxRecDepth 100000 in
theorem dX9_by_52 : decode cX9_by 52 = .ok (.goto 19, 3) := (op_167 nb_dX9_by_36.2.2.2.2.2.2.2.2.2.2.1).trans rfl
theorem dX9_by_55 : decode cX9_by 55 = .ok (.aload_n 0, 1) := op_42 nb_dX9_by_36.2.2.2.2.2.2.2.2.2.2.2.1
theorem nb_dX9_by_56 : bls_w cX9_by [(56, [180, 1, 105]), (59, [154, 0, 8]), (62, [16, 254]), (64, [167, 0, 7]), (67, [42]), (68, [180, 1, 111]), (71, [172])] := bls_of (by decide +kernel)
set_option maxRecDepth 100000 in
theorem dX9_by_56 : decode cX9_by 56 = .ok (.getfield 361, 3) := (op_180 nb_dX9_by_56.1).trans rfl
set_option maxRecDepth 100000 in
theorem dX9_by_59 : decode cX9_by 59 = .ok (.ifCond .ne 8, 3) := (op_154 nb_dX9_by_56.2.1).trans rfl
set_option maxRecDepth 100000 in
theorem dX9_by_62 : decode cX9_by 62 = .ok (.bipush (-2), 2) := (op_16 nb_dX9_by_56.2.2.1).trans rfl
set_option maxRecDepth 100000 in
theorem dX9_by_64 : decode cX9_by 64 = .ok (.goto 7, 3) := (op_167 nb_dX9_by_56.2.2.2.1).trans rfl
theorem dX9_by_67 : decode cX9_by 67 = .ok (.aload_n 0, 1) := op_42 nb_dX9_by_56.2.2.2.2.1
set_option maxRecDepth 100000 in
theorem dX9_by_68 : decode cX9_by 68 = .ok (.getfield 367, 3) := (op_180 nb_dX9_by_56.2.2.2.2.2.1).trans rfl
theorem dX9_by_71 : decode cX9_by 71 = .ok (.ireturn, 1) := op_172 nb_dX9_by_56.2.2.2.2.2.2.1
def fX9_by (N : Nat) (x1 : Int32) (x2 : Int32) (x3 : Int32) (v_soughtBy : Int32) (v_sought : Int32) (v_soughtAt : Int32) (v_foundMany : Int32) (v_foundOrder : Int32) (v_order1 : List Int32) (v_placeIn : List Int32) : Option (Int32 × Int32 × Int32 × Int32 × Int32 × Int32 × List Int32 × List Int32) :=
    mm_bd1 (fX9_isStrip N x1) (fun (r_1 : Bool) =>
    if r_1 = false then
    (some ((-1 : Int32), v_soughtBy, v_sought, v_soughtAt, v_foundMany, v_foundOrder, v_order1, v_placeIn))
    else (mm_bd1 (fX9_within N ((x2).toInt64) (0 : Int64) ((((1 : Int32) <<< ((x1 - (1 : Int32)) &&& 31)) - (1 : Int32)).toInt64)) (fun (r_4 : Bool) =>
    if r_4 = false then
    (some ((-1 : Int32), v_soughtBy, v_sought, v_soughtAt, v_foundMany, v_foundOrder, v_order1, v_placeIn))
    else (mm_bd1 (fX9_within N ((x3).toInt64) (0 : Int64) (1 : Int64)) (fun (r_7 : Bool) =>
    if r_7 = false then
    (some ((-1 : Int32), v_soughtBy, v_sought, v_soughtAt, v_foundMany, v_foundOrder, v_order1, v_placeIn))
    else (mm_bd7 (fX9_seeks N x1 (1 : Int32) x2 (0 : Int32) v_soughtBy v_sought v_soughtAt v_foundMany v_foundOrder v_order1 v_placeIn) (fun (w_10 : Int32) (w_11 : Int32) (w_12 : Int32) (w_13 : Int32) (w_14 : Int32) (w_15 : List Int32) (w_16 : List Int32) =>
    if x3 = 0 then
    (some (w_13, w_10, w_11, w_12, w_13, w_14, w_15, w_16))
    else (if w_13 = 0 then
    (some ((-2 : Int32), w_10, w_11, w_12, w_13, w_14, w_15, w_16))
    else (some (w_14, w_10, w_11, w_12, w_13, w_14, w_15, w_16))))))))))

set_option maxHeartbeats 4000000 in
set_option maxRecDepth 100000 in
theorem ctX9_by {l : Launch} {D : va_G} {cI cL cS cH : ClassId} {a : Nat → Nat} {x1 : Int32} {x2 : Int32} {x3 : Int32} {v_keptMany : Int32} {v_done : Int32} {v_rowsOf : Int32} {v_columnsOf : Int32} {v_folded : Int32} {v_wronged : Int32} {v_tapeMany : Int32} {v_textMany : Int32} {v_base : Int32} {v_at : Int32} {v_ends : Int32} {v_fault : Int32} {v_opened : Int32} {v_bentMany : Int32} {v_bentWrong : Int32} {v_moreWorn : Int32} {v_planned : Int32} {v_allWrong : Int32} {v_allWorn : Int32} {v_z : Int32} {v_wishedField : Int32} {v_isFound : Bool} {v_bestWrong : Int32} {v_bestWorn : Int32} {v_bestMany : Int32} {v_soughtBy : Int32} {v_sought : Int32} {v_soughtAt : Int32} {v_foundMany : Int32} {v_foundOrder : Int32} {v_isKept : Bool} {v_imageRows : Int32} {v_imageColumns : Int32} {v_imageFolded : Int32} {v_imageWronged : Int32} {v_bodies : Int32} {v_ran : Int32} {v_ownKind : Int32} {v_ownNumber : Int32} {v_limit : List Int32} {v_changeWas : List Int32} {v_changeIs : List Int32} {v_shapeRows : List Int32} {v_shapeColumns : List Int32} {v_row : List Int32} {v_column : List Int32} {v_below : List Int32} {v_face : List Int32} {v_worn : List Int32} {v_lastBend : List Int32} {v_tape : List Int32} {v_text : List Int32} {v_names : List Int32} {v_bends : List Int32} {v_high : List Int32} {v_to : List Int32} {v_pileSize : List Int32} {v_planLine : List Int32} {v_planWay : List Int32} {v_way1 : List Int32} {v_bestWay : List Int32} {v_order1 : List Int32} {v_placeIn : List Int32} {v_bodyKind : List Int32} {v_trace : List Int32} {v_shelf : List Int32} {v_many : List Int32} {v_items : List Int64} {v_carried : List Int64} {r : Int32} {w_soughtBy : Int32} {w_sought : Int32} {w_soughtAt : Int32} {w_foundMany : Int32} {w_foundOrder : Int32} {w_order1 : List Int32} {w_placeIn : List Int32} {N d : Nat} (hd : 15 ≤ d) (hf : fX9_by N x1 x2 x3 v_soughtBy v_sought v_soughtAt v_foundMany v_foundOrder v_order1 v_placeIn = some (r, w_soughtBy, w_sought, w_soughtAt, w_foundMany, w_foundOrder, w_order1, w_placeIn)) : mm_Ct l yX9_by cX9_by 4 (some .int) d D (mm_T cI cL cS cH) [.ref (a 0), .int x1, .int x2, .int x3] (wd_X9 cI cL cS cH a v_keptMany v_done v_rowsOf v_columnsOf v_folded v_wronged v_tapeMany v_textMany v_base v_at v_ends v_fault v_opened v_bentMany v_bentWrong v_moreWorn v_planned v_allWrong v_allWorn v_z v_wishedField v_isFound v_bestWrong v_bestWorn v_bestMany v_soughtBy v_sought v_soughtAt v_foundMany v_foundOrder v_isKept v_imageRows v_imageColumns v_imageFolded v_imageWronged v_bodies v_ran v_ownKind v_ownNumber v_limit v_changeWas v_changeIs v_shapeRows v_shapeColumns v_row v_column v_below v_face v_worn v_lastBend v_tape v_text v_names v_bends v_high v_to v_pileSize v_planLine v_planWay v_way1 v_bestWay v_order1 v_placeIn v_bodyKind v_trace v_shelf v_many v_items v_carried) (wd_X9 cI cL cS cH a v_keptMany v_done v_rowsOf v_columnsOf v_folded v_wronged v_tapeMany v_textMany v_base v_at v_ends v_fault v_opened v_bentMany v_bentWrong v_moreWorn v_planned v_allWrong v_allWorn v_z v_wishedField v_isFound v_bestWrong v_bestWorn v_bestMany w_soughtBy w_sought w_soughtAt w_foundMany w_foundOrder v_isKept v_imageRows v_imageColumns v_imageFolded v_imageWronged v_bodies v_ran v_ownKind v_ownNumber v_limit v_changeWas v_changeIs v_shapeRows v_shapeColumns v_row v_column v_below v_face v_worn v_lastBend v_tape v_text v_names v_bends v_high v_to v_pileSize v_planLine v_planWay v_way1 v_bestWay w_order1 w_placeIn v_bodyKind v_trace v_shelf v_many v_items v_carried) (some (.int r)) := by
  refine mm_of (by decide) (Nat.le_of_ble_eq_true rfl) ?_
  intro p e s m args below meth c A H locs ls C0 hP hD hA hS hl
  have C0 : mm_Cx p s m args meth c RX9 cX9_by 4 (some .int) D (mm_T cI cL cS cH) A := C0
  obtain ⟨hx, hb, hml, hown, hts, hr, hlocks, hK, hSt⟩ := id C0
  have hl : lv_has ls 4 [(0, .ref (a 0)), (1, .int x1), (2, .int x2), (3, .int x3)] := hl
  unfold fX9_by at hf
  refine lv_iload_n hx hb dX9_by_0 rfl (lv_at hl 1 rfl) ?_
  obtain ⟨r_1, hc_2, hf⟩ := mm_bd1s hf
  refine mm_callS0 (rest := []) C0 lk_X9_343 (ctX9_isStrip (d := d - 1) (by omega) hc_2) (by omega) rfl hl.1 rfl (mm_cat rfl) dX9_by_1 hP hD hA hS (fun H locs hP hS => ?_)
  refine W.eq (g2 := F0 m 4 ls [.int (mm_b r_1)]) rfl ?_
  refine lv_if_eq (tgt := 34) hx hb dX9_by_4 (by decide) (fun c_3 => ?_) (fun c_3 => ?_)
  · have hf := mm_ip hf (mm_b0 c_3)
    refine lv_iconst (v := -1) hx hb dX9_by_34 (by decide) ?_
    apply mm_sub8 hf
    exact mm_iret C0 hP hD hS dX9_by_35
  · have hf := mm_in hf (mm_b1 c_3)
    refine lv_iload_n hx hb dX9_by_7 rfl (lv_at hl 2 rfl) ?_
    refine lv_i2l hx hb dX9_by_8 rfl ?_
    refine lv_lconst (v := 0) hx hb dX9_by_9 (by decide) ?_
    refine lv_iconst (v := 1) hx hb dX9_by_10 (by decide) ?_
    refine lv_iload_n hx hb dX9_by_11 rfl (lv_at hl 1 rfl) ?_
    refine lv_iconst (v := 1) hx hb dX9_by_12 (by decide) ?_
    refine lv_isub hx hb dX9_by_13 ?_
    refine lv_ishl hx hb dX9_by_14 ?_
    refine lv_iconst (v := 1) hx hb dX9_by_15 (by decide) ?_
    refine lv_isub hx hb dX9_by_16 ?_
    refine lv_i2l hx hb dX9_by_17 rfl ?_
    obtain ⟨r_4, hc_5, hf⟩ := mm_bd1s hf
    refine mm_callS0 (rest := []) C0 lk_X9_111 (ctX9_within (d := d - 1) (by omega) hc_5) (by omega) rfl hl.1 rfl (mm_cat rfl) dX9_by_18 hP hD hA hS (fun H locs hP hS => ?_)
    refine W.eq (g2 := F0 m 21 ls [.int (mm_b r_4)]) rfl ?_
    refine lv_if_eq (tgt := 34) hx hb dX9_by_21 (by decide) (fun c_6 => ?_) (fun c_6 => ?_)
    · have hf := mm_ip hf (mm_b0 c_6)
      refine lv_iconst (v := -1) hx hb dX9_by_34 (by decide) ?_
      apply mm_sub8 hf
      exact mm_iret C0 hP hD hS dX9_by_35
    · have hf := mm_in hf (mm_b1 c_6)
      refine lv_iload_n hx hb dX9_by_24 rfl (lv_at hl 3 rfl) ?_
      refine lv_i2l hx hb dX9_by_25 rfl ?_
      refine lv_lconst (v := 0) hx hb dX9_by_26 (by decide) ?_
      refine lv_lconst (v := 1) hx hb dX9_by_27 (by decide) ?_
      obtain ⟨r_7, hc_8, hf⟩ := mm_bd1s hf
      refine mm_callS0 (rest := []) C0 lk_X9_111 (ctX9_within (d := d - 1) (by omega) hc_8) (by omega) rfl hl.1 rfl (mm_cat rfl) dX9_by_28 hP hD hA hS (fun H locs hP hS => ?_)
      refine W.eq (g2 := F0 m 31 ls [.int (mm_b r_7)]) rfl ?_
      refine lv_if_ne (tgt := 36) hx hb dX9_by_31 (by decide) (fun c_9 => ?_) (fun c_9 => ?_)
      · have hf := mm_in hf (mm_b1 c_9)
        refine lv_aload_n hx hb dX9_by_36 rfl (lv_at hl 0 rfl) ?_
        refine lv_iload_n hx hb dX9_by_37 rfl (lv_at hl 1 rfl) ?_
        refine lv_iconst (v := 1) hx hb dX9_by_38 (by decide) ?_
        refine lv_iload_n hx hb dX9_by_39 rfl (lv_at hl 2 rfl) ?_
        refine lv_iconst (v := 0) hx hb dX9_by_40 (by decide) ?_
        refine mm_ct7 hf (fun w_10 w_11 w_12 w_13 w_14 w_15 w_16 hc_17 hf => ?_)
        refine mm_callVF (q0 := 0) (ci := 9) (rest := []) C0 lk_X9_377 (ctX9_seeks (a := a) (d := d - 1) (by omega) hc_17) (by omega) rfl hl.1 rfl (mm_cat rfl) dX9_by_41 hP hD hA hS rfl rfl (fun H locs hP hD hS => ?_)
        refine W.eq (g2 := F0 m 44 ls []) rfl ?_
        refine lv_iload_n hx hb dX9_by_44 rfl (lv_at hl 3 rfl) ?_
        refine lv_if_ne (tgt := 55) hx hb dX9_by_45 (by decide) (fun c_18 => ?_) (fun c_18 => ?_)
        · have hf := mm_in hf c_18
          refine lv_aload_n hx hb dX9_by_55 rfl (lv_at hl 0 rfl) ?_
          refine mm_get C0 hP iw_X9 0 rfl rfl 52 (by decide) fl_X9_361 rfl dX9_by_56 ?_
          refine lv_if_ne (tgt := 67) hx hb dX9_by_59 (by decide) (fun c_19 => ?_) (fun c_19 => ?_)
          · have hf := mm_in hf c_19
            refine lv_aload_n hx hb dX9_by_67 rfl (lv_at hl 0 rfl) ?_
            refine mm_get C0 hP iw_X9 0 rfl rfl 53 (by decide) fl_X9_367 rfl dX9_by_68 ?_
            apply mm_sub8 hf
            exact mm_iret C0 hP hD hS dX9_by_71
          · have hf := mm_ip hf c_19
            refine lv_bipush (v := -2) hx hb dX9_by_62 (by decide) ?_
            refine lv_goto (tgt := 71) hx hb dX9_by_64 (by decide) ?_
            apply mm_sub8 hf
            exact mm_iret C0 hP hD hS dX9_by_71
        · have hf := mm_ip hf c_18
          refine lv_aload_n hx hb dX9_by_48 rfl (lv_at hl 0 rfl) ?_
          refine mm_get C0 hP iw_X9 0 rfl rfl 52 (by decide) fl_X9_361 rfl dX9_by_49 ?_
          refine lv_goto (tgt := 71) hx hb dX9_by_52 (by decide) ?_
          apply mm_sub8 hf
          exact mm_iret C0 hP hD hS dX9_by_71
      · have hf := mm_ip hf (mm_b0 c_9)
        refine lv_iconst (v := -1) hx hb dX9_by_34 (by decide) ?_
        apply mm_sub8 hf
        exact mm_iret C0 hP hD hS dX9_by_35

theorem nb_dX9_with_0 : bls_w cX9_with [(0, [27]), (1, [184, 1, 87]), (4, [153, 0, 16]), (7, [28]), (8, [133]), (9, [9]), (10, [27]), (11, [4]), (12, [100]), (13, [133]), (14, [184, 0, 111]), (17, [154, 0, 5])] := bls_of (by decide +kernel)
theorem dX9_with_0 : decode cX9_with 0 = .ok (.iload_n 1, 1) := op_27 nb_dX9_with_0.1
set_option maxRecDepth 100000 in
theorem dX9_with_1 : decode cX9_with 1 = .ok (.invokestatic 343, 3) := (op_184 nb_dX9_with_0.2.1).trans rfl
set_option maxRecDepth 100000 in
theorem dX9_with_4 : decode cX9_with 4 = .ok (.ifCond .eq 16, 3) := (op_153 nb_dX9_with_0.2.2.1).trans rfl
theorem dX9_with_7 : decode cX9_with 7 = .ok (.iload_n 2, 1) := op_28 nb_dX9_with_0.2.2.2.1
theorem dX9_with_8 : decode cX9_with 8 = .ok (.i2l, 1) := op_133 nb_dX9_with_0.2.2.2.2.1
theorem dX9_with_9 : decode cX9_with 9 = .ok (.lconst 0, 1) := op_9 nb_dX9_with_0.2.2.2.2.2.1
theorem dX9_with_10 : decode cX9_with 10 = .ok (.iload_n 1, 1) := op_27 nb_dX9_with_0.2.2.2.2.2.2.1
theorem dX9_with_11 : decode cX9_with 11 = .ok (.iconst 1, 1) := op_4 nb_dX9_with_0.2.2.2.2.2.2.2.1
theorem dX9_with_12 : decode cX9_with 12 = .ok (.isub, 1) := op_100 nb_dX9_with_0.2.2.2.2.2.2.2.2.1
theorem dX9_with_13 : decode cX9_with 13 = .ok (.i2l, 1) := op_133 nb_dX9_with_0.2.2.2.2.2.2.2.2.2.1
set_option maxRecDepth 100000 in
theorem dX9_with_14 : decode cX9_with 14 = .ok (.invokestatic 111, 3) := (op_184 nb_dX9_with_0.2.2.2.2.2.2.2.2.2.2.1).trans rfl
set_option maxRecDepth 100000 in
theorem dX9_with_17 : decode cX9_with 17 = .ok (.ifCond .ne 5, 3) := (op_154 nb_dX9_with_0.2.2.2.2.2.2.2.2.2.2.2.1).trans rfl
theorem nb_dX9_with_20 : bls_w cX9_with [(20, [2]), (21, [172]), (22, [42]), (23, [27]), (24, [5]), (25, [28]), (26, [3]), (27, [182, 1, 121]), (30, [42]), (31, [180, 1, 105]), (34, [172])] := bls_of (by decide +kernel)
theorem dX9_with_20 : decode cX9_with 20 = .ok (.iconst (-1), 1) := op_2 nb_dX9_with_20.1
theorem dX9_with_21 : decode cX9_with 21 = .ok (.ireturn, 1) := op_172 nb_dX9_with_20.2.1
theorem dX9_with_22 : decode cX9_with 22 = .ok (.aload_n 0, 1) := op_42 nb_dX9_with_20.2.2.1
theorem dX9_with_23 : decode cX9_with 23 = .ok (.iload_n 1, 1) := op_27 nb_dX9_with_20.2.2.2.1
theorem dX9_with_24 : decode cX9_with 24 = .ok (.iconst 2, 1) := op_5 nb_dX9_with_20.2.2.2.2.1
theorem dX9_with_25 : decode cX9_with 25 = .ok (.iload_n 2, 1) := op_28 nb_dX9_with_20.2.2.2.2.2.1
theorem dX9_with_26 : decode cX9_with 26 = .ok (.iconst 0, 1) := op_3 nb_dX9_with_20.2.2.2.2.2.2.1
set_option maxRecDepth 100000 in
theorem dX9_with_27 : decode cX9_with 27 = .ok (.invokevirtual 377, 3) := (op_182 nb_dX9_with_20.2.2.2.2.2.2.2.1).trans rfl
theorem dX9_with_30 : decode cX9_with 30 = .ok (.aload_n 0, 1) := op_42 nb_dX9_with_20.2.2.2.2.2.2.2.2.1
set_option maxRecDepth 100000 in
theorem dX9_with_31 : decode cX9_with 31 = .ok (.getfield 361, 3) := (op_180 nb_dX9_with_20.2.2.2.2.2.2.2.2.2.1).trans rfl
theorem dX9_with_34 : decode cX9_with 34 = .ok (.ireturn, 1) := op_172 nb_dX9_with_20.2.2.2.2.2.2.2.2.2.2.1
def fX9_with (N : Nat) (x1 : Int32) (x2 : Int32) (v_soughtBy : Int32) (v_sought : Int32) (v_soughtAt : Int32) (v_foundMany : Int32) (v_foundOrder : Int32) (v_order1 : List Int32) (v_placeIn : List Int32) : Option (Int32 × Int32 × Int32 × Int32 × Int32 × Int32 × List Int32 × List Int32) :=
    mm_bd1 (fX9_isStrip N x1) (fun (r_1 : Bool) =>
    if r_1 = false then
    (some ((-1 : Int32), v_soughtBy, v_sought, v_soughtAt, v_foundMany, v_foundOrder, v_order1, v_placeIn))
    else (mm_bd1 (fX9_within N ((x2).toInt64) (0 : Int64) ((x1 - (1 : Int32)).toInt64)) (fun (r_4 : Bool) =>
    if r_4 = false then
    (some ((-1 : Int32), v_soughtBy, v_sought, v_soughtAt, v_foundMany, v_foundOrder, v_order1, v_placeIn))
    else (mm_bd7 (fX9_seeks N x1 (2 : Int32) x2 (0 : Int32) v_soughtBy v_sought v_soughtAt v_foundMany v_foundOrder v_order1 v_placeIn) (fun (w_7 : Int32) (w_8 : Int32) (w_9 : Int32) (w_10 : Int32) (w_11 : Int32) (w_12 : List Int32) (w_13 : List Int32) =>
    some (w_10, w_7, w_8, w_9, w_10, w_11, w_12, w_13))))))

set_option maxHeartbeats 4000000 in
set_option maxRecDepth 100000 in
theorem ctX9_with {l : Launch} {D : va_G} {cI cL cS cH : ClassId} {a : Nat → Nat} {x1 : Int32} {x2 : Int32} {v_keptMany : Int32} {v_done : Int32} {v_rowsOf : Int32} {v_columnsOf : Int32} {v_folded : Int32} {v_wronged : Int32} {v_tapeMany : Int32} {v_textMany : Int32} {v_base : Int32} {v_at : Int32} {v_ends : Int32} {v_fault : Int32} {v_opened : Int32} {v_bentMany : Int32} {v_bentWrong : Int32} {v_moreWorn : Int32} {v_planned : Int32} {v_allWrong : Int32} {v_allWorn : Int32} {v_z : Int32} {v_wishedField : Int32} {v_isFound : Bool} {v_bestWrong : Int32} {v_bestWorn : Int32} {v_bestMany : Int32} {v_soughtBy : Int32} {v_sought : Int32} {v_soughtAt : Int32} {v_foundMany : Int32} {v_foundOrder : Int32} {v_isKept : Bool} {v_imageRows : Int32} {v_imageColumns : Int32} {v_imageFolded : Int32} {v_imageWronged : Int32} {v_bodies : Int32} {v_ran : Int32} {v_ownKind : Int32} {v_ownNumber : Int32} {v_limit : List Int32} {v_changeWas : List Int32} {v_changeIs : List Int32} {v_shapeRows : List Int32} {v_shapeColumns : List Int32} {v_row : List Int32} {v_column : List Int32} {v_below : List Int32} {v_face : List Int32} {v_worn : List Int32} {v_lastBend : List Int32} {v_tape : List Int32} {v_text : List Int32} {v_names : List Int32} {v_bends : List Int32} {v_high : List Int32} {v_to : List Int32} {v_pileSize : List Int32} {v_planLine : List Int32} {v_planWay : List Int32} {v_way1 : List Int32} {v_bestWay : List Int32} {v_order1 : List Int32} {v_placeIn : List Int32} {v_bodyKind : List Int32} {v_trace : List Int32} {v_shelf : List Int32} {v_many : List Int32} {v_items : List Int64} {v_carried : List Int64} {r : Int32} {w_soughtBy : Int32} {w_sought : Int32} {w_soughtAt : Int32} {w_foundMany : Int32} {w_foundOrder : Int32} {w_order1 : List Int32} {w_placeIn : List Int32} {N d : Nat} (hd : 15 ≤ d) (hf : fX9_with N x1 x2 v_soughtBy v_sought v_soughtAt v_foundMany v_foundOrder v_order1 v_placeIn = some (r, w_soughtBy, w_sought, w_soughtAt, w_foundMany, w_foundOrder, w_order1, w_placeIn)) : mm_Ct l yX9_with cX9_with 3 (some .int) d D (mm_T cI cL cS cH) [.ref (a 0), .int x1, .int x2] (wd_X9 cI cL cS cH a v_keptMany v_done v_rowsOf v_columnsOf v_folded v_wronged v_tapeMany v_textMany v_base v_at v_ends v_fault v_opened v_bentMany v_bentWrong v_moreWorn v_planned v_allWrong v_allWorn v_z v_wishedField v_isFound v_bestWrong v_bestWorn v_bestMany v_soughtBy v_sought v_soughtAt v_foundMany v_foundOrder v_isKept v_imageRows v_imageColumns v_imageFolded v_imageWronged v_bodies v_ran v_ownKind v_ownNumber v_limit v_changeWas v_changeIs v_shapeRows v_shapeColumns v_row v_column v_below v_face v_worn v_lastBend v_tape v_text v_names v_bends v_high v_to v_pileSize v_planLine v_planWay v_way1 v_bestWay v_order1 v_placeIn v_bodyKind v_trace v_shelf v_many v_items v_carried) (wd_X9 cI cL cS cH a v_keptMany v_done v_rowsOf v_columnsOf v_folded v_wronged v_tapeMany v_textMany v_base v_at v_ends v_fault v_opened v_bentMany v_bentWrong v_moreWorn v_planned v_allWrong v_allWorn v_z v_wishedField v_isFound v_bestWrong v_bestWorn v_bestMany w_soughtBy w_sought w_soughtAt w_foundMany w_foundOrder v_isKept v_imageRows v_imageColumns v_imageFolded v_imageWronged v_bodies v_ran v_ownKind v_ownNumber v_limit v_changeWas v_changeIs v_shapeRows v_shapeColumns v_row v_column v_below v_face v_worn v_lastBend v_tape v_text v_names v_bends v_high v_to v_pileSize v_planLine v_planWay v_way1 v_bestWay w_order1 w_placeIn v_bodyKind v_trace v_shelf v_many v_items v_carried) (some (.int r)) := by
  refine mm_of (by decide) (Nat.le_of_ble_eq_true rfl) ?_
  intro p e s m args below meth c A H locs ls C0 hP hD hA hS hl
  have C0 : mm_Cx p s m args meth c RX9 cX9_with 3 (some .int) D (mm_T cI cL cS cH) A := C0
  obtain ⟨hx, hb, hml, hown, hts, hr, hlocks, hK, hSt⟩ := id C0
  have hl : lv_has ls 3 [(0, .ref (a 0)), (1, .int x1), (2, .int x2)] := hl
  unfold fX9_with at hf
  refine lv_iload_n hx hb dX9_with_0 rfl (lv_at hl 1 rfl) ?_
  obtain ⟨r_1, hc_2, hf⟩ := mm_bd1s hf
  refine mm_callS0 (rest := []) C0 lk_X9_343 (ctX9_isStrip (d := d - 1) (by omega) hc_2) (by omega) rfl hl.1 rfl (mm_cat rfl) dX9_with_1 hP hD hA hS (fun H locs hP hS => ?_)
  refine W.eq (g2 := F0 m 4 ls [.int (mm_b r_1)]) rfl ?_
  refine lv_if_eq (tgt := 20) hx hb dX9_with_4 (by decide) (fun c_3 => ?_) (fun c_3 => ?_)
  · have hf := mm_ip hf (mm_b0 c_3)
    refine lv_iconst (v := -1) hx hb dX9_with_20 (by decide) ?_
    apply mm_sub8 hf
    exact mm_iret C0 hP hD hS dX9_with_21
  · have hf := mm_in hf (mm_b1 c_3)
    refine lv_iload_n hx hb dX9_with_7 rfl (lv_at hl 2 rfl) ?_
    refine lv_i2l hx hb dX9_with_8 rfl ?_
    refine lv_lconst (v := 0) hx hb dX9_with_9 (by decide) ?_
    refine lv_iload_n hx hb dX9_with_10 rfl (lv_at hl 1 rfl) ?_
    refine lv_iconst (v := 1) hx hb dX9_with_11 (by decide) ?_
    refine lv_isub hx hb dX9_with_12 ?_
    refine lv_i2l hx hb dX9_with_13 rfl ?_
    obtain ⟨r_4, hc_5, hf⟩ := mm_bd1s hf
    refine mm_callS0 (rest := []) C0 lk_X9_111 (ctX9_within (d := d - 1) (by omega) hc_5) (by omega) rfl hl.1 rfl (mm_cat rfl) dX9_with_14 hP hD hA hS (fun H locs hP hS => ?_)
    refine W.eq (g2 := F0 m 17 ls [.int (mm_b r_4)]) rfl ?_
    refine lv_if_ne (tgt := 22) hx hb dX9_with_17 (by decide) (fun c_6 => ?_) (fun c_6 => ?_)
    · have hf := mm_in hf (mm_b1 c_6)
      refine lv_aload_n hx hb dX9_with_22 rfl (lv_at hl 0 rfl) ?_
      refine lv_iload_n hx hb dX9_with_23 rfl (lv_at hl 1 rfl) ?_
      refine lv_iconst (v := 2) hx hb dX9_with_24 (by decide) ?_
      refine lv_iload_n hx hb dX9_with_25 rfl (lv_at hl 2 rfl) ?_
      refine lv_iconst (v := 0) hx hb dX9_with_26 (by decide) ?_
      refine mm_ct7 hf (fun w_7 w_8 w_9 w_10 w_11 w_12 w_13 hc_14 hf => ?_)
      refine mm_callVF (q0 := 0) (ci := 9) (rest := []) C0 lk_X9_377 (ctX9_seeks (a := a) (d := d - 1) (by omega) hc_14) (by omega) rfl hl.1 rfl (mm_cat rfl) dX9_with_27 hP hD hA hS rfl rfl (fun H locs hP hD hS => ?_)
      refine W.eq (g2 := F0 m 30 ls []) rfl ?_
      refine lv_aload_n hx hb dX9_with_30 rfl (lv_at hl 0 rfl) ?_
      refine mm_get C0 hP iw_X9 0 rfl rfl 52 (by decide) fl_X9_361 rfl dX9_with_31 ?_
      apply mm_sub8 hf
      exact mm_iret C0 hP hD hS dX9_with_34
    · have hf := mm_ip hf (mm_b0 c_6)
      refine lv_iconst (v := -1) hx hb dX9_with_20 (by decide) ?_
      apply mm_sub8 hf
      exact mm_iret C0 hP hD hS dX9_with_21

theorem nb_dX9_image_0 : bls_w cX9_image [(0, [42]), (1, [4]), (2, [181, 1, 124]), (5, [42]), (6, [42]), (7, [180, 0, 121]), (10, [181, 1, 127]), (13, [42]), (14, [42]), (15, [180, 0, 124]), (18, [181, 1, 130]), (21, [42])] := bls_of (by decide +kernel)
theorem dX9_image_0 : decode cX9_image 0 = .ok (.aload_n 0, 1) := op_42 nb_dX9_image_0.1
theorem dX9_image_1 : decode cX9_image 1 = .ok (.iconst 1, 1) := op_4 nb_dX9_image_0.2.1
set_option maxRecDepth 100000 in
theorem dX9_image_2 : decode cX9_image 2 = .ok (.putfield 380, 3) := (op_181 nb_dX9_image_0.2.2.1).trans rfl
theorem dX9_image_5 : decode cX9_image 5 = .ok (.aload_n 0, 1) := op_42 nb_dX9_image_0.2.2.2.1
theorem dX9_image_6 : decode cX9_image 6 = .ok (.aload_n 0, 1) := op_42 nb_dX9_image_0.2.2.2.2.1
set_option maxRecDepth 100000 in
theorem dX9_image_7 : decode cX9_image 7 = .ok (.getfield 121, 3) := (op_180 nb_dX9_image_0.2.2.2.2.2.1).trans rfl
set_option maxRecDepth 100000 in
theorem dX9_image_10 : decode cX9_image 10 = .ok (.putfield 383, 3) := (op_181 nb_dX9_image_0.2.2.2.2.2.2.1).trans rfl
theorem dX9_image_13 : decode cX9_image 13 = .ok (.aload_n 0, 1) := op_42 nb_dX9_image_0.2.2.2.2.2.2.2.1
theorem dX9_image_14 : decode cX9_image 14 = .ok (.aload_n 0, 1) := op_42 nb_dX9_image_0.2.2.2.2.2.2.2.2.1
set_option maxRecDepth 100000 in
theorem dX9_image_15 : decode cX9_image 15 = .ok (.getfield 124, 3) := (op_180 nb_dX9_image_0.2.2.2.2.2.2.2.2.2.1).trans rfl
set_option maxRecDepth 100000 in
theorem dX9_image_18 : decode cX9_image 18 = .ok (.putfield 386, 3) := (op_181 nb_dX9_image_0.2.2.2.2.2.2.2.2.2.2.1).trans rfl
theorem dX9_image_21 : decode cX9_image 21 = .ok (.aload_n 0, 1) := op_42 nb_dX9_image_0.2.2.2.2.2.2.2.2.2.2.2.1
theorem nb_dX9_image_22 : bls_w cX9_image [(22, [42]), (23, [180, 0, 135]), (26, [181, 1, 133]), (29, [42]), (30, [42]), (31, [180, 0, 138]), (34, [181, 1, 136]), (37, [42]), (38, [3]), (39, [8]), (40, [182, 1, 70]), (43, [42])] := bls_of (by decide +kernel)
theorem dX9_image_22 : decode cX9_image 22 = .ok (.aload_n 0, 1) := op_42 nb_dX9_image_22.1
set_option maxRecDepth 100000 in
theorem dX9_image_23 : decode cX9_image 23 = .ok (.getfield 135, 3) := (op_180 nb_dX9_image_22.2.1).trans rfl
set_option maxRecDepth 100000 in
theorem dX9_image_26 : decode cX9_image 26 = .ok (.putfield 389, 3) := (op_181 nb_dX9_image_22.2.2.1).trans rfl
theorem dX9_image_29 : decode cX9_image 29 = .ok (.aload_n 0, 1) := op_42 nb_dX9_image_22.2.2.2.1
theorem dX9_image_30 : decode cX9_image 30 = .ok (.aload_n 0, 1) := op_42 nb_dX9_image_22.2.2.2.2.1
set_option maxRecDepth 100000 in
theorem dX9_image_31 : decode cX9_image 31 = .ok (.getfield 138, 3) := (op_180 nb_dX9_image_22.2.2.2.2.2.1).trans rfl
set_option maxRecDepth 100000 in
theorem dX9_image_34 : decode cX9_image 34 = .ok (.putfield 392, 3) := (op_181 nb_dX9_image_22.2.2.2.2.2.2.1).trans rfl
theorem dX9_image_37 : decode cX9_image 37 = .ok (.aload_n 0, 1) := op_42 nb_dX9_image_22.2.2.2.2.2.2.2.1
theorem dX9_image_38 : decode cX9_image 38 = .ok (.iconst 0, 1) := op_3 nb_dX9_image_22.2.2.2.2.2.2.2.2.1
theorem dX9_image_39 : decode cX9_image 39 = .ok (.iconst 5, 1) := op_8 nb_dX9_image_22.2.2.2.2.2.2.2.2.2.1
set_option maxRecDepth 100000 in
theorem dX9_image_40 : decode cX9_image 40 = .ok (.invokevirtual 326, 3) := (op_182 nb_dX9_image_22.2.2.2.2.2.2.2.2.2.2.1).trans rfl
theorem dX9_image_43 : decode cX9_image 43 = .ok (.aload_n 0, 1) := op_42 nb_dX9_image_22.2.2.2.2.2.2.2.2.2.2.2.1
theorem nb_dX9_image_44 : bls_w cX9_image [(44, [180, 0, 135]), (47, [172])] := bls_of (by decide +kernel)
set_option maxRecDepth 100000 in
theorem dX9_image_44 : decode cX9_image 44 = .ok (.getfield 135, 3) := (op_180 nb_dX9_image_44.1).trans rfl
theorem dX9_image_47 : decode cX9_image 47 = .ok (.ireturn, 1) := op_172 nb_dX9_image_44.2.1
def fX9_image (N : Nat) (v_rowsOf : Int32) (v_columnsOf : Int32) (v_folded : Int32) (v_wronged : Int32) (v_isKept : Bool) (v_imageRows : Int32) (v_imageColumns : Int32) (v_imageFolded : Int32) (v_imageWronged : Int32) (v_shapeRows : List Int32) (v_shapeColumns : List Int32) (v_row : List Int32) (v_column : List Int32) (v_below : List Int32) (v_face : List Int32) (v_worn : List Int32) (v_lastBend : List Int32) : Option (Int32 × Bool × Int32 × Int32 × Int32 × Int32 × List Int32 × List Int32 × List Int32 × List Int32 × List Int32 × List Int32 × List Int32 × List Int32) :=
    mm_bd8 (fX9_copies N (0 : Int32) (5 : Int32) v_shapeRows v_shapeColumns v_row v_column v_below v_face v_worn v_lastBend) (fun (w_1 : List Int32) (w_2 : List Int32) (w_3 : List Int32) (w_4 : List Int32) (w_5 : List Int32) (w_6 : List Int32) (w_7 : List Int32) (w_8 : List Int32) =>
    some (v_folded, true, v_rowsOf, v_columnsOf, v_folded, v_wronged, w_1, w_2, w_3, w_4, w_5, w_6, w_7, w_8))

set_option maxHeartbeats 4000000 in
set_option maxRecDepth 100000 in
theorem ctX9_image {l : Launch} {D : va_G} {cI cL cS cH : ClassId} {a : Nat → Nat}  {v_keptMany : Int32} {v_done : Int32} {v_rowsOf : Int32} {v_columnsOf : Int32} {v_folded : Int32} {v_wronged : Int32} {v_tapeMany : Int32} {v_textMany : Int32} {v_base : Int32} {v_at : Int32} {v_ends : Int32} {v_fault : Int32} {v_opened : Int32} {v_bentMany : Int32} {v_bentWrong : Int32} {v_moreWorn : Int32} {v_planned : Int32} {v_allWrong : Int32} {v_allWorn : Int32} {v_z : Int32} {v_wishedField : Int32} {v_isFound : Bool} {v_bestWrong : Int32} {v_bestWorn : Int32} {v_bestMany : Int32} {v_soughtBy : Int32} {v_sought : Int32} {v_soughtAt : Int32} {v_foundMany : Int32} {v_foundOrder : Int32} {v_isKept : Bool} {v_imageRows : Int32} {v_imageColumns : Int32} {v_imageFolded : Int32} {v_imageWronged : Int32} {v_bodies : Int32} {v_ran : Int32} {v_ownKind : Int32} {v_ownNumber : Int32} {v_limit : List Int32} {v_changeWas : List Int32} {v_changeIs : List Int32} {v_shapeRows : List Int32} {v_shapeColumns : List Int32} {v_row : List Int32} {v_column : List Int32} {v_below : List Int32} {v_face : List Int32} {v_worn : List Int32} {v_lastBend : List Int32} {v_tape : List Int32} {v_text : List Int32} {v_names : List Int32} {v_bends : List Int32} {v_high : List Int32} {v_to : List Int32} {v_pileSize : List Int32} {v_planLine : List Int32} {v_planWay : List Int32} {v_way1 : List Int32} {v_bestWay : List Int32} {v_order1 : List Int32} {v_placeIn : List Int32} {v_bodyKind : List Int32} {v_trace : List Int32} {v_shelf : List Int32} {v_many : List Int32} {v_items : List Int64} {v_carried : List Int64} {r : Int32} {w_isKept : Bool} {w_imageRows : Int32} {w_imageColumns : Int32} {w_imageFolded : Int32} {w_imageWronged : Int32} {w_shapeRows : List Int32} {w_shapeColumns : List Int32} {w_row : List Int32} {w_column : List Int32} {w_below : List Int32} {w_face : List Int32} {w_worn : List Int32} {w_lastBend : List Int32} {N d : Nat} (hd : 2 ≤ d) (hf : fX9_image N v_rowsOf v_columnsOf v_folded v_wronged v_isKept v_imageRows v_imageColumns v_imageFolded v_imageWronged v_shapeRows v_shapeColumns v_row v_column v_below v_face v_worn v_lastBend = some (r, w_isKept, w_imageRows, w_imageColumns, w_imageFolded, w_imageWronged, w_shapeRows, w_shapeColumns, w_row, w_column, w_below, w_face, w_worn, w_lastBend)) : mm_Ct l yX9_image cX9_image 1 (some .int) d D (mm_T cI cL cS cH) [.ref (a 0)] (wd_X9 cI cL cS cH a v_keptMany v_done v_rowsOf v_columnsOf v_folded v_wronged v_tapeMany v_textMany v_base v_at v_ends v_fault v_opened v_bentMany v_bentWrong v_moreWorn v_planned v_allWrong v_allWorn v_z v_wishedField v_isFound v_bestWrong v_bestWorn v_bestMany v_soughtBy v_sought v_soughtAt v_foundMany v_foundOrder v_isKept v_imageRows v_imageColumns v_imageFolded v_imageWronged v_bodies v_ran v_ownKind v_ownNumber v_limit v_changeWas v_changeIs v_shapeRows v_shapeColumns v_row v_column v_below v_face v_worn v_lastBend v_tape v_text v_names v_bends v_high v_to v_pileSize v_planLine v_planWay v_way1 v_bestWay v_order1 v_placeIn v_bodyKind v_trace v_shelf v_many v_items v_carried) (wd_X9 cI cL cS cH a v_keptMany v_done v_rowsOf v_columnsOf v_folded v_wronged v_tapeMany v_textMany v_base v_at v_ends v_fault v_opened v_bentMany v_bentWrong v_moreWorn v_planned v_allWrong v_allWorn v_z v_wishedField v_isFound v_bestWrong v_bestWorn v_bestMany v_soughtBy v_sought v_soughtAt v_foundMany v_foundOrder w_isKept w_imageRows w_imageColumns w_imageFolded w_imageWronged v_bodies v_ran v_ownKind v_ownNumber v_limit v_changeWas v_changeIs w_shapeRows w_shapeColumns w_row w_column w_below w_face w_worn w_lastBend v_tape v_text v_names v_bends v_high v_to v_pileSize v_planLine v_planWay v_way1 v_bestWay v_order1 v_placeIn v_bodyKind v_trace v_shelf v_many v_items v_carried) (some (.int r)) := by
  refine mm_of (by decide) (Nat.le_of_ble_eq_true rfl) ?_
  intro p e s m args below meth c A H locs ls C0 hP hD hA hS hl
  have C0 : mm_Cx p s m args meth c RX9 cX9_image 1 (some .int) D (mm_T cI cL cS cH) A := C0
  obtain ⟨hx, hb, hml, hown, hts, hr, hlocks, hK, hSt⟩ := id C0
  have hl : lv_has ls 1 [(0, .ref (a 0))] := hl
  unfold fX9_image at hf
  refine lv_aload_n hx hb dX9_image_0 rfl (lv_at hl 0 rfl) ?_
  refine lv_iconst (v := 1) hx hb dX9_image_1 (by decide) ?_
  refine mm_put C0 hP hD hS iw_X9 tyX9 tyX9_ok nmX9 0 rfl rfl 54 (by decide) fl_X9_380 rfl (v := .int (mm_b true)) mm_bn mm_bf (Nat.le_of_ble_eq_true rfl) dX9_image_2 (w2 := (wd_X9 cI cL cS cH a v_keptMany v_done v_rowsOf v_columnsOf v_folded v_wronged v_tapeMany v_textMany v_base v_at v_ends v_fault v_opened v_bentMany v_bentWrong v_moreWorn v_planned v_allWrong v_allWorn v_z v_wishedField v_isFound v_bestWrong v_bestWorn v_bestMany v_soughtBy v_sought v_soughtAt v_foundMany v_foundOrder true v_imageRows v_imageColumns v_imageFolded v_imageWronged v_bodies v_ran v_ownKind v_ownNumber v_limit v_changeWas v_changeIs v_shapeRows v_shapeColumns v_row v_column v_below v_face v_worn v_lastBend v_tape v_text v_names v_bends v_high v_to v_pileSize v_planLine v_planWay v_way1 v_bestWay v_order1 v_placeIn v_bodyKind v_trace v_shelf v_many v_items v_carried)) rfl (fun H locs hP hD hS => ?_)
  refine lv_aload_n hx hb dX9_image_5 rfl (lv_at hl 0 rfl) ?_
  refine lv_aload_n hx hb dX9_image_6 rfl (lv_at hl 0 rfl) ?_
  refine mm_get C0 hP iw_X9 0 rfl rfl 5 (by decide) fl_X9_121 rfl dX9_image_7 ?_
  refine mm_put C0 hP hD hS iw_X9 tyX9 tyX9_ok nmX9 0 rfl rfl 55 (by decide) fl_X9_383 rfl rfl rfl (Nat.le_of_ble_eq_true rfl) dX9_image_10 (w2 := (wd_X9 cI cL cS cH a v_keptMany v_done v_rowsOf v_columnsOf v_folded v_wronged v_tapeMany v_textMany v_base v_at v_ends v_fault v_opened v_bentMany v_bentWrong v_moreWorn v_planned v_allWrong v_allWorn v_z v_wishedField v_isFound v_bestWrong v_bestWorn v_bestMany v_soughtBy v_sought v_soughtAt v_foundMany v_foundOrder true v_rowsOf v_imageColumns v_imageFolded v_imageWronged v_bodies v_ran v_ownKind v_ownNumber v_limit v_changeWas v_changeIs v_shapeRows v_shapeColumns v_row v_column v_below v_face v_worn v_lastBend v_tape v_text v_names v_bends v_high v_to v_pileSize v_planLine v_planWay v_way1 v_bestWay v_order1 v_placeIn v_bodyKind v_trace v_shelf v_many v_items v_carried)) rfl (fun H locs hP hD hS => ?_)
  refine lv_aload_n hx hb dX9_image_13 rfl (lv_at hl 0 rfl) ?_
  refine lv_aload_n hx hb dX9_image_14 rfl (lv_at hl 0 rfl) ?_
  refine mm_get C0 hP iw_X9 0 rfl rfl 6 (by decide) fl_X9_124 rfl dX9_image_15 ?_
  refine mm_put C0 hP hD hS iw_X9 tyX9 tyX9_ok nmX9 0 rfl rfl 56 (by decide) fl_X9_386 rfl rfl rfl (Nat.le_of_ble_eq_true rfl) dX9_image_18 (w2 := (wd_X9 cI cL cS cH a v_keptMany v_done v_rowsOf v_columnsOf v_folded v_wronged v_tapeMany v_textMany v_base v_at v_ends v_fault v_opened v_bentMany v_bentWrong v_moreWorn v_planned v_allWrong v_allWorn v_z v_wishedField v_isFound v_bestWrong v_bestWorn v_bestMany v_soughtBy v_sought v_soughtAt v_foundMany v_foundOrder true v_rowsOf v_columnsOf v_imageFolded v_imageWronged v_bodies v_ran v_ownKind v_ownNumber v_limit v_changeWas v_changeIs v_shapeRows v_shapeColumns v_row v_column v_below v_face v_worn v_lastBend v_tape v_text v_names v_bends v_high v_to v_pileSize v_planLine v_planWay v_way1 v_bestWay v_order1 v_placeIn v_bodyKind v_trace v_shelf v_many v_items v_carried)) rfl (fun H locs hP hD hS => ?_)
  refine lv_aload_n hx hb dX9_image_21 rfl (lv_at hl 0 rfl) ?_
  refine lv_aload_n hx hb dX9_image_22 rfl (lv_at hl 0 rfl) ?_
  refine mm_get C0 hP iw_X9 0 rfl rfl 15 (by decide) fl_X9_135 rfl dX9_image_23 ?_
  refine mm_put C0 hP hD hS iw_X9 tyX9 tyX9_ok nmX9 0 rfl rfl 57 (by decide) fl_X9_389 rfl rfl rfl (Nat.le_of_ble_eq_true rfl) dX9_image_26 (w2 := (wd_X9 cI cL cS cH a v_keptMany v_done v_rowsOf v_columnsOf v_folded v_wronged v_tapeMany v_textMany v_base v_at v_ends v_fault v_opened v_bentMany v_bentWrong v_moreWorn v_planned v_allWrong v_allWorn v_z v_wishedField v_isFound v_bestWrong v_bestWorn v_bestMany v_soughtBy v_sought v_soughtAt v_foundMany v_foundOrder true v_rowsOf v_columnsOf v_folded v_imageWronged v_bodies v_ran v_ownKind v_ownNumber v_limit v_changeWas v_changeIs v_shapeRows v_shapeColumns v_row v_column v_below v_face v_worn v_lastBend v_tape v_text v_names v_bends v_high v_to v_pileSize v_planLine v_planWay v_way1 v_bestWay v_order1 v_placeIn v_bodyKind v_trace v_shelf v_many v_items v_carried)) rfl (fun H locs hP hD hS => ?_)
  refine lv_aload_n hx hb dX9_image_29 rfl (lv_at hl 0 rfl) ?_
  refine lv_aload_n hx hb dX9_image_30 rfl (lv_at hl 0 rfl) ?_
  refine mm_get C0 hP iw_X9 0 rfl rfl 16 (by decide) fl_X9_138 rfl dX9_image_31 ?_
  refine mm_put C0 hP hD hS iw_X9 tyX9 tyX9_ok nmX9 0 rfl rfl 58 (by decide) fl_X9_392 rfl rfl rfl (Nat.le_of_ble_eq_true rfl) dX9_image_34 (w2 := (wd_X9 cI cL cS cH a v_keptMany v_done v_rowsOf v_columnsOf v_folded v_wronged v_tapeMany v_textMany v_base v_at v_ends v_fault v_opened v_bentMany v_bentWrong v_moreWorn v_planned v_allWrong v_allWorn v_z v_wishedField v_isFound v_bestWrong v_bestWorn v_bestMany v_soughtBy v_sought v_soughtAt v_foundMany v_foundOrder true v_rowsOf v_columnsOf v_folded v_wronged v_bodies v_ran v_ownKind v_ownNumber v_limit v_changeWas v_changeIs v_shapeRows v_shapeColumns v_row v_column v_below v_face v_worn v_lastBend v_tape v_text v_names v_bends v_high v_to v_pileSize v_planLine v_planWay v_way1 v_bestWay v_order1 v_placeIn v_bodyKind v_trace v_shelf v_many v_items v_carried)) rfl (fun H locs hP hD hS => ?_)
  refine lv_aload_n hx hb dX9_image_37 rfl (lv_at hl 0 rfl) ?_
  refine lv_iconst (v := 0) hx hb dX9_image_38 (by decide) ?_
  refine lv_iconst (v := 5) hx hb dX9_image_39 (by decide) ?_
  refine mm_ct8 hf (fun w_1 w_2 w_3 w_4 w_5 w_6 w_7 w_8 hc_9 hf => ?_)
  refine mm_callVF (q0 := 0) (ci := 9) (rest := []) C0 lk_X9_326 (ctX9_copies (a := a) (d := d - 1) (by omega) hc_9) (by omega) rfl hl.1 rfl (mm_cat rfl) dX9_image_40 hP hD hA hS rfl rfl (fun H locs hP hD hS => ?_)
  refine W.eq (g2 := F0 m 43 ls []) rfl ?_
  refine lv_aload_n hx hb dX9_image_43 rfl (lv_at hl 0 rfl) ?_
  refine mm_get C0 hP iw_X9 0 rfl rfl 15 (by decide) fl_X9_135 rfl dX9_image_44 ?_
  apply mm_sub14 hf
  exact mm_iret C0 hP hD hS dX9_image_47

theorem nb_dX9_back_0 : bls_w cX9_back [(0, [42]), (1, [180, 1, 124]), (4, [154, 0, 6]), (7, [16, 251]), (9, [172]), (10, [42]), (11, [42]), (12, [180, 1, 127]), (15, [181, 0, 121]), (18, [42]), (19, [42]), (20, [180, 1, 130])] := bls_of (by decide +kernel)
theorem dX9_back_0 : decode cX9_back 0 = .ok (.aload_n 0, 1) := op_42 nb_dX9_back_0.1
set_option maxRecDepth 100000 in
theorem dX9_back_1 : decode cX9_back 1 = .ok (.getfield 380, 3) := (op_180 nb_dX9_back_0.2.1).trans rfl
set_option maxRecDepth 100000 in
theorem dX9_back_4 : decode cX9_back 4 = .ok (.ifCond .ne 6, 3) := (op_154 nb_dX9_back_0.2.2.1).trans rfl
set_option maxRecDepth 100000 in
theorem dX9_back_7 : decode cX9_back 7 = .ok (.bipush (-5), 2) := (op_16 nb_dX9_back_0.2.2.2.1).trans rfl
theorem dX9_back_9 : decode cX9_back 9 = .ok (.ireturn, 1) := op_172 nb_dX9_back_0.2.2.2.2.1
theorem dX9_back_10 : decode cX9_back 10 = .ok (.aload_n 0, 1) := op_42 nb_dX9_back_0.2.2.2.2.2.1
theorem dX9_back_11 : decode cX9_back 11 = .ok (.aload_n 0, 1) := op_42 nb_dX9_back_0.2.2.2.2.2.2.1
set_option maxRecDepth 100000 in
theorem dX9_back_12 : decode cX9_back 12 = .ok (.getfield 383, 3) := (op_180 nb_dX9_back_0.2.2.2.2.2.2.2.1).trans rfl
set_option maxRecDepth 100000 in
theorem dX9_back_15 : decode cX9_back 15 = .ok (.putfield 121, 3) := (op_181 nb_dX9_back_0.2.2.2.2.2.2.2.2.1).trans rfl
theorem dX9_back_18 : decode cX9_back 18 = .ok (.aload_n 0, 1) := op_42 nb_dX9_back_0.2.2.2.2.2.2.2.2.2.1
theorem dX9_back_19 : decode cX9_back 19 = .ok (.aload_n 0, 1) := op_42 nb_dX9_back_0.2.2.2.2.2.2.2.2.2.2.1
set_option maxRecDepth 100000 in
theorem dX9_back_20 : decode cX9_back 20 = .ok (.getfield 386, 3) := (op_180 nb_dX9_back_0.2.2.2.2.2.2.2.2.2.2.2.1).trans rfl
theorem nb_dX9_back_23 : bls_w cX9_back [(23, [181, 0, 124]), (26, [42]), (27, [42]), (28, [180, 1, 133]), (31, [181, 0, 135]), (34, [42]), (35, [42]), (36, [180, 1, 136]), (39, [181, 0, 138]), (42, [42]), (43, [8]), (44, [3])] := bls_of (by decide +kernel)
set_option maxRecDepth 100000 in
theorem dX9_back_23 : decode cX9_back 23 = .ok (.putfield 124, 3) := (op_181 nb_dX9_back_23.1).trans rfl
theorem dX9_back_26 : decode cX9_back 26 = .ok (.aload_n 0, 1) := op_42 nb_dX9_back_23.2.1
theorem dX9_back_27 : decode cX9_back 27 = .ok (.aload_n 0, 1) := op_42 nb_dX9_back_23.2.2.1
set_option maxRecDepth 100000 in
theorem dX9_back_28 : decode cX9_back 28 = .ok (.getfield 389, 3) := (op_180 nb_dX9_back_23.2.2.2.1).trans rfl
set_option maxRecDepth 100000 in
theorem dX9_back_31 : decode cX9_back 31 = .ok (.putfield 135, 3) := (op_181 nb_dX9_back_23.2.2.2.2.1).trans rfl
theorem dX9_back_34 : decode cX9_back 34 = .ok (.aload_n 0, 1) := op_42 nb_dX9_back_23.2.2.2.2.2.1
theorem dX9_back_35 : decode cX9_back 35 = .ok (.aload_n 0, 1) := op_42 nb_dX9_back_23.2.2.2.2.2.2.1
set_option maxRecDepth 100000 in
theorem dX9_back_36 : decode cX9_back 36 = .ok (.getfield 392, 3) := (op_180 nb_dX9_back_23.2.2.2.2.2.2.2.1).trans rfl
set_option maxRecDepth 100000 in
theorem dX9_back_39 : decode cX9_back 39 = .ok (.putfield 138, 3) := (op_181 nb_dX9_back_23.2.2.2.2.2.2.2.2.1).trans rfl
theorem dX9_back_42 : decode cX9_back 42 = .ok (.aload_n 0, 1) := op_42 nb_dX9_back_23.2.2.2.2.2.2.2.2.2.1
theorem dX9_back_43 : decode cX9_back 43 = .ok (.iconst 5, 1) := op_8 nb_dX9_back_23.2.2.2.2.2.2.2.2.2.2.1
theorem dX9_back_44 : decode cX9_back 44 = .ok (.iconst 0, 1) := op_3 nb_dX9_back_23.2.2.2.2.2.2.2.2.2.2.2.1
theorem nb_dX9_back_45 : bls_w cX9_back [(45, [182, 1, 70]), (48, [42]), (49, [180, 0, 135]), (52, [172])] := bls_of (by decide +kernel)
set_option maxRecDepth 100000 in
theorem dX9_back_45 : decode cX9_back 45 = .ok (.invokevirtual 326, 3) := (op_182 nb_dX9_back_45.1).trans rfl
theorem dX9_back_48 : decode cX9_back 48 = .ok (.aload_n 0, 1) := op_42 nb_dX9_back_45.2.1
set_option maxRecDepth 100000 in
theorem dX9_back_49 : decode cX9_back 49 = .ok (.getfield 135, 3) := (op_180 nb_dX9_back_45.2.2.1).trans rfl
theorem dX9_back_52 : decode cX9_back 52 = .ok (.ireturn, 1) := op_172 nb_dX9_back_45.2.2.2.1
def fX9_back (N : Nat) (v_rowsOf : Int32) (v_columnsOf : Int32) (v_folded : Int32) (v_wronged : Int32) (v_isKept : Bool) (v_imageRows : Int32) (v_imageColumns : Int32) (v_imageFolded : Int32) (v_imageWronged : Int32) (v_shapeRows : List Int32) (v_shapeColumns : List Int32) (v_row : List Int32) (v_column : List Int32) (v_below : List Int32) (v_face : List Int32) (v_worn : List Int32) (v_lastBend : List Int32) : Option (Int32 × Int32 × Int32 × Int32 × Int32 × List Int32 × List Int32 × List Int32 × List Int32 × List Int32 × List Int32 × List Int32 × List Int32) :=
    if v_isKept = false then
    (some ((-5 : Int32), v_rowsOf, v_columnsOf, v_folded, v_wronged, v_shapeRows, v_shapeColumns, v_row, v_column, v_below, v_face, v_worn, v_lastBend))
    else (mm_bd8 (fX9_copies N (5 : Int32) (0 : Int32) v_shapeRows v_shapeColumns v_row v_column v_below v_face v_worn v_lastBend) (fun (w_2 : List Int32) (w_3 : List Int32) (w_4 : List Int32) (w_5 : List Int32) (w_6 : List Int32) (w_7 : List Int32) (w_8 : List Int32) (w_9 : List Int32) =>
    some (v_imageFolded, v_imageRows, v_imageColumns, v_imageFolded, v_imageWronged, w_2, w_3, w_4, w_5, w_6, w_7, w_8, w_9)))

set_option maxHeartbeats 4000000 in
set_option maxRecDepth 100000 in
theorem ctX9_back {l : Launch} {D : va_G} {cI cL cS cH : ClassId} {a : Nat → Nat}  {v_keptMany : Int32} {v_done : Int32} {v_rowsOf : Int32} {v_columnsOf : Int32} {v_folded : Int32} {v_wronged : Int32} {v_tapeMany : Int32} {v_textMany : Int32} {v_base : Int32} {v_at : Int32} {v_ends : Int32} {v_fault : Int32} {v_opened : Int32} {v_bentMany : Int32} {v_bentWrong : Int32} {v_moreWorn : Int32} {v_planned : Int32} {v_allWrong : Int32} {v_allWorn : Int32} {v_z : Int32} {v_wishedField : Int32} {v_isFound : Bool} {v_bestWrong : Int32} {v_bestWorn : Int32} {v_bestMany : Int32} {v_soughtBy : Int32} {v_sought : Int32} {v_soughtAt : Int32} {v_foundMany : Int32} {v_foundOrder : Int32} {v_isKept : Bool} {v_imageRows : Int32} {v_imageColumns : Int32} {v_imageFolded : Int32} {v_imageWronged : Int32} {v_bodies : Int32} {v_ran : Int32} {v_ownKind : Int32} {v_ownNumber : Int32} {v_limit : List Int32} {v_changeWas : List Int32} {v_changeIs : List Int32} {v_shapeRows : List Int32} {v_shapeColumns : List Int32} {v_row : List Int32} {v_column : List Int32} {v_below : List Int32} {v_face : List Int32} {v_worn : List Int32} {v_lastBend : List Int32} {v_tape : List Int32} {v_text : List Int32} {v_names : List Int32} {v_bends : List Int32} {v_high : List Int32} {v_to : List Int32} {v_pileSize : List Int32} {v_planLine : List Int32} {v_planWay : List Int32} {v_way1 : List Int32} {v_bestWay : List Int32} {v_order1 : List Int32} {v_placeIn : List Int32} {v_bodyKind : List Int32} {v_trace : List Int32} {v_shelf : List Int32} {v_many : List Int32} {v_items : List Int64} {v_carried : List Int64} {r : Int32} {w_rowsOf : Int32} {w_columnsOf : Int32} {w_folded : Int32} {w_wronged : Int32} {w_shapeRows : List Int32} {w_shapeColumns : List Int32} {w_row : List Int32} {w_column : List Int32} {w_below : List Int32} {w_face : List Int32} {w_worn : List Int32} {w_lastBend : List Int32} {N d : Nat} (hd : 2 ≤ d) (hf : fX9_back N v_rowsOf v_columnsOf v_folded v_wronged v_isKept v_imageRows v_imageColumns v_imageFolded v_imageWronged v_shapeRows v_shapeColumns v_row v_column v_below v_face v_worn v_lastBend = some (r, w_rowsOf, w_columnsOf, w_folded, w_wronged, w_shapeRows, w_shapeColumns, w_row, w_column, w_below, w_face, w_worn, w_lastBend)) : mm_Ct l yX9_back cX9_back 1 (some .int) d D (mm_T cI cL cS cH) [.ref (a 0)] (wd_X9 cI cL cS cH a v_keptMany v_done v_rowsOf v_columnsOf v_folded v_wronged v_tapeMany v_textMany v_base v_at v_ends v_fault v_opened v_bentMany v_bentWrong v_moreWorn v_planned v_allWrong v_allWorn v_z v_wishedField v_isFound v_bestWrong v_bestWorn v_bestMany v_soughtBy v_sought v_soughtAt v_foundMany v_foundOrder v_isKept v_imageRows v_imageColumns v_imageFolded v_imageWronged v_bodies v_ran v_ownKind v_ownNumber v_limit v_changeWas v_changeIs v_shapeRows v_shapeColumns v_row v_column v_below v_face v_worn v_lastBend v_tape v_text v_names v_bends v_high v_to v_pileSize v_planLine v_planWay v_way1 v_bestWay v_order1 v_placeIn v_bodyKind v_trace v_shelf v_many v_items v_carried) (wd_X9 cI cL cS cH a v_keptMany v_done w_rowsOf w_columnsOf w_folded w_wronged v_tapeMany v_textMany v_base v_at v_ends v_fault v_opened v_bentMany v_bentWrong v_moreWorn v_planned v_allWrong v_allWorn v_z v_wishedField v_isFound v_bestWrong v_bestWorn v_bestMany v_soughtBy v_sought v_soughtAt v_foundMany v_foundOrder v_isKept v_imageRows v_imageColumns v_imageFolded v_imageWronged v_bodies v_ran v_ownKind v_ownNumber v_limit v_changeWas v_changeIs w_shapeRows w_shapeColumns w_row w_column w_below w_face w_worn w_lastBend v_tape v_text v_names v_bends v_high v_to v_pileSize v_planLine v_planWay v_way1 v_bestWay v_order1 v_placeIn v_bodyKind v_trace v_shelf v_many v_items v_carried) (some (.int r)) := by
  refine mm_of (by decide) (Nat.le_of_ble_eq_true rfl) ?_
  intro p e s m args below meth c A H locs ls C0 hP hD hA hS hl
  have C0 : mm_Cx p s m args meth c RX9 cX9_back 1 (some .int) D (mm_T cI cL cS cH) A := C0
  obtain ⟨hx, hb, hml, hown, hts, hr, hlocks, hK, hSt⟩ := id C0
  have hl : lv_has ls 1 [(0, .ref (a 0))] := hl
  unfold fX9_back at hf
  refine lv_aload_n hx hb dX9_back_0 rfl (lv_at hl 0 rfl) ?_
  refine mm_get C0 hP iw_X9 0 rfl rfl 54 (by decide) fl_X9_380 rfl dX9_back_1 ?_
  refine lv_if_ne (tgt := 10) hx hb dX9_back_4 (by decide) (fun c_1 => ?_) (fun c_1 => ?_)
  · have hf := mm_in hf (mm_b1 c_1)
    refine lv_aload_n hx hb dX9_back_10 rfl (lv_at hl 0 rfl) ?_
    refine lv_aload_n hx hb dX9_back_11 rfl (lv_at hl 0 rfl) ?_
    refine mm_get C0 hP iw_X9 0 rfl rfl 55 (by decide) fl_X9_383 rfl dX9_back_12 ?_
    refine mm_put C0 hP hD hS iw_X9 tyX9 tyX9_ok nmX9 0 rfl rfl 5 (by decide) fl_X9_121 rfl rfl rfl (Nat.le_of_ble_eq_true rfl) dX9_back_15 (w2 := (wd_X9 cI cL cS cH a v_keptMany v_done v_imageRows v_columnsOf v_folded v_wronged v_tapeMany v_textMany v_base v_at v_ends v_fault v_opened v_bentMany v_bentWrong v_moreWorn v_planned v_allWrong v_allWorn v_z v_wishedField v_isFound v_bestWrong v_bestWorn v_bestMany v_soughtBy v_sought v_soughtAt v_foundMany v_foundOrder v_isKept v_imageRows v_imageColumns v_imageFolded v_imageWronged v_bodies v_ran v_ownKind v_ownNumber v_limit v_changeWas v_changeIs v_shapeRows v_shapeColumns v_row v_column v_below v_face v_worn v_lastBend v_tape v_text v_names v_bends v_high v_to v_pileSize v_planLine v_planWay v_way1 v_bestWay v_order1 v_placeIn v_bodyKind v_trace v_shelf v_many v_items v_carried)) rfl (fun H locs hP hD hS => ?_)
    refine lv_aload_n hx hb dX9_back_18 rfl (lv_at hl 0 rfl) ?_
    refine lv_aload_n hx hb dX9_back_19 rfl (lv_at hl 0 rfl) ?_
    refine mm_get C0 hP iw_X9 0 rfl rfl 56 (by decide) fl_X9_386 rfl dX9_back_20 ?_
    refine mm_put C0 hP hD hS iw_X9 tyX9 tyX9_ok nmX9 0 rfl rfl 6 (by decide) fl_X9_124 rfl rfl rfl (Nat.le_of_ble_eq_true rfl) dX9_back_23 (w2 := (wd_X9 cI cL cS cH a v_keptMany v_done v_imageRows v_imageColumns v_folded v_wronged v_tapeMany v_textMany v_base v_at v_ends v_fault v_opened v_bentMany v_bentWrong v_moreWorn v_planned v_allWrong v_allWorn v_z v_wishedField v_isFound v_bestWrong v_bestWorn v_bestMany v_soughtBy v_sought v_soughtAt v_foundMany v_foundOrder v_isKept v_imageRows v_imageColumns v_imageFolded v_imageWronged v_bodies v_ran v_ownKind v_ownNumber v_limit v_changeWas v_changeIs v_shapeRows v_shapeColumns v_row v_column v_below v_face v_worn v_lastBend v_tape v_text v_names v_bends v_high v_to v_pileSize v_planLine v_planWay v_way1 v_bestWay v_order1 v_placeIn v_bodyKind v_trace v_shelf v_many v_items v_carried)) rfl (fun H locs hP hD hS => ?_)
    refine lv_aload_n hx hb dX9_back_26 rfl (lv_at hl 0 rfl) ?_
    refine lv_aload_n hx hb dX9_back_27 rfl (lv_at hl 0 rfl) ?_
    refine mm_get C0 hP iw_X9 0 rfl rfl 57 (by decide) fl_X9_389 rfl dX9_back_28 ?_
    refine mm_put C0 hP hD hS iw_X9 tyX9 tyX9_ok nmX9 0 rfl rfl 15 (by decide) fl_X9_135 rfl rfl rfl (Nat.le_of_ble_eq_true rfl) dX9_back_31 (w2 := (wd_X9 cI cL cS cH a v_keptMany v_done v_imageRows v_imageColumns v_imageFolded v_wronged v_tapeMany v_textMany v_base v_at v_ends v_fault v_opened v_bentMany v_bentWrong v_moreWorn v_planned v_allWrong v_allWorn v_z v_wishedField v_isFound v_bestWrong v_bestWorn v_bestMany v_soughtBy v_sought v_soughtAt v_foundMany v_foundOrder v_isKept v_imageRows v_imageColumns v_imageFolded v_imageWronged v_bodies v_ran v_ownKind v_ownNumber v_limit v_changeWas v_changeIs v_shapeRows v_shapeColumns v_row v_column v_below v_face v_worn v_lastBend v_tape v_text v_names v_bends v_high v_to v_pileSize v_planLine v_planWay v_way1 v_bestWay v_order1 v_placeIn v_bodyKind v_trace v_shelf v_many v_items v_carried)) rfl (fun H locs hP hD hS => ?_)
    refine lv_aload_n hx hb dX9_back_34 rfl (lv_at hl 0 rfl) ?_
    refine lv_aload_n hx hb dX9_back_35 rfl (lv_at hl 0 rfl) ?_
    refine mm_get C0 hP iw_X9 0 rfl rfl 58 (by decide) fl_X9_392 rfl dX9_back_36 ?_
    refine mm_put C0 hP hD hS iw_X9 tyX9 tyX9_ok nmX9 0 rfl rfl 16 (by decide) fl_X9_138 rfl rfl rfl (Nat.le_of_ble_eq_true rfl) dX9_back_39 (w2 := (wd_X9 cI cL cS cH a v_keptMany v_done v_imageRows v_imageColumns v_imageFolded v_imageWronged v_tapeMany v_textMany v_base v_at v_ends v_fault v_opened v_bentMany v_bentWrong v_moreWorn v_planned v_allWrong v_allWorn v_z v_wishedField v_isFound v_bestWrong v_bestWorn v_bestMany v_soughtBy v_sought v_soughtAt v_foundMany v_foundOrder v_isKept v_imageRows v_imageColumns v_imageFolded v_imageWronged v_bodies v_ran v_ownKind v_ownNumber v_limit v_changeWas v_changeIs v_shapeRows v_shapeColumns v_row v_column v_below v_face v_worn v_lastBend v_tape v_text v_names v_bends v_high v_to v_pileSize v_planLine v_planWay v_way1 v_bestWay v_order1 v_placeIn v_bodyKind v_trace v_shelf v_many v_items v_carried)) rfl (fun H locs hP hD hS => ?_)
    refine lv_aload_n hx hb dX9_back_42 rfl (lv_at hl 0 rfl) ?_
    refine lv_iconst (v := 5) hx hb dX9_back_43 (by decide) ?_
    refine lv_iconst (v := 0) hx hb dX9_back_44 (by decide) ?_
    refine mm_ct8 hf (fun w_2 w_3 w_4 w_5 w_6 w_7 w_8 w_9 hc_10 hf => ?_)
    refine mm_callVF (q0 := 0) (ci := 9) (rest := []) C0 lk_X9_326 (ctX9_copies (a := a) (d := d - 1) (by omega) hc_10) (by omega) rfl hl.1 rfl (mm_cat rfl) dX9_back_45 hP hD hA hS rfl rfl (fun H locs hP hD hS => ?_)
    refine W.eq (g2 := F0 m 48 ls []) rfl ?_
    refine lv_aload_n hx hb dX9_back_48 rfl (lv_at hl 0 rfl) ?_
    refine mm_get C0 hP iw_X9 0 rfl rfl 15 (by decide) fl_X9_135 rfl dX9_back_49 ?_
    apply mm_sub13 hf
    exact mm_iret C0 hP hD hS dX9_back_52
  · have hf := mm_ip hf (mm_b0 c_1)
    refine lv_bipush (v := -5) hx hb dX9_back_7 (by decide) ?_
    apply mm_sub13 hf
    exact mm_iret C0 hP hD hS dX9_back_9

theorem nb_dX9_isBody_0 : bls_w cX9_isBody [(0, [27]), (1, [133]), (2, [9]), (3, [42]), (4, [180, 1, 139]), (7, [4]), (8, [100]), (9, [133]), (10, [184, 0, 111]), (13, [172])] := bls_of (by decide +kernel)
theorem dX9_isBody_0 : decode cX9_isBody 0 = .ok (.iload_n 1, 1) := op_27 nb_dX9_isBody_0.1
theorem dX9_isBody_1 : decode cX9_isBody 1 = .ok (.i2l, 1) := op_133 nb_dX9_isBody_0.2.1
theorem dX9_isBody_2 : decode cX9_isBody 2 = .ok (.lconst 0, 1) := op_9 nb_dX9_isBody_0.2.2.1
theorem dX9_isBody_3 : decode cX9_isBody 3 = .ok (.aload_n 0, 1) := op_42 nb_dX9_isBody_0.2.2.2.1
set_option maxRecDepth 100000 in
theorem dX9_isBody_4 : decode cX9_isBody 4 = .ok (.getfield 395, 3) := (op_180 nb_dX9_isBody_0.2.2.2.2.1).trans rfl
theorem dX9_isBody_7 : decode cX9_isBody 7 = .ok (.iconst 1, 1) := op_4 nb_dX9_isBody_0.2.2.2.2.2.1
theorem dX9_isBody_8 : decode cX9_isBody 8 = .ok (.isub, 1) := op_100 nb_dX9_isBody_0.2.2.2.2.2.2.1
theorem dX9_isBody_9 : decode cX9_isBody 9 = .ok (.i2l, 1) := op_133 nb_dX9_isBody_0.2.2.2.2.2.2.2.1
set_option maxRecDepth 100000 in
theorem dX9_isBody_10 : decode cX9_isBody 10 = .ok (.invokestatic 111, 3) := (op_184 nb_dX9_isBody_0.2.2.2.2.2.2.2.2.1).trans rfl
theorem dX9_isBody_13 : decode cX9_isBody 13 = .ok (.ireturn, 1) := op_172 nb_dX9_isBody_0.2.2.2.2.2.2.2.2.2.1
def fX9_isBody (N : Nat) (x1 : Int32) (v_bodies : Int32) : Option (Bool) :=
    mm_bd1 (fX9_within N ((x1).toInt64) (0 : Int64) ((v_bodies - (1 : Int32)).toInt64)) (fun (r_1 : Bool) =>
    some (r_1))

set_option maxHeartbeats 4000000 in
set_option maxRecDepth 100000 in
theorem ctX9_isBody {l : Launch} {D : va_G} {cI cL cS cH : ClassId} {a : Nat → Nat} {x1 : Int32} {v_keptMany : Int32} {v_done : Int32} {v_rowsOf : Int32} {v_columnsOf : Int32} {v_folded : Int32} {v_wronged : Int32} {v_tapeMany : Int32} {v_textMany : Int32} {v_base : Int32} {v_at : Int32} {v_ends : Int32} {v_fault : Int32} {v_opened : Int32} {v_bentMany : Int32} {v_bentWrong : Int32} {v_moreWorn : Int32} {v_planned : Int32} {v_allWrong : Int32} {v_allWorn : Int32} {v_z : Int32} {v_wishedField : Int32} {v_isFound : Bool} {v_bestWrong : Int32} {v_bestWorn : Int32} {v_bestMany : Int32} {v_soughtBy : Int32} {v_sought : Int32} {v_soughtAt : Int32} {v_foundMany : Int32} {v_foundOrder : Int32} {v_isKept : Bool} {v_imageRows : Int32} {v_imageColumns : Int32} {v_imageFolded : Int32} {v_imageWronged : Int32} {v_bodies : Int32} {v_ran : Int32} {v_ownKind : Int32} {v_ownNumber : Int32} {v_limit : List Int32} {v_changeWas : List Int32} {v_changeIs : List Int32} {v_shapeRows : List Int32} {v_shapeColumns : List Int32} {v_row : List Int32} {v_column : List Int32} {v_below : List Int32} {v_face : List Int32} {v_worn : List Int32} {v_lastBend : List Int32} {v_tape : List Int32} {v_text : List Int32} {v_names : List Int32} {v_bends : List Int32} {v_high : List Int32} {v_to : List Int32} {v_pileSize : List Int32} {v_planLine : List Int32} {v_planWay : List Int32} {v_way1 : List Int32} {v_bestWay : List Int32} {v_order1 : List Int32} {v_placeIn : List Int32} {v_bodyKind : List Int32} {v_trace : List Int32} {v_shelf : List Int32} {v_many : List Int32} {v_items : List Int64} {v_carried : List Int64} {r : Bool} {N d : Nat} (hd : 2 ≤ d) (hf : fX9_isBody N x1 v_bodies = some r) : mm_Ct l yX9_isBody cX9_isBody 2 (some .boolean) d D (mm_T cI cL cS cH) [.ref (a 0), .int x1] (wd_X9 cI cL cS cH a v_keptMany v_done v_rowsOf v_columnsOf v_folded v_wronged v_tapeMany v_textMany v_base v_at v_ends v_fault v_opened v_bentMany v_bentWrong v_moreWorn v_planned v_allWrong v_allWorn v_z v_wishedField v_isFound v_bestWrong v_bestWorn v_bestMany v_soughtBy v_sought v_soughtAt v_foundMany v_foundOrder v_isKept v_imageRows v_imageColumns v_imageFolded v_imageWronged v_bodies v_ran v_ownKind v_ownNumber v_limit v_changeWas v_changeIs v_shapeRows v_shapeColumns v_row v_column v_below v_face v_worn v_lastBend v_tape v_text v_names v_bends v_high v_to v_pileSize v_planLine v_planWay v_way1 v_bestWay v_order1 v_placeIn v_bodyKind v_trace v_shelf v_many v_items v_carried) (wd_X9 cI cL cS cH a v_keptMany v_done v_rowsOf v_columnsOf v_folded v_wronged v_tapeMany v_textMany v_base v_at v_ends v_fault v_opened v_bentMany v_bentWrong v_moreWorn v_planned v_allWrong v_allWorn v_z v_wishedField v_isFound v_bestWrong v_bestWorn v_bestMany v_soughtBy v_sought v_soughtAt v_foundMany v_foundOrder v_isKept v_imageRows v_imageColumns v_imageFolded v_imageWronged v_bodies v_ran v_ownKind v_ownNumber v_limit v_changeWas v_changeIs v_shapeRows v_shapeColumns v_row v_column v_below v_face v_worn v_lastBend v_tape v_text v_names v_bends v_high v_to v_pileSize v_planLine v_planWay v_way1 v_bestWay v_order1 v_placeIn v_bodyKind v_trace v_shelf v_many v_items v_carried) (some (.int (mm_b r))) := by
  refine mm_of (by decide) (Nat.le_of_ble_eq_true rfl) ?_
  intro p e s m args below meth c A H locs ls C0 hP hD hA hS hl
  have C0 : mm_Cx p s m args meth c RX9 cX9_isBody 2 (some .boolean) D (mm_T cI cL cS cH) A := C0
  obtain ⟨hx, hb, hml, hown, hts, hr, hlocks, hK, hSt⟩ := id C0
  have hl : lv_has ls 2 [(0, .ref (a 0)), (1, .int x1)] := hl
  unfold fX9_isBody at hf
  refine lv_iload_n hx hb dX9_isBody_0 rfl (lv_at hl 1 rfl) ?_
  refine lv_i2l hx hb dX9_isBody_1 rfl ?_
  refine lv_lconst (v := 0) hx hb dX9_isBody_2 (by decide) ?_
  refine lv_aload_n hx hb dX9_isBody_3 rfl (lv_at hl 0 rfl) ?_
  refine mm_get C0 hP iw_X9 0 rfl rfl 59 (by decide) fl_X9_395 rfl dX9_isBody_4 ?_
  refine lv_iconst (v := 1) hx hb dX9_isBody_7 (by decide) ?_
  refine lv_isub hx hb dX9_isBody_8 ?_
  refine lv_i2l hx hb dX9_isBody_9 rfl ?_
  obtain ⟨r_1, hc_2, hf⟩ := mm_bd1s hf
  refine mm_callS0 (rest := []) C0 lk_X9_111 (ctX9_within (d := d - 1) (by omega) hc_2) (by omega) rfl hl.1 rfl (mm_cat rfl) dX9_isBody_10 hP hD hA hS (fun H locs hP hS => ?_)
  refine W.eq (g2 := F0 m 13 ls [.int (mm_b r_1)]) rfl ?_
  obtain rfl := mm_inj1 hf
  exact mm_zret C0 hP hD hS dX9_isBody_13 rfl

theorem nb_dX9_kindOf_0 : bls_w cX9_kindOf [(0, [42]), (1, [180, 0, 82]), (4, [27]), (5, [46]), (6, [172])] := bls_of (by decide +kernel)
theorem dX9_kindOf_0 : decode cX9_kindOf 0 = .ok (.aload_n 0, 1) := op_42 nb_dX9_kindOf_0.1
set_option maxRecDepth 100000 in
theorem dX9_kindOf_1 : decode cX9_kindOf 1 = .ok (.getfield 82, 3) := (op_180 nb_dX9_kindOf_0.2.1).trans rfl
theorem dX9_kindOf_4 : decode cX9_kindOf 4 = .ok (.iload_n 1, 1) := op_27 nb_dX9_kindOf_0.2.2.1
theorem dX9_kindOf_5 : decode cX9_kindOf 5 = .ok (.iaload, 1) := op_46 nb_dX9_kindOf_0.2.2.2.1
theorem dX9_kindOf_6 : decode cX9_kindOf 6 = .ok (.ireturn, 1) := op_172 nb_dX9_kindOf_0.2.2.2.2.1
def fX9_kindOf (N : Nat) (x1 : Int32) (v_bodyKind : List Int32) : Option (Int32) :=
    mm_ck (mm_inb x1 v_bodyKind.length) (some ((mm_ig v_bodyKind x1)))

set_option maxHeartbeats 4000000 in
set_option maxRecDepth 100000 in
theorem ctX9_kindOf {l : Launch} {D : va_G} {cI cL cS cH : ClassId} {a : Nat → Nat} {x1 : Int32} {v_keptMany : Int32} {v_done : Int32} {v_rowsOf : Int32} {v_columnsOf : Int32} {v_folded : Int32} {v_wronged : Int32} {v_tapeMany : Int32} {v_textMany : Int32} {v_base : Int32} {v_at : Int32} {v_ends : Int32} {v_fault : Int32} {v_opened : Int32} {v_bentMany : Int32} {v_bentWrong : Int32} {v_moreWorn : Int32} {v_planned : Int32} {v_allWrong : Int32} {v_allWorn : Int32} {v_z : Int32} {v_wishedField : Int32} {v_isFound : Bool} {v_bestWrong : Int32} {v_bestWorn : Int32} {v_bestMany : Int32} {v_soughtBy : Int32} {v_sought : Int32} {v_soughtAt : Int32} {v_foundMany : Int32} {v_foundOrder : Int32} {v_isKept : Bool} {v_imageRows : Int32} {v_imageColumns : Int32} {v_imageFolded : Int32} {v_imageWronged : Int32} {v_bodies : Int32} {v_ran : Int32} {v_ownKind : Int32} {v_ownNumber : Int32} {v_limit : List Int32} {v_changeWas : List Int32} {v_changeIs : List Int32} {v_shapeRows : List Int32} {v_shapeColumns : List Int32} {v_row : List Int32} {v_column : List Int32} {v_below : List Int32} {v_face : List Int32} {v_worn : List Int32} {v_lastBend : List Int32} {v_tape : List Int32} {v_text : List Int32} {v_names : List Int32} {v_bends : List Int32} {v_high : List Int32} {v_to : List Int32} {v_pileSize : List Int32} {v_planLine : List Int32} {v_planWay : List Int32} {v_way1 : List Int32} {v_bestWay : List Int32} {v_order1 : List Int32} {v_placeIn : List Int32} {v_bodyKind : List Int32} {v_trace : List Int32} {v_shelf : List Int32} {v_many : List Int32} {v_items : List Int64} {v_carried : List Int64} {r : Int32} {N d : Nat} (hd : 1 ≤ d) (hf : fX9_kindOf N x1 v_bodyKind = some r) : mm_Ct l yX9_kindOf cX9_kindOf 2 (some .int) d D (mm_T cI cL cS cH) [.ref (a 0), .int x1] (wd_X9 cI cL cS cH a v_keptMany v_done v_rowsOf v_columnsOf v_folded v_wronged v_tapeMany v_textMany v_base v_at v_ends v_fault v_opened v_bentMany v_bentWrong v_moreWorn v_planned v_allWrong v_allWorn v_z v_wishedField v_isFound v_bestWrong v_bestWorn v_bestMany v_soughtBy v_sought v_soughtAt v_foundMany v_foundOrder v_isKept v_imageRows v_imageColumns v_imageFolded v_imageWronged v_bodies v_ran v_ownKind v_ownNumber v_limit v_changeWas v_changeIs v_shapeRows v_shapeColumns v_row v_column v_below v_face v_worn v_lastBend v_tape v_text v_names v_bends v_high v_to v_pileSize v_planLine v_planWay v_way1 v_bestWay v_order1 v_placeIn v_bodyKind v_trace v_shelf v_many v_items v_carried) (wd_X9 cI cL cS cH a v_keptMany v_done v_rowsOf v_columnsOf v_folded v_wronged v_tapeMany v_textMany v_base v_at v_ends v_fault v_opened v_bentMany v_bentWrong v_moreWorn v_planned v_allWrong v_allWorn v_z v_wishedField v_isFound v_bestWrong v_bestWorn v_bestMany v_soughtBy v_sought v_soughtAt v_foundMany v_foundOrder v_isKept v_imageRows v_imageColumns v_imageFolded v_imageWronged v_bodies v_ran v_ownKind v_ownNumber v_limit v_changeWas v_changeIs v_shapeRows v_shapeColumns v_row v_column v_below v_face v_worn v_lastBend v_tape v_text v_names v_bends v_high v_to v_pileSize v_planLine v_planWay v_way1 v_bestWay v_order1 v_placeIn v_bodyKind v_trace v_shelf v_many v_items v_carried) (some (.int r)) := by
  refine mm_of (by decide) (Nat.le_of_ble_eq_true rfl) ?_
  intro p e s m args below meth c A H locs ls C0 hP hD hA hS hl
  have C0 : mm_Cx p s m args meth c RX9 cX9_kindOf 2 (some .int) D (mm_T cI cL cS cH) A := C0
  obtain ⟨hx, hb, hml, hown, hts, hr, hlocks, hK, hSt⟩ := id C0
  have hl : lv_has ls 2 [(0, .ref (a 0)), (1, .int x1)] := hl
  unfold fX9_kindOf at hf
  refine lv_aload_n hx hb dX9_kindOf_0 rfl (lv_at hl 0 rfl) ?_
  refine mm_get C0 hP iw_X9 0 rfl rfl 60 (by decide) fl_X9_82 rfl dX9_kindOf_1 ?_
  refine lv_iload_n hx hb dX9_kindOf_4 rfl (lv_at hl 1 rfl) ?_
  obtain ⟨h_1, hf⟩ := mm_cks hf
  refine mm_iald C0 hP 25 rfl h_1 dX9_kindOf_5 ?_
  obtain rfl := mm_inj1 hf
  exact mm_iret C0 hP hD hS dX9_kindOf_6

theorem nb_dX9_body_0 : bls_w cX9_body [(0, [27]), (1, [133]), (2, [9]), (3, [20, 0, 238]), (6, [184, 0, 111]), (9, [154, 0, 5]), (12, [2]), (13, [172]), (14, [42]), (15, [180, 1, 139]), (18, [16, 50]), (20, [160, 0, 6])] := bls_of (by decide +kernel)
theorem dX9_body_0 : decode cX9_body 0 = .ok (.iload_n 1, 1) := op_27 nb_dX9_body_0.1
theorem dX9_body_1 : decode cX9_body 1 = .ok (.i2l, 1) := op_133 nb_dX9_body_0.2.1
theorem dX9_body_2 : decode cX9_body 2 = .ok (.lconst 0, 1) := op_9 nb_dX9_body_0.2.2.1
set_option maxRecDepth 100000 in
theorem dX9_body_3 : decode cX9_body 3 = .ok (.ldc2_w 238, 3) := (op_20 nb_dX9_body_0.2.2.2.1).trans rfl
set_option maxRecDepth 100000 in
theorem dX9_body_6 : decode cX9_body 6 = .ok (.invokestatic 111, 3) := (op_184 nb_dX9_body_0.2.2.2.2.1).trans rfl
set_option maxRecDepth 100000 in
theorem dX9_body_9 : decode cX9_body 9 = .ok (.ifCond .ne 5, 3) := (op_154 nb_dX9_body_0.2.2.2.2.2.1).trans rfl
theorem dX9_body_12 : decode cX9_body 12 = .ok (.iconst (-1), 1) := op_2 nb_dX9_body_0.2.2.2.2.2.2.1
theorem dX9_body_13 : decode cX9_body 13 = .ok (.ireturn, 1) := op_172 nb_dX9_body_0.2.2.2.2.2.2.2.1
theorem dX9_body_14 : decode cX9_body 14 = .ok (.aload_n 0, 1) := op_42 nb_dX9_body_0.2.2.2.2.2.2.2.2.1
set_option maxRecDepth 100000 in
theorem dX9_body_15 : decode cX9_body 15 = .ok (.getfield 395, 3) := (op_180 nb_dX9_body_0.2.2.2.2.2.2.2.2.2.1).trans rfl
set_option maxRecDepth 100000 in
theorem dX9_body_18 : decode cX9_body 18 = .ok (.bipush 50, 2) := (op_16 nb_dX9_body_0.2.2.2.2.2.2.2.2.2.2.1).trans rfl
set_option maxRecDepth 100000 in
theorem dX9_body_20 : decode cX9_body 20 = .ok (.if_icmp .ne 6, 3) := (op_160 nb_dX9_body_0.2.2.2.2.2.2.2.2.2.2.2.1).trans rfl
theorem nb_dX9_body_23 : bls_w cX9_body [(23, [16, 253]), (25, [172]), (26, [42]), (27, [180, 0, 82]), (30, [42]), (31, [180, 1, 139]), (34, [27]), (35, [79]), (36, [42]), (37, [89]), (38, [180, 1, 139]), (41, [4])] := bls_of (by decide +kernel)
set_option maxRecDepth 100000 in
theorem dX9_body_23 : decode cX9_body 23 = .ok (.bipush (-3), 2) := (op_16 nb_dX9_body_23.1).trans rfl
theorem dX9_body_25 : decode cX9_body 25 = .ok (.ireturn, 1) := op_172 nb_dX9_body_23.2.1
theorem dX9_body_26 : decode cX9_body 26 = .ok (.aload_n 0, 1) := op_42 nb_dX9_body_23.2.2.1
set_option maxRecDepth 100000 in
theorem dX9_body_27 : decode cX9_body 27 = .ok (.getfield 82, 3) := (op_180 nb_dX9_body_23.2.2.2.1).trans rfl
theorem dX9_body_30 : decode cX9_body 30 = .ok (.aload_n 0, 1) := op_42 nb_dX9_body_23.2.2.2.2.1
set_option maxRecDepth 100000 in
theorem dX9_body_31 : decode cX9_body 31 = .ok (.getfield 395, 3) := (op_180 nb_dX9_body_23.2.2.2.2.2.1).trans rfl
theorem dX9_body_34 : decode cX9_body 34 = .ok (.iload_n 1, 1) := op_27 nb_dX9_body_23.2.2.2.2.2.2.1
theorem dX9_body_35 : decode cX9_body 35 = .ok (.iastore, 1) := op_79 nb_dX9_body_23.2.2.2.2.2.2.2.1
theorem dX9_body_36 : decode cX9_body 36 = .ok (.aload_n 0, 1) := op_42 nb_dX9_body_23.2.2.2.2.2.2.2.2.1
theorem dX9_body_37 : decode cX9_body 37 = .ok (.dup, 1) := op_89 nb_dX9_body_23.2.2.2.2.2.2.2.2.2.1
set_option maxRecDepth 100000 in
theorem dX9_body_38 : decode cX9_body 38 = .ok (.getfield 395, 3) := (op_180 nb_dX9_body_23.2.2.2.2.2.2.2.2.2.2.1).trans rfl
theorem dX9_body_41 : decode cX9_body 41 = .ok (.iconst 1, 1) := op_4 nb_dX9_body_23.2.2.2.2.2.2.2.2.2.2.2.1
theorem nb_dX9_body_42 : bls_w cX9_body [(42, [96]), (43, [181, 1, 139]), (46, [42]), (47, [180, 1, 139]), (50, [4]), (51, [100]), (52, [172])] := bls_of (by decide +kernel)
theorem dX9_body_42 : decode cX9_body 42 = .ok (.iadd, 1) := op_96 nb_dX9_body_42.1
set_option maxRecDepth 100000 in
theorem dX9_body_43 : decode cX9_body 43 = .ok (.putfield 395, 3) := (op_181 nb_dX9_body_42.2.1).trans rfl
theorem dX9_body_46 : decode cX9_body 46 = .ok (.aload_n 0, 1) := op_42 nb_dX9_body_42.2.2.1
set_option maxRecDepth 100000 in
theorem dX9_body_47 : decode cX9_body 47 = .ok (.getfield 395, 3) := (op_180 nb_dX9_body_42.2.2.2.1).trans rfl
theorem dX9_body_50 : decode cX9_body 50 = .ok (.iconst 1, 1) := op_4 nb_dX9_body_42.2.2.2.2.1
theorem dX9_body_51 : decode cX9_body 51 = .ok (.isub, 1) := op_100 nb_dX9_body_42.2.2.2.2.2.1
theorem dX9_body_52 : decode cX9_body 52 = .ok (.ireturn, 1) := op_172 nb_dX9_body_42.2.2.2.2.2.2.1
def fX9_body (N : Nat) (x1 : Int32) (v_bodies : Int32) (v_bodyKind : List Int32) : Option (Int32 × Int32 × List Int32) :=
    mm_bd1 (fX9_within N ((x1).toInt64) (0 : Int64) (7 : Int64)) (fun (r_1 : Bool) =>
    if r_1 = false then
    (some ((-1 : Int32), v_bodies, v_bodyKind))
    else (if v_bodies = (50 : Int32) then
    (some ((-3 : Int32), v_bodies, v_bodyKind))
    else (mm_ck (mm_inb v_bodies v_bodyKind.length) (mm_nm (mm_is v_bodyKind v_bodies x1) (fun (l_6 : List Int32) =>
    mm_nm ((v_bodies + (1 : Int32))) (fun (y_7 : Int32) =>
    some ((y_7 - (1 : Int32)), y_7, l_6)))))))

set_option maxHeartbeats 4000000 in
set_option maxRecDepth 100000 in
theorem ctX9_body {l : Launch} {D : va_G} {cI cL cS cH : ClassId} {a : Nat → Nat} {x1 : Int32} {v_keptMany : Int32} {v_done : Int32} {v_rowsOf : Int32} {v_columnsOf : Int32} {v_folded : Int32} {v_wronged : Int32} {v_tapeMany : Int32} {v_textMany : Int32} {v_base : Int32} {v_at : Int32} {v_ends : Int32} {v_fault : Int32} {v_opened : Int32} {v_bentMany : Int32} {v_bentWrong : Int32} {v_moreWorn : Int32} {v_planned : Int32} {v_allWrong : Int32} {v_allWorn : Int32} {v_z : Int32} {v_wishedField : Int32} {v_isFound : Bool} {v_bestWrong : Int32} {v_bestWorn : Int32} {v_bestMany : Int32} {v_soughtBy : Int32} {v_sought : Int32} {v_soughtAt : Int32} {v_foundMany : Int32} {v_foundOrder : Int32} {v_isKept : Bool} {v_imageRows : Int32} {v_imageColumns : Int32} {v_imageFolded : Int32} {v_imageWronged : Int32} {v_bodies : Int32} {v_ran : Int32} {v_ownKind : Int32} {v_ownNumber : Int32} {v_limit : List Int32} {v_changeWas : List Int32} {v_changeIs : List Int32} {v_shapeRows : List Int32} {v_shapeColumns : List Int32} {v_row : List Int32} {v_column : List Int32} {v_below : List Int32} {v_face : List Int32} {v_worn : List Int32} {v_lastBend : List Int32} {v_tape : List Int32} {v_text : List Int32} {v_names : List Int32} {v_bends : List Int32} {v_high : List Int32} {v_to : List Int32} {v_pileSize : List Int32} {v_planLine : List Int32} {v_planWay : List Int32} {v_way1 : List Int32} {v_bestWay : List Int32} {v_order1 : List Int32} {v_placeIn : List Int32} {v_bodyKind : List Int32} {v_trace : List Int32} {v_shelf : List Int32} {v_many : List Int32} {v_items : List Int64} {v_carried : List Int64} {r : Int32} {w_bodies : Int32} {w_bodyKind : List Int32} {N d : Nat} (hd : 2 ≤ d) (hf : fX9_body N x1 v_bodies v_bodyKind = some (r, w_bodies, w_bodyKind)) : mm_Ct l yX9_body cX9_body 2 (some .int) d D (mm_T cI cL cS cH) [.ref (a 0), .int x1] (wd_X9 cI cL cS cH a v_keptMany v_done v_rowsOf v_columnsOf v_folded v_wronged v_tapeMany v_textMany v_base v_at v_ends v_fault v_opened v_bentMany v_bentWrong v_moreWorn v_planned v_allWrong v_allWorn v_z v_wishedField v_isFound v_bestWrong v_bestWorn v_bestMany v_soughtBy v_sought v_soughtAt v_foundMany v_foundOrder v_isKept v_imageRows v_imageColumns v_imageFolded v_imageWronged v_bodies v_ran v_ownKind v_ownNumber v_limit v_changeWas v_changeIs v_shapeRows v_shapeColumns v_row v_column v_below v_face v_worn v_lastBend v_tape v_text v_names v_bends v_high v_to v_pileSize v_planLine v_planWay v_way1 v_bestWay v_order1 v_placeIn v_bodyKind v_trace v_shelf v_many v_items v_carried) (wd_X9 cI cL cS cH a v_keptMany v_done v_rowsOf v_columnsOf v_folded v_wronged v_tapeMany v_textMany v_base v_at v_ends v_fault v_opened v_bentMany v_bentWrong v_moreWorn v_planned v_allWrong v_allWorn v_z v_wishedField v_isFound v_bestWrong v_bestWorn v_bestMany v_soughtBy v_sought v_soughtAt v_foundMany v_foundOrder v_isKept v_imageRows v_imageColumns v_imageFolded v_imageWronged w_bodies v_ran v_ownKind v_ownNumber v_limit v_changeWas v_changeIs v_shapeRows v_shapeColumns v_row v_column v_below v_face v_worn v_lastBend v_tape v_text v_names v_bends v_high v_to v_pileSize v_planLine v_planWay v_way1 v_bestWay v_order1 v_placeIn w_bodyKind v_trace v_shelf v_many v_items v_carried) (some (.int r)) := by
  refine mm_of (by decide) (Nat.le_of_ble_eq_true rfl) ?_
  intro p e s m args below meth c A H locs ls C0 hP hD hA hS hl
  have C0 : mm_Cx p s m args meth c RX9 cX9_body 2 (some .int) D (mm_T cI cL cS cH) A := C0
  obtain ⟨hx, hb, hml, hown, hts, hr, hlocks, hK, hSt⟩ := id C0
  have hl : lv_has ls 2 [(0, .ref (a 0)), (1, .int x1)] := hl
  unfold fX9_body at hf
  refine lv_iload_n hx hb dX9_body_0 rfl (lv_at hl 1 rfl) ?_
  refine lv_i2l hx hb dX9_body_1 rfl ?_
  refine lv_lconst (v := 0) hx hb dX9_body_2 (by decide) ?_
  refine lv_ldc2 hx hb hown (hts _ kc_X9_238) dX9_body_3 ?_
  obtain ⟨r_1, hc_2, hf⟩ := mm_bd1s hf
  refine mm_callS0 (rest := []) C0 lk_X9_111 (ctX9_within (d := d - 1) (by omega) hc_2) (by omega) rfl hl.1 rfl (mm_cat rfl) dX9_body_6 hP hD hA hS (fun H locs hP hS => ?_)
  refine W.eq (g2 := F0 m 9 ls [.int (mm_b r_1)]) rfl ?_
  refine lv_if_ne (tgt := 14) hx hb dX9_body_9 (by decide) (fun c_3 => ?_) (fun c_3 => ?_)
  · have hf := mm_in hf (mm_b1 c_3)
    refine lv_aload_n hx hb dX9_body_14 rfl (lv_at hl 0 rfl) ?_
    refine mm_get C0 hP iw_X9 0 rfl rfl 59 (by decide) fl_X9_395 rfl dX9_body_15 ?_
    refine lv_bipush (v := 50) hx hb dX9_body_18 (by decide) ?_
    refine lv_icmp_ne (tgt := 26) hx hb dX9_body_20 (by decide) (fun c_4 => ?_) (fun c_4 => ?_)
    · have hf := mm_in hf c_4
      refine lv_aload_n hx hb dX9_body_26 rfl (lv_at hl 0 rfl) ?_
      refine mm_get C0 hP iw_X9 0 rfl rfl 60 (by decide) fl_X9_82 rfl dX9_body_27 ?_
      refine lv_aload_n hx hb dX9_body_30 rfl (lv_at hl 0 rfl) ?_
      refine mm_get C0 hP iw_X9 0 rfl rfl 59 (by decide) fl_X9_395 rfl dX9_body_31 ?_
      refine lv_iload_n hx hb dX9_body_34 rfl (lv_at hl 1 rfl) ?_
      obtain ⟨h_5, hf⟩ := mm_cks hf
      refine mm_iast C0 hP hD hS 25 rfl h_5 dX9_body_35 (w2 := (wd_X9 cI cL cS cH a v_keptMany v_done v_rowsOf v_columnsOf v_folded v_wronged v_tapeMany v_textMany v_base v_at v_ends v_fault v_opened v_bentMany v_bentWrong v_moreWorn v_planned v_allWrong v_allWorn v_z v_wishedField v_isFound v_bestWrong v_bestWorn v_bestMany v_soughtBy v_sought v_soughtAt v_foundMany v_foundOrder v_isKept v_imageRows v_imageColumns v_imageFolded v_imageWronged v_bodies v_ran v_ownKind v_ownNumber v_limit v_changeWas v_changeIs v_shapeRows v_shapeColumns v_row v_column v_below v_face v_worn v_lastBend v_tape v_text v_names v_bends v_high v_to v_pileSize v_planLine v_planWay v_way1 v_bestWay v_order1 v_placeIn (mm_is v_bodyKind v_bodies x1) v_trace v_shelf v_many v_items v_carried)) rfl (fun H locs hP hD hS => ?_)
      generalize el_6 : (mm_is v_bodyKind v_bodies x1) = l_6 at hP hD
      have hf := mm_nms hf el_6.symm
      refine lv_aload_n hx hb dX9_body_36 rfl (lv_at hl 0 rfl) ?_
      refine lv_dup hx hb dX9_body_37 rfl ?_
      refine mm_get C0 hP iw_X9 0 rfl rfl 59 (by decide) fl_X9_395 rfl dX9_body_38 ?_
      refine lv_iconst (v := 1) hx hb dX9_body_41 (by decide) ?_
      refine lv_iadd hx hb dX9_body_42 ?_
      refine lv_topi (fun y_7 ey_7 => ?_)
      have hf := mm_nms hf ey_7
      refine mm_put C0 hP hD hS iw_X9 tyX9 tyX9_ok nmX9 0 rfl rfl 59 (by decide) fl_X9_395 rfl rfl rfl (Nat.le_of_ble_eq_true rfl) dX9_body_43 (w2 := (wd_X9 cI cL cS cH a v_keptMany v_done v_rowsOf v_columnsOf v_folded v_wronged v_tapeMany v_textMany v_base v_at v_ends v_fault v_opened v_bentMany v_bentWrong v_moreWorn v_planned v_allWrong v_allWorn v_z v_wishedField v_isFound v_bestWrong v_bestWorn v_bestMany v_soughtBy v_sought v_soughtAt v_foundMany v_foundOrder v_isKept v_imageRows v_imageColumns v_imageFolded v_imageWronged y_7 v_ran v_ownKind v_ownNumber v_limit v_changeWas v_changeIs v_shapeRows v_shapeColumns v_row v_column v_below v_face v_worn v_lastBend v_tape v_text v_names v_bends v_high v_to v_pileSize v_planLine v_planWay v_way1 v_bestWay v_order1 v_placeIn l_6 v_trace v_shelf v_many v_items v_carried)) rfl (fun H locs hP hD hS => ?_)
      refine lv_aload_n hx hb dX9_body_46 rfl (lv_at hl 0 rfl) ?_
      refine mm_get C0 hP iw_X9 0 rfl rfl 59 (by decide) fl_X9_395 rfl dX9_body_47 ?_
      refine lv_iconst (v := 1) hx hb dX9_body_50 (by decide) ?_
      refine lv_isub hx hb dX9_body_51 ?_
      apply mm_sub3 hf
      exact mm_iret C0 hP hD hS dX9_body_52
    · have hf := mm_ip hf c_4
      refine lv_bipush (v := -3) hx hb dX9_body_23 (by decide) ?_
      apply mm_sub3 hf
      exact mm_iret C0 hP hD hS dX9_body_25
  · have hf := mm_ip hf (mm_b0 c_3)
    refine lv_iconst (v := -1) hx hb dX9_body_12 (by decide) ?_
    apply mm_sub3 hf
    exact mm_iret C0 hP hD hS dX9_body_13

theorem nb_dX9_above_0 : bls_w cX9_above [(0, [26]), (1, [6]), (2, [160, 0, 7]), (5, [5]), (6, [167, 0, 33]), (9, [26]), (10, [8]), (11, [160, 0, 7]), (14, [6]), (15, [167, 0, 24]), (18, [26]), (19, [16, 6])] := bls_of (by decide +kernel)
theorem dX9_above_0 : decode cX9_above 0 = .ok (.iload_n 0, 1) := op_26 nb_dX9_above_0.1
theorem dX9_above_1 : decode cX9_above 1 = .ok (.iconst 3, 1) := op_6 nb_dX9_above_0.2.1
set_option maxRecDepth 100000 in
theorem dX9_above_2 : decode cX9_above 2 = .ok (.if_icmp .ne 7, 3) := (op_160 nb_dX9_above_0.2.2.1).trans rfl
theorem dX9_above_5 : decode cX9_above 5 = .ok (.iconst 2, 1) := op_5 nb_dX9_above_0.2.2.2.1
set_option maxRecDepth 100000 in
theorem dX9_above_6 : decode cX9_above 6 = .ok (.goto 33, 3) := (op_167 nb_dX9_above_0.2.2.2.2.1).trans rfl
theorem dX9_above_9 : decode cX9_above 9 = .ok (.iload_n 0, 1) := op_26 nb_dX9_above_0.2.2.2.2.2.1
theorem dX9_above_10 : decode cX9_above 10 = .ok (.iconst 5, 1) := op_8 nb_dX9_above_0.2.2.2.2.2.2.1
set_option maxRecDepth 100000 in
theorem dX9_above_11 : decode cX9_above 11 = .ok (.if_icmp .ne 7, 3) := (op_160 nb_dX9_above_0.2.2.2.2.2.2.2.1).trans rfl
theorem dX9_above_14 : decode cX9_above 14 = .ok (.iconst 3, 1) := op_6 nb_dX9_above_0.2.2.2.2.2.2.2.2.1
set_option maxRecDepth 100000 in
theorem dX9_above_15 : decode cX9_above 15 = .ok (.goto 24, 3) := (op_167 nb_dX9_above_0.2.2.2.2.2.2.2.2.2.1).trans rfl
theorem dX9_above_18 : decode cX9_above 18 = .ok (.iload_n 0, 1) := op_26 nb_dX9_above_0.2.2.2.2.2.2.2.2.2.2.1
set_option maxRecDepth 100000 in
theorem dX9_above_19 : decode cX9_above 19 = .ok (.bipush 6, 2) := (op_16 nb_dX9_above_0.2.2.2.2.2.2.2.2.2.2.2.1).trans rfl
theorem nb_dX9_above_21 : bls_w cX9_above [(21, [160, 0, 7]), (24, [4]), (25, [167, 0, 14]), (28, [26]), (29, [16, 7]), (31, [160, 0, 7]), (34, [7]), (35, [167, 0, 4]), (38, [3]), (39, [172])] := bls_of (by decide +kernel)
set_option maxRecDepth 100000 in
theorem dX9_above_21 : decode cX9_above 21 = .ok (.if_icmp .ne 7, 3) := (op_160 nb_dX9_above_21.1).trans rfl
theorem dX9_above_24 : decode cX9_above 24 = .ok (.iconst 1, 1) := op_4 nb_dX9_above_21.2.1
set_option maxRecDepth 100000 in
theorem dX9_above_25 : decode cX9_above 25 = .ok (.goto 14, 3) := (op_167 nb_dX9_above_21.2.2.1).trans rfl
theorem dX9_above_28 : decode cX9_above 28 = .ok (.iload_n 0, 1) := op_26 nb_dX9_above_21.2.2.2.1
set_option maxRecDepth 100000 in
theorem dX9_above_29 : decode cX9_above 29 = .ok (.bipush 7, 2) := (op_16 nb_dX9_above_21.2.2.2.2.1).trans rfl
set_option maxRecDepth 100000 in
theorem dX9_above_31 : decode cX9_above 31 = .ok (.if_icmp .ne 7, 3) := (op_160 nb_dX9_above_21.2.2.2.2.2.1).trans rfl
theorem dX9_above_34 : decode cX9_above 34 = .ok (.iconst 4, 1) := op_7 nb_dX9_above_21.2.2.2.2.2.2.1
set_option maxRecDepth 100000 in
theorem dX9_above_35 : decode cX9_above 35 = .ok (.goto 4, 3) := (op_167 nb_dX9_above_21.2.2.2.2.2.2.2.1).trans rfl
theorem dX9_above_38 : decode cX9_above 38 = .ok (.iconst 0, 1) := op_3 nb_dX9_above_21.2.2.2.2.2.2.2.2.1
theorem dX9_above_39 : decode cX9_above 39 = .ok (.ireturn, 1) := op_172 nb_dX9_above_21.2.2.2.2.2.2.2.2.2.1
def fX9_above (N : Nat) (x0 : Int32) : Option (Int32) :=
    if x0 = (3 : Int32) then
    (some ((2 : Int32)))
    else (if x0 = (5 : Int32) then
    (some ((3 : Int32)))
    else (if x0 = (6 : Int32) then
    (some ((1 : Int32)))
    else (if x0 = (7 : Int32) then
    (some ((4 : Int32)))
    else (some ((0 : Int32))))))

set_option maxHeartbeats 4000000 in
set_option maxRecDepth 100000 in
theorem ctX9_above {l : Launch} {D : va_G} {cI cL cS cH : ClassId} {x0 : Int32}  {r : Int32} {N d : Nat} (hd : 1 ≤ d) (hf : fX9_above N x0 = some r) : mm_Ct l yX9_above cX9_above 1 (some .int) d D (mm_T cI cL cS cH) [.int x0] ([] : va_W) ([] : va_W) (some (.int r)) := by
  refine mm_of (by decide) (Nat.le_of_ble_eq_true rfl) ?_
  intro p e s m args below meth c A H locs ls C0 hP hD hA hS hl
  have C0 : mm_Cx p s m args meth c RX9 cX9_above 1 (some .int) D (mm_T cI cL cS cH) A := C0
  obtain ⟨hx, hb, hml, hown, hts, hr, hlocks, hK, hSt⟩ := id C0
  have hl : lv_has ls 1 [(0, .int x0)] := hl
  unfold fX9_above at hf
  refine lv_iload_n hx hb dX9_above_0 rfl (lv_at hl 0 rfl) ?_
  refine lv_iconst (v := 3) hx hb dX9_above_1 (by decide) ?_
  refine lv_icmp_ne (tgt := 9) hx hb dX9_above_2 (by decide) (fun c_1 => ?_) (fun c_1 => ?_)
  · have hf := mm_in hf c_1
    refine lv_iload_n hx hb dX9_above_9 rfl (lv_at hl 0 rfl) ?_
    refine lv_iconst (v := 5) hx hb dX9_above_10 (by decide) ?_
    refine lv_icmp_ne (tgt := 18) hx hb dX9_above_11 (by decide) (fun c_2 => ?_) (fun c_2 => ?_)
    · have hf := mm_in hf c_2
      refine lv_iload_n hx hb dX9_above_18 rfl (lv_at hl 0 rfl) ?_
      refine lv_bipush (v := 6) hx hb dX9_above_19 (by decide) ?_
      refine lv_icmp_ne (tgt := 28) hx hb dX9_above_21 (by decide) (fun c_3 => ?_) (fun c_3 => ?_)
      · have hf := mm_in hf c_3
        refine lv_iload_n hx hb dX9_above_28 rfl (lv_at hl 0 rfl) ?_
        refine lv_bipush (v := 7) hx hb dX9_above_29 (by decide) ?_
        refine lv_icmp_ne (tgt := 38) hx hb dX9_above_31 (by decide) (fun c_4 => ?_) (fun c_4 => ?_)
        · have hf := mm_in hf c_4
          refine lv_iconst (v := 0) hx hb dX9_above_38 (by decide) ?_
          obtain rfl := mm_inj1 hf
          exact mm_iret C0 hP hD hS dX9_above_39
        · have hf := mm_ip hf c_4
          refine lv_iconst (v := 4) hx hb dX9_above_34 (by decide) ?_
          refine lv_goto (tgt := 39) hx hb dX9_above_35 (by decide) ?_
          obtain rfl := mm_inj1 hf
          exact mm_iret C0 hP hD hS dX9_above_39
      · have hf := mm_ip hf c_3
        refine lv_iconst (v := 1) hx hb dX9_above_24 (by decide) ?_
        refine lv_goto (tgt := 39) hx hb dX9_above_25 (by decide) ?_
        obtain rfl := mm_inj1 hf
        exact mm_iret C0 hP hD hS dX9_above_39
    · have hf := mm_ip hf c_2
      refine lv_iconst (v := 3) hx hb dX9_above_14 (by decide) ?_
      refine lv_goto (tgt := 39) hx hb dX9_above_15 (by decide) ?_
      obtain rfl := mm_inj1 hf
      exact mm_iret C0 hP hD hS dX9_above_39
  · have hf := mm_ip hf c_1
    refine lv_iconst (v := 2) hx hb dX9_above_5 (by decide) ?_
    refine lv_goto (tgt := 39) hx hb dX9_above_6 (by decide) ?_
    obtain rfl := mm_inj1 hf
    exact mm_iret C0 hP hD hS dX9_above_39
end
section
/-! reference: X9_begins, X9_foldsAs, X9_wearsAs, X9_laysAs, X9_tellsAs, X9_act -/
theorem nb_dX9_begins_0 : bls_w cX9_begins [(0, [42]), (1, [180, 1, 142]), (4, [16, 24]), (6, [162, 0, 13]), (9, [42]), (10, [180, 0, 85]), (13, [42]), (14, [180, 1, 142]), (17, [27]), (18, [79]), (19, [42]), (20, [89])] := bls_of (by decide +kernel)
theorem dX9_begins_0 : decode cX9_begins 0 = .ok (.aload_n 0, 1) := op_42 nb_dX9_begins_0.1
set_option maxRecDepth 100000 in
theorem dX9_begins_1 : decode cX9_begins 1 = .ok (.getfield 398, 3) := (op_180 nb_dX9_begins_0.2.1).trans rfl
set_option maxRecDepth 100000 in
theorem dX9_begins_4 : decode cX9_begins 4 = .ok (.bipush 24, 2) := (op_16 nb_dX9_begins_0.2.2.1).trans rfl
set_option maxRecDepth 100000 in
theorem dX9_begins_6 : decode cX9_begins 6 = .ok (.if_icmp .ge 13, 3) := (op_162 nb_dX9_begins_0.2.2.2.1).trans rfl
theorem dX9_begins_9 : decode cX9_begins 9 = .ok (.aload_n 0, 1) := op_42 nb_dX9_begins_0.2.2.2.2.1
set_option maxRecDepth 100000 in
theorem dX9_begins_10 : decode cX9_begins 10 = .ok (.getfield 85, 3) := (op_180 nb_dX9_begins_0.2.2.2.2.2.1).trans rfl
theorem dX9_begins_13 : decode cX9_begins 13 = .ok (.aload_n 0, 1) := op_42 nb_dX9_begins_0.2.2.2.2.2.2.1
set_option maxRecDepth 100000 in
theorem dX9_begins_14 : decode cX9_begins 14 = .ok (.getfield 398, 3) := (op_180 nb_dX9_begins_0.2.2.2.2.2.2.2.1).trans rfl
theorem dX9_begins_17 : decode cX9_begins 17 = .ok (.iload_n 1, 1) := op_27 nb_dX9_begins_0.2.2.2.2.2.2.2.2.1
theorem dX9_begins_18 : decode cX9_begins 18 = .ok (.iastore, 1) := op_79 nb_dX9_begins_0.2.2.2.2.2.2.2.2.2.1
theorem dX9_begins_19 : decode cX9_begins 19 = .ok (.aload_n 0, 1) := op_42 nb_dX9_begins_0.2.2.2.2.2.2.2.2.2.2.1
theorem dX9_begins_20 : decode cX9_begins 20 = .ok (.dup, 1) := op_89 nb_dX9_begins_0.2.2.2.2.2.2.2.2.2.2.2.1
theorem nb_dX9_begins_21 : bls_w cX9_begins [(21, [180, 1, 142]), (24, [4]), (25, [96]), (26, [181, 1, 142]), (29, [177])] := bls_of (by decide +kernel)
set_option maxRecDepth 100000 in
theorem dX9_begins_21 : decode cX9_begins 21 = .ok (.getfield 398, 3) := (op_180 nb_dX9_begins_21.1).trans rfl
theorem dX9_begins_24 : decode cX9_begins 24 = .ok (.iconst 1, 1) := op_4 nb_dX9_begins_21.2.1
theorem dX9_begins_25 : decode cX9_begins 25 = .ok (.iadd, 1) := op_96 nb_dX9_begins_21.2.2.1
set_option maxRecDepth 100000 in
theorem dX9_begins_26 : decode cX9_begins 26 = .ok (.putfield 398, 3) := (op_181 nb_dX9_begins_21.2.2.2.1).trans rfl
theorem dX9_begins_29 : decode cX9_begins 29 = .ok (.return_, 1) := op_177 nb_dX9_begins_21.2.2.2.2.1
def fX9_begins_19 (N : Nat)  (v_ran : Int32) (v_trace : List Int32) : Option (Int32 × List Int32) :=
    mm_nm ((v_ran + (1 : Int32))) (fun (y_4 : Int32) =>
    some (y_4, v_trace))

set_option maxHeartbeats 4000000 in
set_option maxRecDepth 100000 in
theorem tX9_begins_19 {p : Program} {l : Launch} {e : Env} {s : State} {m : MethodId} {args : Array Value} {below : List Frame} {meth : Method} {c : Code} {D : va_G} {cI cL cS cH : ClassId} {A : Nat → Prop} {d : Nat} {a : Nat → Nat} (hd : 1 ≤ d) (C0 : mm_Cx p s m args meth c RX9 cX9_begins 2 none D (mm_T cI cL cS cH) A) (hA : ∀ q, s.heap.size ≤ q → A q) {v_keptMany : Int32} {v_done : Int32} {v_rowsOf : Int32} {v_columnsOf : Int32} {v_folded : Int32} {v_wronged : Int32} {v_tapeMany : Int32} {v_textMany : Int32} {v_base : Int32} {v_at : Int32} {v_ends : Int32} {v_fault : Int32} {v_opened : Int32} {v_bentMany : Int32} {v_bentWrong : Int32} {v_moreWorn : Int32} {v_planned : Int32} {v_allWrong : Int32} {v_allWorn : Int32} {v_z : Int32} {v_wishedField : Int32} {v_isFound : Bool} {v_bestWrong : Int32} {v_bestWorn : Int32} {v_bestMany : Int32} {v_soughtBy : Int32} {v_sought : Int32} {v_soughtAt : Int32} {v_foundMany : Int32} {v_foundOrder : Int32} {v_isKept : Bool} {v_imageRows : Int32} {v_imageColumns : Int32} {v_imageFolded : Int32} {v_imageWronged : Int32} {v_bodies : Int32} {v_ownKind : Int32} {v_ownNumber : Int32} {v_limit : List Int32} {v_changeWas : List Int32} {v_changeIs : List Int32} {v_shapeRows : List Int32} {v_shapeColumns : List Int32} {v_row : List Int32} {v_column : List Int32} {v_below : List Int32} {v_face : List Int32} {v_worn : List Int32} {v_lastBend : List Int32} {v_tape : List Int32} {v_text : List Int32} {v_names : List Int32} {v_bends : List Int32} {v_high : List Int32} {v_to : List Int32} {v_pileSize : List Int32} {v_planLine : List Int32} {v_planWay : List Int32} {v_way1 : List Int32} {v_bestWay : List Int32} {v_order1 : List Int32} {v_placeIn : List Int32} {v_bodyKind : List Int32} {v_shelf : List Int32} {v_many : List Int32} {v_items : List Int64} {v_carried : List Int64} {w_ran : Int32} {w_trace : List Int32} (N : Nat)  : ∀ (v_ran : Int32) (v_trace : List Int32) (H : Heap) (locs : List Loc) (ls : Array Slot), fX9_begins_19 N v_ran v_trace = some (w_ran, w_trace) → va_P D mm_cl (wd_X9 cI cL cS cH a v_keptMany v_done v_rowsOf v_columnsOf v_folded v_wronged v_tapeMany v_textMany v_base v_at v_ends v_fault v_opened v_bentMany v_bentWrong v_moreWorn v_planned v_allWrong v_allWorn v_z v_wishedField v_isFound v_bestWrong v_bestWorn v_bestMany v_soughtBy v_sought v_soughtAt v_foundMany v_foundOrder v_isKept v_imageRows v_imageColumns v_imageFolded v_imageWronged v_bodies v_ran v_ownKind v_ownNumber v_limit v_changeWas v_changeIs v_shapeRows v_shapeColumns v_row v_column v_below v_face v_worn v_lastBend v_tape v_text v_names v_bends v_high v_to v_pileSize v_planLine v_planWay v_way1 v_bestWay v_order1 v_placeIn v_bodyKind v_trace v_shelf v_many v_items v_carried) H → va_D A (wd_X9 cI cL cS cH a v_keptMany v_done v_rowsOf v_columnsOf v_folded v_wronged v_tapeMany v_textMany v_base v_at v_ends v_fault v_opened v_bentMany v_bentWrong v_moreWorn v_planned v_allWrong v_allWorn v_z v_wishedField v_isFound v_bestWrong v_bestWorn v_bestMany v_soughtBy v_sought v_soughtAt v_foundMany v_foundOrder v_isKept v_imageRows v_imageColumns v_imageFolded v_imageWronged v_bodies v_ran v_ownKind v_ownNumber v_limit v_changeWas v_changeIs v_shapeRows v_shapeColumns v_row v_column v_below v_face v_worn v_lastBend v_tape v_text v_names v_bends v_high v_to v_pileSize v_planLine v_planWay v_way1 v_bestWay v_order1 v_placeIn v_bodyKind v_trace v_shelf v_many v_items v_carried) → va_S A s.heap H locs → lv_has ls 2 [(0, .ref (a 0))] → W p l e (mm_rr d) s m args below meth c H locs 0 0 (mm_Z below D A (wd_X9 cI cL cS cH a v_keptMany v_done v_rowsOf v_columnsOf v_folded v_wronged v_tapeMany v_textMany v_base v_at v_ends v_fault v_opened v_bentMany v_bentWrong v_moreWorn v_planned v_allWrong v_allWorn v_z v_wishedField v_isFound v_bestWrong v_bestWorn v_bestMany v_soughtBy v_sought v_soughtAt v_foundMany v_foundOrder v_isKept v_imageRows v_imageColumns v_imageFolded v_imageWronged v_bodies w_ran v_ownKind v_ownNumber v_limit v_changeWas v_changeIs v_shapeRows v_shapeColumns v_row v_column v_below v_face v_worn v_lastBend v_tape v_text v_names v_bends v_high v_to v_pileSize v_planLine v_planWay v_way1 v_bestWay v_order1 v_placeIn v_bodyKind w_trace v_shelf v_many v_items v_carried) none args s) (F0 m 19 ls []) := by
  obtain ⟨hx, hb, hml, hown, hts, hr, hlocks, hK, hSt⟩ := id C0
  intro v_ran v_trace H locs ls hf hP hD hS hl
  unfold fX9_begins_19 at hf
  refine lv_aload_n hx hb dX9_begins_19 rfl (lv_at hl 0 rfl) ?_
  refine lv_dup hx hb dX9_begins_20 rfl ?_
  refine mm_get C0 hP iw_X9 0 rfl rfl 62 (by decide) fl_X9_398 rfl dX9_begins_21 ?_
  refine lv_iconst (v := 1) hx hb dX9_begins_24 (by decide) ?_
  refine lv_iadd hx hb dX9_begins_25 ?_
  refine lv_topi (fun y_4 ey_4 => ?_)
  have hf := mm_nms hf ey_4
  refine mm_put C0 hP hD hS iw_X9 tyX9 tyX9_ok nmX9 0 rfl rfl 62 (by decide) fl_X9_398 rfl rfl rfl (Nat.le_of_ble_eq_true rfl) dX9_begins_26 (w2 := (wd_X9 cI cL cS cH a v_keptMany v_done v_rowsOf v_columnsOf v_folded v_wronged v_tapeMany v_textMany v_base v_at v_ends v_fault v_opened v_bentMany v_bentWrong v_moreWorn v_planned v_allWrong v_allWorn v_z v_wishedField v_isFound v_bestWrong v_bestWorn v_bestMany v_soughtBy v_sought v_soughtAt v_foundMany v_foundOrder v_isKept v_imageRows v_imageColumns v_imageFolded v_imageWronged v_bodies y_4 v_ownKind v_ownNumber v_limit v_changeWas v_changeIs v_shapeRows v_shapeColumns v_row v_column v_below v_face v_worn v_lastBend v_tape v_text v_names v_bends v_high v_to v_pileSize v_planLine v_planWay v_way1 v_bestWay v_order1 v_placeIn v_bodyKind v_trace v_shelf v_many v_items v_carried)) rfl (fun H locs hP hD hS => ?_)
  apply mm_sub2 hf
  exact mm_vret C0 hP hD hS dX9_begins_29

def fX9_begins (N : Nat) (x1 : Int32) (v_ran : Int32) (v_trace : List Int32) : Option (Int32 × List Int32) :=
    if (24 : Int32) ≤ v_ran then
    (fX9_begins_19 N v_ran v_trace)
    else (mm_ck (mm_inb v_ran v_trace.length) (mm_nm (mm_is v_trace v_ran x1) (fun (l_3 : List Int32) =>
    fX9_begins_19 N v_ran l_3)))

set_option maxHeartbeats 4000000 in
set_option maxRecDepth 100000 in
theorem ctX9_begins {l : Launch} {D : va_G} {cI cL cS cH : ClassId} {a : Nat → Nat} {x1 : Int32} {v_keptMany : Int32} {v_done : Int32} {v_rowsOf : Int32} {v_columnsOf : Int32} {v_folded : Int32} {v_wronged : Int32} {v_tapeMany : Int32} {v_textMany : Int32} {v_base : Int32} {v_at : Int32} {v_ends : Int32} {v_fault : Int32} {v_opened : Int32} {v_bentMany : Int32} {v_bentWrong : Int32} {v_moreWorn : Int32} {v_planned : Int32} {v_allWrong : Int32} {v_allWorn : Int32} {v_z : Int32} {v_wishedField : Int32} {v_isFound : Bool} {v_bestWrong : Int32} {v_bestWorn : Int32} {v_bestMany : Int32} {v_soughtBy : Int32} {v_sought : Int32} {v_soughtAt : Int32} {v_foundMany : Int32} {v_foundOrder : Int32} {v_isKept : Bool} {v_imageRows : Int32} {v_imageColumns : Int32} {v_imageFolded : Int32} {v_imageWronged : Int32} {v_bodies : Int32} {v_ran : Int32} {v_ownKind : Int32} {v_ownNumber : Int32} {v_limit : List Int32} {v_changeWas : List Int32} {v_changeIs : List Int32} {v_shapeRows : List Int32} {v_shapeColumns : List Int32} {v_row : List Int32} {v_column : List Int32} {v_below : List Int32} {v_face : List Int32} {v_worn : List Int32} {v_lastBend : List Int32} {v_tape : List Int32} {v_text : List Int32} {v_names : List Int32} {v_bends : List Int32} {v_high : List Int32} {v_to : List Int32} {v_pileSize : List Int32} {v_planLine : List Int32} {v_planWay : List Int32} {v_way1 : List Int32} {v_bestWay : List Int32} {v_order1 : List Int32} {v_placeIn : List Int32} {v_bodyKind : List Int32} {v_trace : List Int32} {v_shelf : List Int32} {v_many : List Int32} {v_items : List Int64} {v_carried : List Int64} {w_ran : Int32} {w_trace : List Int32} {N d : Nat} (hd : 1 ≤ d) (hf : fX9_begins N x1 v_ran v_trace = some (w_ran, w_trace)) : mm_Ct l yX9_begins cX9_begins 2 none d D (mm_T cI cL cS cH) [.ref (a 0), .int x1] (wd_X9 cI cL cS cH a v_keptMany v_done v_rowsOf v_columnsOf v_folded v_wronged v_tapeMany v_textMany v_base v_at v_ends v_fault v_opened v_bentMany v_bentWrong v_moreWorn v_planned v_allWrong v_allWorn v_z v_wishedField v_isFound v_bestWrong v_bestWorn v_bestMany v_soughtBy v_sought v_soughtAt v_foundMany v_foundOrder v_isKept v_imageRows v_imageColumns v_imageFolded v_imageWronged v_bodies v_ran v_ownKind v_ownNumber v_limit v_changeWas v_changeIs v_shapeRows v_shapeColumns v_row v_column v_below v_face v_worn v_lastBend v_tape v_text v_names v_bends v_high v_to v_pileSize v_planLine v_planWay v_way1 v_bestWay v_order1 v_placeIn v_bodyKind v_trace v_shelf v_many v_items v_carried) (wd_X9 cI cL cS cH a v_keptMany v_done v_rowsOf v_columnsOf v_folded v_wronged v_tapeMany v_textMany v_base v_at v_ends v_fault v_opened v_bentMany v_bentWrong v_moreWorn v_planned v_allWrong v_allWorn v_z v_wishedField v_isFound v_bestWrong v_bestWorn v_bestMany v_soughtBy v_sought v_soughtAt v_foundMany v_foundOrder v_isKept v_imageRows v_imageColumns v_imageFolded v_imageWronged v_bodies w_ran v_ownKind v_ownNumber v_limit v_changeWas v_changeIs v_shapeRows v_shapeColumns v_row v_column v_below v_face v_worn v_lastBend v_tape v_text v_names v_bends v_high v_to v_pileSize v_planLine v_planWay v_way1 v_bestWay v_order1 v_placeIn v_bodyKind w_trace v_shelf v_many v_items v_carried) none := by
  refine mm_of (by decide) (Nat.le_of_ble_eq_true rfl) ?_
  intro p e s m args below meth c A H locs ls C0 hP hD hA hS hl
  have C0 : mm_Cx p s m args meth c RX9 cX9_begins 2 none D (mm_T cI cL cS cH) A := C0
  obtain ⟨hx, hb, hml, hown, hts, hr, hlocks, hK, hSt⟩ := id C0
  have hl : lv_has ls 2 [(0, .ref (a 0)), (1, .int x1)] := hl
  unfold fX9_begins at hf
  refine lv_aload_n hx hb dX9_begins_0 rfl (lv_at hl 0 rfl) ?_
  refine mm_get C0 hP iw_X9 0 rfl rfl 62 (by decide) fl_X9_398 rfl dX9_begins_1 ?_
  refine lv_bipush (v := 24) hx hb dX9_begins_4 (by decide) ?_
  refine lv_icmp_ge (tgt := 19) hx hb dX9_begins_6 (by decide) (fun c_1 => ?_) (fun c_1 => ?_)
  · have hf := mm_ip hf c_1
    exact tX9_begins_19 hd C0 hA N  _ _ H locs ls hf hP hD hS (lv_sub hl [0] rfl)
  · have hf := mm_in hf c_1
    refine lv_aload_n hx hb dX9_begins_9 rfl (lv_at hl 0 rfl) ?_
    refine mm_get C0 hP iw_X9 0 rfl rfl 61 (by decide) fl_X9_85 rfl dX9_begins_10 ?_
    refine lv_aload_n hx hb dX9_begins_13 rfl (lv_at hl 0 rfl) ?_
    refine mm_get C0 hP iw_X9 0 rfl rfl 62 (by decide) fl_X9_398 rfl dX9_begins_14 ?_
    refine lv_iload_n hx hb dX9_begins_17 rfl (lv_at hl 1 rfl) ?_
    obtain ⟨h_2, hf⟩ := mm_cks hf
    refine mm_iast C0 hP hD hS 26 rfl h_2 dX9_begins_18 (w2 := (wd_X9 cI cL cS cH a v_keptMany v_done v_rowsOf v_columnsOf v_folded v_wronged v_tapeMany v_textMany v_base v_at v_ends v_fault v_opened v_bentMany v_bentWrong v_moreWorn v_planned v_allWrong v_allWorn v_z v_wishedField v_isFound v_bestWrong v_bestWorn v_bestMany v_soughtBy v_sought v_soughtAt v_foundMany v_foundOrder v_isKept v_imageRows v_imageColumns v_imageFolded v_imageWronged v_bodies v_ran v_ownKind v_ownNumber v_limit v_changeWas v_changeIs v_shapeRows v_shapeColumns v_row v_column v_below v_face v_worn v_lastBend v_tape v_text v_names v_bends v_high v_to v_pileSize v_planLine v_planWay v_way1 v_bestWay v_order1 v_placeIn v_bodyKind (mm_is v_trace v_ran x1) v_shelf v_many v_items v_carried)) rfl (fun H locs hP hD hS => ?_)
    generalize el_3 : (mm_is v_trace v_ran x1) = l_3 at hP hD
    have hf := mm_nms hf el_3.symm
    exact tX9_begins_19 hd C0 hA N  _ _ H locs ls hf hP hD hS (lv_sub hl [0] rfl)

theorem nb_dX9_foldsAs_0 : bls_w cX9_foldsAs [(0, [27]), (1, [16, 6]), (3, [160, 0, 18]), (6, [42]), (7, [16, 70]), (9, [182, 1, 145]), (12, [42]), (13, [4]), (14, [28]), (15, [182, 1, 148]), (18, [5]), (19, [104])] := bls_of (by decide +kernel)
theorem dX9_foldsAs_0 : decode cX9_foldsAs 0 = .ok (.iload_n 1, 1) := op_27 nb_dX9_foldsAs_0.1
set_option maxRecDepth 100000 in
theorem dX9_foldsAs_1 : decode cX9_foldsAs 1 = .ok (.bipush 6, 2) := (op_16 nb_dX9_foldsAs_0.2.1).trans rfl
set_option maxRecDepth 100000 in
theorem dX9_foldsAs_3 : decode cX9_foldsAs 3 = .ok (.if_icmp .ne 18, 3) := (op_160 nb_dX9_foldsAs_0.2.2.1).trans rfl
theorem dX9_foldsAs_6 : decode cX9_foldsAs 6 = .ok (.aload_n 0, 1) := op_42 nb_dX9_foldsAs_0.2.2.2.1
set_option maxRecDepth 100000 in
theorem dX9_foldsAs_7 : decode cX9_foldsAs 7 = .ok (.bipush 70, 2) := (op_16 nb_dX9_foldsAs_0.2.2.2.2.1).trans rfl
set_option maxRecDepth 100000 in
theorem dX9_foldsAs_9 : decode cX9_foldsAs 9 = .ok (.invokevirtual 401, 3) := (op_182 nb_dX9_foldsAs_0.2.2.2.2.2.1).trans rfl
theorem dX9_foldsAs_12 : decode cX9_foldsAs 12 = .ok (.aload_n 0, 1) := op_42 nb_dX9_foldsAs_0.2.2.2.2.2.2.1
theorem dX9_foldsAs_13 : decode cX9_foldsAs 13 = .ok (.iconst 1, 1) := op_4 nb_dX9_foldsAs_0.2.2.2.2.2.2.2.1
theorem dX9_foldsAs_14 : decode cX9_foldsAs 14 = .ok (.iload_n 2, 1) := op_28 nb_dX9_foldsAs_0.2.2.2.2.2.2.2.2.1
set_option maxRecDepth 100000 in
theorem dX9_foldsAs_15 : decode cX9_foldsAs 15 = .ok (.invokevirtual 404, 3) := (op_182 nb_dX9_foldsAs_0.2.2.2.2.2.2.2.2.2.1).trans rfl
theorem dX9_foldsAs_18 : decode cX9_foldsAs 18 = .ok (.iconst 2, 1) := op_5 nb_dX9_foldsAs_0.2.2.2.2.2.2.2.2.2.2.1
theorem dX9_foldsAs_19 : decode cX9_foldsAs 19 = .ok (.imul, 1) := op_104 nb_dX9_foldsAs_0.2.2.2.2.2.2.2.2.2.2.2.1
theorem nb_dX9_foldsAs_20 : bls_w cX9_foldsAs [(20, [172]), (21, [27]), (22, [4]), (23, [160, 0, 18]), (26, [42]), (27, [16, 20]), (29, [182, 1, 145]), (32, [42]), (33, [3]), (34, [28]), (35, [182, 1, 148]), (38, [6])] := bls_of (by decide +kernel)
theorem dX9_foldsAs_20 : decode cX9_foldsAs 20 = .ok (.ireturn, 1) := op_172 nb_dX9_foldsAs_20.1
theorem dX9_foldsAs_21 : decode cX9_foldsAs 21 = .ok (.iload_n 1, 1) := op_27 nb_dX9_foldsAs_20.2.1
theorem dX9_foldsAs_22 : decode cX9_foldsAs 22 = .ok (.iconst 1, 1) := op_4 nb_dX9_foldsAs_20.2.2.1
set_option maxRecDepth 100000 in
theorem dX9_foldsAs_23 : decode cX9_foldsAs 23 = .ok (.if_icmp .ne 18, 3) := (op_160 nb_dX9_foldsAs_20.2.2.2.1).trans rfl
theorem dX9_foldsAs_26 : decode cX9_foldsAs 26 = .ok (.aload_n 0, 1) := op_42 nb_dX9_foldsAs_20.2.2.2.2.1
set_option maxRecDepth 100000 in
theorem dX9_foldsAs_27 : decode cX9_foldsAs 27 = .ok (.bipush 20, 2) := (op_16 nb_dX9_foldsAs_20.2.2.2.2.2.1).trans rfl
set_option maxRecDepth 100000 in
theorem dX9_foldsAs_29 : decode cX9_foldsAs 29 = .ok (.invokevirtual 401, 3) := (op_182 nb_dX9_foldsAs_20.2.2.2.2.2.2.1).trans rfl
theorem dX9_foldsAs_32 : decode cX9_foldsAs 32 = .ok (.aload_n 0, 1) := op_42 nb_dX9_foldsAs_20.2.2.2.2.2.2.2.1
theorem dX9_foldsAs_33 : decode cX9_foldsAs 33 = .ok (.iconst 0, 1) := op_3 nb_dX9_foldsAs_20.2.2.2.2.2.2.2.2.1
theorem dX9_foldsAs_34 : decode cX9_foldsAs 34 = .ok (.iload_n 2, 1) := op_28 nb_dX9_foldsAs_20.2.2.2.2.2.2.2.2.2.1
set_option maxRecDepth 100000 in
theorem dX9_foldsAs_35 : decode cX9_foldsAs 35 = .ok (.invokevirtual 404, 3) := (op_182 nb_dX9_foldsAs_20.2.2.2.2.2.2.2.2.2.2.1).trans rfl
theorem dX9_foldsAs_38 : decode cX9_foldsAs 38 = .ok (.iconst 3, 1) := op_6 nb_dX9_foldsAs_20.2.2.2.2.2.2.2.2.2.2.2.1
theorem nb_dX9_foldsAs_39 : bls_w cX9_foldsAs [(39, [96]), (40, [172]), (41, [42]), (42, [4]), (43, [182, 1, 145]), (46, [28]), (47, [42]), (48, [180, 1, 151]), (51, [96]), (52, [172])] := bls_of (by decide +kernel)
theorem dX9_foldsAs_39 : decode cX9_foldsAs 39 = .ok (.iadd, 1) := op_96 nb_dX9_foldsAs_39.1
theorem dX9_foldsAs_40 : decode cX9_foldsAs 40 = .ok (.ireturn, 1) := op_172 nb_dX9_foldsAs_39.2.1
theorem dX9_foldsAs_41 : decode cX9_foldsAs 41 = .ok (.aload_n 0, 1) := op_42 nb_dX9_foldsAs_39.2.2.1
theorem dX9_foldsAs_42 : decode cX9_foldsAs 42 = .ok (.iconst 1, 1) := op_4 nb_dX9_foldsAs_39.2.2.2.1
set_option maxRecDepth 100000 in
theorem dX9_foldsAs_43 : decode cX9_foldsAs 43 = .ok (.invokevirtual 401, 3) := (op_182 nb_dX9_foldsAs_39.2.2.2.2.1).trans rfl
theorem dX9_foldsAs_46 : decode cX9_foldsAs 46 = .ok (.iload_n 2, 1) := op_28 nb_dX9_foldsAs_39.2.2.2.2.2.1
theorem dX9_foldsAs_47 : decode cX9_foldsAs 47 = .ok (.aload_n 0, 1) := op_42 nb_dX9_foldsAs_39.2.2.2.2.2.2.1
set_option maxRecDepth 100000 in
theorem dX9_foldsAs_48 : decode cX9_foldsAs 48 = .ok (.getfield 407, 3) := (op_180 nb_dX9_foldsAs_39.2.2.2.2.2.2.2.1).trans rfl
theorem dX9_foldsAs_51 : decode cX9_foldsAs 51 = .ok (.iadd, 1) := op_96 nb_dX9_foldsAs_39.2.2.2.2.2.2.2.2.1
theorem dX9_foldsAs_52 : decode cX9_foldsAs 52 = .ok (.ireturn, 1) := op_172 nb_dX9_foldsAs_39.2.2.2.2.2.2.2.2.2.1
def fX9_foldsAso (N : Nat) (go : Int32 → Int32 → Int32 → Int32 → List Int32 → Option (Int32 × Int32 × List Int32)) (x1 : Int32) (x2 : Int32) (v_ran : Int32) (v_ownNumber : Int32) (v_trace : List Int32) : Option (Int32 × Int32 × List Int32) :=
    if x1 = (6 : Int32) then
    (mm_bd2 (fX9_begins N (70 : Int32) v_ran v_trace) (fun (w_13 : Int32) (w_14 : List Int32) =>
    mm_bd3 (go (1 : Int32) x2 w_13 v_ownNumber w_14) (fun (r_16 : Int32) (w_17 : Int32) (w_18 : List Int32) =>
    some ((r_16 * (2 : Int32)), w_17, w_18))))
    else (if x1 = (1 : Int32) then
    (mm_bd2 (fX9_begins N (20 : Int32) v_ran v_trace) (fun (w_6 : Int32) (w_7 : List Int32) =>
    mm_bd3 (go (0 : Int32) x2 w_6 v_ownNumber w_7) (fun (r_9 : Int32) (w_10 : Int32) (w_11 : List Int32) =>
    some ((r_9 + (3 : Int32)), w_10, w_11))))
    else (mm_bd2 (fX9_begins N (1 : Int32) v_ran v_trace) (fun (w_3 : Int32) (w_4 : List Int32) =>
    some ((x2 + v_ownNumber), w_3, w_4))))

set_option maxHeartbeats 4000000 in
set_option maxRecDepth 100000 in
theorem ctX9_foldsAso {l : Launch} {D : va_G} {cI cL cS cH : ClassId} {a : Nat → Nat} {x1 : Int32} {x2 : Int32} {v_keptMany : Int32} {v_done : Int32} {v_rowsOf : Int32} {v_columnsOf : Int32} {v_folded : Int32} {v_wronged : Int32} {v_tapeMany : Int32} {v_textMany : Int32} {v_base : Int32} {v_at : Int32} {v_ends : Int32} {v_fault : Int32} {v_opened : Int32} {v_bentMany : Int32} {v_bentWrong : Int32} {v_moreWorn : Int32} {v_planned : Int32} {v_allWrong : Int32} {v_allWorn : Int32} {v_z : Int32} {v_wishedField : Int32} {v_isFound : Bool} {v_bestWrong : Int32} {v_bestWorn : Int32} {v_bestMany : Int32} {v_soughtBy : Int32} {v_sought : Int32} {v_soughtAt : Int32} {v_foundMany : Int32} {v_foundOrder : Int32} {v_isKept : Bool} {v_imageRows : Int32} {v_imageColumns : Int32} {v_imageFolded : Int32} {v_imageWronged : Int32} {v_bodies : Int32} {v_ran : Int32} {v_ownKind : Int32} {v_ownNumber : Int32} {v_limit : List Int32} {v_changeWas : List Int32} {v_changeIs : List Int32} {v_shapeRows : List Int32} {v_shapeColumns : List Int32} {v_row : List Int32} {v_column : List Int32} {v_below : List Int32} {v_face : List Int32} {v_worn : List Int32} {v_lastBend : List Int32} {v_tape : List Int32} {v_text : List Int32} {v_names : List Int32} {v_bends : List Int32} {v_high : List Int32} {v_to : List Int32} {v_pileSize : List Int32} {v_planLine : List Int32} {v_planWay : List Int32} {v_way1 : List Int32} {v_bestWay : List Int32} {v_order1 : List Int32} {v_placeIn : List Int32} {v_bodyKind : List Int32} {v_trace : List Int32} {v_shelf : List Int32} {v_many : List Int32} {v_items : List Int64} {v_carried : List Int64} {r : Int32} {w_ran : Int32} {w_trace : List Int32} {N d : Nat} {go : Int32 → Int32 → Int32 → Int32 → List Int32 → Option (Int32 × Int32 × List Int32)} {dgo : Nat} (hgo : ∀ (a : Nat → Nat) (x1 : Int32) (x2 : Int32) (v_keptMany : Int32) (v_done : Int32) (v_rowsOf : Int32) (v_columnsOf : Int32) (v_folded : Int32) (v_wronged : Int32) (v_tapeMany : Int32) (v_textMany : Int32) (v_base : Int32) (v_at : Int32) (v_ends : Int32) (v_fault : Int32) (v_opened : Int32) (v_bentMany : Int32) (v_bentWrong : Int32) (v_moreWorn : Int32) (v_planned : Int32) (v_allWrong : Int32) (v_allWorn : Int32) (v_z : Int32) (v_wishedField : Int32) (v_isFound : Bool) (v_bestWrong : Int32) (v_bestWorn : Int32) (v_bestMany : Int32) (v_soughtBy : Int32) (v_sought : Int32) (v_soughtAt : Int32) (v_foundMany : Int32) (v_foundOrder : Int32) (v_isKept : Bool) (v_imageRows : Int32) (v_imageColumns : Int32) (v_imageFolded : Int32) (v_imageWronged : Int32) (v_bodies : Int32) (v_ran : Int32) (v_ownKind : Int32) (v_ownNumber : Int32) (v_limit : List Int32) (v_changeWas : List Int32) (v_changeIs : List Int32) (v_shapeRows : List Int32) (v_shapeColumns : List Int32) (v_row : List Int32) (v_column : List Int32) (v_below : List Int32) (v_face : List Int32) (v_worn : List Int32) (v_lastBend : List Int32) (v_tape : List Int32) (v_text : List Int32) (v_names : List Int32) (v_bends : List Int32) (v_high : List Int32) (v_to : List Int32) (v_pileSize : List Int32) (v_planLine : List Int32) (v_planWay : List Int32) (v_way1 : List Int32) (v_bestWay : List Int32) (v_order1 : List Int32) (v_placeIn : List Int32) (v_bodyKind : List Int32) (v_trace : List Int32) (v_shelf : List Int32) (v_many : List Int32) (v_items : List Int64) (v_carried : List Int64) (r : Int32) (w_ran : Int32) (w_trace : List Int32), go x1 x2 v_ran v_ownNumber v_trace = some (r, w_ran, w_trace) → mm_Ct l yX9_foldsAs cX9_foldsAs 3 (some .int) dgo D (mm_T cI cL cS cH) [.ref (a 0), .int x1, .int x2] (wd_X9 cI cL cS cH a v_keptMany v_done v_rowsOf v_columnsOf v_folded v_wronged v_tapeMany v_textMany v_base v_at v_ends v_fault v_opened v_bentMany v_bentWrong v_moreWorn v_planned v_allWrong v_allWorn v_z v_wishedField v_isFound v_bestWrong v_bestWorn v_bestMany v_soughtBy v_sought v_soughtAt v_foundMany v_foundOrder v_isKept v_imageRows v_imageColumns v_imageFolded v_imageWronged v_bodies v_ran v_ownKind v_ownNumber v_limit v_changeWas v_changeIs v_shapeRows v_shapeColumns v_row v_column v_below v_face v_worn v_lastBend v_tape v_text v_names v_bends v_high v_to v_pileSize v_planLine v_planWay v_way1 v_bestWay v_order1 v_placeIn v_bodyKind v_trace v_shelf v_many v_items v_carried) (wd_X9 cI cL cS cH a v_keptMany v_done v_rowsOf v_columnsOf v_folded v_wronged v_tapeMany v_textMany v_base v_at v_ends v_fault v_opened v_bentMany v_bentWrong v_moreWorn v_planned v_allWrong v_allWorn v_z v_wishedField v_isFound v_bestWrong v_bestWorn v_bestMany v_soughtBy v_sought v_soughtAt v_foundMany v_foundOrder v_isKept v_imageRows v_imageColumns v_imageFolded v_imageWronged v_bodies w_ran v_ownKind v_ownNumber v_limit v_changeWas v_changeIs v_shapeRows v_shapeColumns v_row v_column v_below v_face v_worn v_lastBend v_tape v_text v_names v_bends v_high v_to v_pileSize v_planLine v_planWay v_way1 v_bestWay v_order1 v_placeIn v_bodyKind w_trace v_shelf v_many v_items v_carried) (some (.int r))) (hE : 1 ≤ dgo) (hd : dgo + 1 ≤ d) (hf : fX9_foldsAso N go x1 x2 v_ran v_ownNumber v_trace = some (r, w_ran, w_trace)) : mm_Ct l yX9_foldsAs cX9_foldsAs 3 (some .int) d D (mm_T cI cL cS cH) [.ref (a 0), .int x1, .int x2] (wd_X9 cI cL cS cH a v_keptMany v_done v_rowsOf v_columnsOf v_folded v_wronged v_tapeMany v_textMany v_base v_at v_ends v_fault v_opened v_bentMany v_bentWrong v_moreWorn v_planned v_allWrong v_allWorn v_z v_wishedField v_isFound v_bestWrong v_bestWorn v_bestMany v_soughtBy v_sought v_soughtAt v_foundMany v_foundOrder v_isKept v_imageRows v_imageColumns v_imageFolded v_imageWronged v_bodies v_ran v_ownKind v_ownNumber v_limit v_changeWas v_changeIs v_shapeRows v_shapeColumns v_row v_column v_below v_face v_worn v_lastBend v_tape v_text v_names v_bends v_high v_to v_pileSize v_planLine v_planWay v_way1 v_bestWay v_order1 v_placeIn v_bodyKind v_trace v_shelf v_many v_items v_carried) (wd_X9 cI cL cS cH a v_keptMany v_done v_rowsOf v_columnsOf v_folded v_wronged v_tapeMany v_textMany v_base v_at v_ends v_fault v_opened v_bentMany v_bentWrong v_moreWorn v_planned v_allWrong v_allWorn v_z v_wishedField v_isFound v_bestWrong v_bestWorn v_bestMany v_soughtBy v_sought v_soughtAt v_foundMany v_foundOrder v_isKept v_imageRows v_imageColumns v_imageFolded v_imageWronged v_bodies w_ran v_ownKind v_ownNumber v_limit v_changeWas v_changeIs v_shapeRows v_shapeColumns v_row v_column v_below v_face v_worn v_lastBend v_tape v_text v_names v_bends v_high v_to v_pileSize v_planLine v_planWay v_way1 v_bestWay v_order1 v_placeIn v_bodyKind w_trace v_shelf v_many v_items v_carried) (some (.int r)) := by
  refine mm_of (by decide) (Nat.le_of_ble_eq_true rfl) ?_
  intro p e s m args below meth c A H locs ls C0 hP hD hA hS hl
  have C0 : mm_Cx p s m args meth c RX9 cX9_foldsAs 3 (some .int) D (mm_T cI cL cS cH) A := C0
  obtain ⟨hx, hb, hml, hown, hts, hr, hlocks, hK, hSt⟩ := id C0
  have hl : lv_has ls 3 [(0, .ref (a 0)), (1, .int x1), (2, .int x2)] := hl
  unfold fX9_foldsAso at hf
  refine lv_iload_n hx hb dX9_foldsAs_0 rfl (lv_at hl 1 rfl) ?_
  refine lv_bipush (v := 6) hx hb dX9_foldsAs_1 (by decide) ?_
  refine lv_icmp_ne (tgt := 21) hx hb dX9_foldsAs_3 (by decide) (fun c_1 => ?_) (fun c_1 => ?_)
  · have hf := mm_in hf c_1
    refine lv_iload_n hx hb dX9_foldsAs_21 rfl (lv_at hl 1 rfl) ?_
    refine lv_iconst (v := 1) hx hb dX9_foldsAs_22 (by decide) ?_
    refine lv_icmp_ne (tgt := 41) hx hb dX9_foldsAs_23 (by decide) (fun c_2 => ?_) (fun c_2 => ?_)
    · have hf := mm_in hf c_2
      refine lv_aload_n hx hb dX9_foldsAs_41 rfl (lv_at hl 0 rfl) ?_
      refine lv_iconst (v := 1) hx hb dX9_foldsAs_42 (by decide) ?_
      obtain ⟨w_3, w_4, hc_5, hf⟩ := mm_bd2s hf
      refine mm_callVF (q0 := 0) (ci := 9) (rest := []) C0 lk_X9_401 (ctX9_begins (a := a) (d := d - 1) (by omega) hc_5) (by omega) rfl hl.1 rfl (mm_cat rfl) dX9_foldsAs_43 hP hD hA hS rfl rfl (fun H locs hP hD hS => ?_)
      refine W.eq (g2 := F0 m 46 ls []) rfl ?_
      refine lv_iload_n hx hb dX9_foldsAs_46 rfl (lv_at hl 2 rfl) ?_
      refine lv_aload_n hx hb dX9_foldsAs_47 rfl (lv_at hl 0 rfl) ?_
      refine mm_get C0 hP iw_X9 0 rfl rfl 64 (by decide) fl_X9_407 rfl dX9_foldsAs_48 ?_
      refine lv_iadd hx hb dX9_foldsAs_51 ?_
      apply mm_sub3 hf
      exact mm_iret C0 hP hD hS dX9_foldsAs_52
    · have hf := mm_ip hf c_2
      refine lv_aload_n hx hb dX9_foldsAs_26 rfl (lv_at hl 0 rfl) ?_
      refine lv_bipush (v := 20) hx hb dX9_foldsAs_27 (by decide) ?_
      obtain ⟨w_6, w_7, hc_8, hf⟩ := mm_bd2s hf
      refine mm_callVF (q0 := 0) (ci := 9) (rest := []) C0 lk_X9_401 (ctX9_begins (a := a) (d := d - 1) (by omega) hc_8) (by omega) rfl hl.1 rfl (mm_cat rfl) dX9_foldsAs_29 hP hD hA hS rfl rfl (fun H locs hP hD hS => ?_)
      refine W.eq (g2 := F0 m 32 ls []) rfl ?_
      refine lv_aload_n hx hb dX9_foldsAs_32 rfl (lv_at hl 0 rfl) ?_
      refine lv_iconst (v := 0) hx hb dX9_foldsAs_33 (by decide) ?_
      refine lv_iload_n hx hb dX9_foldsAs_34 rfl (lv_at hl 2 rfl) ?_
      obtain ⟨r_9, w_10, w_11, hc_12, hf⟩ := mm_bd3s hf
      refine mm_callVF (q0 := 0) (ci := 9) (rest := []) C0 lk_X9_404 (hgo a _ _ _ _ _ _ _ _ _ _ _ _ _ _ _ _ _ _ _ _ _ _ _ _ _ _ _ _ _ _ _ _ _ _ _ _ _ _ _ _ _ _ _ _ _ _ _ _ _ _ _ _ _ _ _ _ _ _ _ _ _ _ _ _ _ _ _ _ _ _ _ _ _ _ hc_12) (by omega) rfl hl.1 rfl (mm_cat rfl) dX9_foldsAs_35 hP hD hA hS rfl rfl (fun H locs hP hD hS => ?_)
      refine W.eq (g2 := F0 m 38 ls [.int r_9]) rfl ?_
      refine lv_iconst (v := 3) hx hb dX9_foldsAs_38 (by decide) ?_
      refine lv_iadd hx hb dX9_foldsAs_39 ?_
      apply mm_sub3 hf
      exact mm_iret C0 hP hD hS dX9_foldsAs_40
  · have hf := mm_ip hf c_1
    refine lv_aload_n hx hb dX9_foldsAs_6 rfl (lv_at hl 0 rfl) ?_
    refine lv_bipush (v := 70) hx hb dX9_foldsAs_7 (by decide) ?_
    obtain ⟨w_13, w_14, hc_15, hf⟩ := mm_bd2s hf
    refine mm_callVF (q0 := 0) (ci := 9) (rest := []) C0 lk_X9_401 (ctX9_begins (a := a) (d := d - 1) (by omega) hc_15) (by omega) rfl hl.1 rfl (mm_cat rfl) dX9_foldsAs_9 hP hD hA hS rfl rfl (fun H locs hP hD hS => ?_)
    refine W.eq (g2 := F0 m 12 ls []) rfl ?_
    refine lv_aload_n hx hb dX9_foldsAs_12 rfl (lv_at hl 0 rfl) ?_
    refine lv_iconst (v := 1) hx hb dX9_foldsAs_13 (by decide) ?_
    refine lv_iload_n hx hb dX9_foldsAs_14 rfl (lv_at hl 2 rfl) ?_
    obtain ⟨r_16, w_17, w_18, hc_19, hf⟩ := mm_bd3s hf
    refine mm_callVF (q0 := 0) (ci := 9) (rest := []) C0 lk_X9_404 (hgo a _ _ _ _ _ _ _ _ _ _ _ _ _ _ _ _ _ _ _ _ _ _ _ _ _ _ _ _ _ _ _ _ _ _ _ _ _ _ _ _ _ _ _ _ _ _ _ _ _ _ _ _ _ _ _ _ _ _ _ _ _ _ _ _ _ _ _ _ _ _ _ _ _ _ hc_19) (by omega) rfl hl.1 rfl (mm_cat rfl) dX9_foldsAs_15 hP hD hA hS rfl rfl (fun H locs hP hD hS => ?_)
    refine W.eq (g2 := F0 m 18 ls [.int r_16]) rfl ?_
    refine lv_iconst (v := 2) hx hb dX9_foldsAs_18 (by decide) ?_
    refine lv_imul hx hb dX9_foldsAs_19 ?_
    apply mm_sub3 hf
    exact mm_iret C0 hP hD hS dX9_foldsAs_20

def fX9_foldsAs (N : Nat) : Nat → Int32 → Int32 → Int32 → Int32 → List Int32 → Option (Int32 × Int32 × List Int32)
  | 0 => fun _ _ _ _ _ => none
  | M + 1 => fX9_foldsAso N (fX9_foldsAs N M)
set_option maxHeartbeats 4000000 in
set_option maxRecDepth 100000 in
theorem ctX9_foldsAs {l : Launch} {D : va_G} {cI cL cS cH : ClassId} {N : Nat} : ∀ (M d : Nat), 1 + 1 * M ≤ d → ∀ (a : Nat → Nat) (x1 : Int32) (x2 : Int32) (v_keptMany : Int32) (v_done : Int32) (v_rowsOf : Int32) (v_columnsOf : Int32) (v_folded : Int32) (v_wronged : Int32) (v_tapeMany : Int32) (v_textMany : Int32) (v_base : Int32) (v_at : Int32) (v_ends : Int32) (v_fault : Int32) (v_opened : Int32) (v_bentMany : Int32) (v_bentWrong : Int32) (v_moreWorn : Int32) (v_planned : Int32) (v_allWrong : Int32) (v_allWorn : Int32) (v_z : Int32) (v_wishedField : Int32) (v_isFound : Bool) (v_bestWrong : Int32) (v_bestWorn : Int32) (v_bestMany : Int32) (v_soughtBy : Int32) (v_sought : Int32) (v_soughtAt : Int32) (v_foundMany : Int32) (v_foundOrder : Int32) (v_isKept : Bool) (v_imageRows : Int32) (v_imageColumns : Int32) (v_imageFolded : Int32) (v_imageWronged : Int32) (v_bodies : Int32) (v_ran : Int32) (v_ownKind : Int32) (v_ownNumber : Int32) (v_limit : List Int32) (v_changeWas : List Int32) (v_changeIs : List Int32) (v_shapeRows : List Int32) (v_shapeColumns : List Int32) (v_row : List Int32) (v_column : List Int32) (v_below : List Int32) (v_face : List Int32) (v_worn : List Int32) (v_lastBend : List Int32) (v_tape : List Int32) (v_text : List Int32) (v_names : List Int32) (v_bends : List Int32) (v_high : List Int32) (v_to : List Int32) (v_pileSize : List Int32) (v_planLine : List Int32) (v_planWay : List Int32) (v_way1 : List Int32) (v_bestWay : List Int32) (v_order1 : List Int32) (v_placeIn : List Int32) (v_bodyKind : List Int32) (v_trace : List Int32) (v_shelf : List Int32) (v_many : List Int32) (v_items : List Int64) (v_carried : List Int64) (r : Int32) (w_ran : Int32) (w_trace : List Int32), fX9_foldsAs N M x1 x2 v_ran v_ownNumber v_trace = some (r, w_ran, w_trace) → mm_Ct l yX9_foldsAs cX9_foldsAs 3 (some .int) d D (mm_T cI cL cS cH) [.ref (a 0), .int x1, .int x2] (wd_X9 cI cL cS cH a v_keptMany v_done v_rowsOf v_columnsOf v_folded v_wronged v_tapeMany v_textMany v_base v_at v_ends v_fault v_opened v_bentMany v_bentWrong v_moreWorn v_planned v_allWrong v_allWorn v_z v_wishedField v_isFound v_bestWrong v_bestWorn v_bestMany v_soughtBy v_sought v_soughtAt v_foundMany v_foundOrder v_isKept v_imageRows v_imageColumns v_imageFolded v_imageWronged v_bodies v_ran v_ownKind v_ownNumber v_limit v_changeWas v_changeIs v_shapeRows v_shapeColumns v_row v_column v_below v_face v_worn v_lastBend v_tape v_text v_names v_bends v_high v_to v_pileSize v_planLine v_planWay v_way1 v_bestWay v_order1 v_placeIn v_bodyKind v_trace v_shelf v_many v_items v_carried) (wd_X9 cI cL cS cH a v_keptMany v_done v_rowsOf v_columnsOf v_folded v_wronged v_tapeMany v_textMany v_base v_at v_ends v_fault v_opened v_bentMany v_bentWrong v_moreWorn v_planned v_allWrong v_allWorn v_z v_wishedField v_isFound v_bestWrong v_bestWorn v_bestMany v_soughtBy v_sought v_soughtAt v_foundMany v_foundOrder v_isKept v_imageRows v_imageColumns v_imageFolded v_imageWronged v_bodies w_ran v_ownKind v_ownNumber v_limit v_changeWas v_changeIs v_shapeRows v_shapeColumns v_row v_column v_below v_face v_worn v_lastBend v_tape v_text v_names v_bends v_high v_to v_pileSize v_planLine v_planWay v_way1 v_bestWay v_order1 v_placeIn v_bodyKind w_trace v_shelf v_many v_items v_carried) (some (.int r)) := by
  intro M
  induction M with
  | zero =>
    intro d hd a x1 x2 v_keptMany v_done v_rowsOf v_columnsOf v_folded v_wronged v_tapeMany v_textMany v_base v_at v_ends v_fault v_opened v_bentMany v_bentWrong v_moreWorn v_planned v_allWrong v_allWorn v_z v_wishedField v_isFound v_bestWrong v_bestWorn v_bestMany v_soughtBy v_sought v_soughtAt v_foundMany v_foundOrder v_isKept v_imageRows v_imageColumns v_imageFolded v_imageWronged v_bodies v_ran v_ownKind v_ownNumber v_limit v_changeWas v_changeIs v_shapeRows v_shapeColumns v_row v_column v_below v_face v_worn v_lastBend v_tape v_text v_names v_bends v_high v_to v_pileSize v_planLine v_planWay v_way1 v_bestWay v_order1 v_placeIn v_bodyKind v_trace v_shelf v_many v_items v_carried r w_ran w_trace hf
    cases (show none = some _ from hf)
  | succ M ih =>
    intro d hd a x1 x2 v_keptMany v_done v_rowsOf v_columnsOf v_folded v_wronged v_tapeMany v_textMany v_base v_at v_ends v_fault v_opened v_bentMany v_bentWrong v_moreWorn v_planned v_allWrong v_allWorn v_z v_wishedField v_isFound v_bestWrong v_bestWorn v_bestMany v_soughtBy v_sought v_soughtAt v_foundMany v_foundOrder v_isKept v_imageRows v_imageColumns v_imageFolded v_imageWronged v_bodies v_ran v_ownKind v_ownNumber v_limit v_changeWas v_changeIs v_shapeRows v_shapeColumns v_row v_column v_below v_face v_worn v_lastBend v_tape v_text v_names v_bends v_high v_to v_pileSize v_planLine v_planWay v_way1 v_bestWay v_order1 v_placeIn v_bodyKind v_trace v_shelf v_many v_items v_carried r w_ran w_trace hf
    exact ctX9_foldsAso (N := N) (ih (1 + 1 * M) (Nat.le_refl _)) (Nat.le_add_right _ _) (by omega) hf

theorem nb_dX9_wearsAs_0 : bls_w cX9_wearsAs [(0, [27]), (1, [6]), (2, [159, 0, 8]), (5, [27]), (6, [8]), (7, [160, 0, 18]), (10, [42]), (11, [16, 40]), (13, [182, 1, 145]), (16, [42]), (17, [5]), (18, [28])] := bls_of (by decide +kernel)
theorem dX9_wearsAs_0 : decode cX9_wearsAs 0 = .ok (.iload_n 1, 1) := op_27 nb_dX9_wearsAs_0.1
theorem dX9_wearsAs_1 : decode cX9_wearsAs 1 = .ok (.iconst 3, 1) := op_6 nb_dX9_wearsAs_0.2.1
set_option maxRecDepth 100000 in
theorem dX9_wearsAs_2 : decode cX9_wearsAs 2 = .ok (.if_icmp .eq 8, 3) := (op_159 nb_dX9_wearsAs_0.2.2.1).trans rfl
theorem dX9_wearsAs_5 : decode cX9_wearsAs 5 = .ok (.iload_n 1, 1) := op_27 nb_dX9_wearsAs_0.2.2.2.1
theorem dX9_wearsAs_6 : decode cX9_wearsAs 6 = .ok (.iconst 5, 1) := op_8 nb_dX9_wearsAs_0.2.2.2.2.1
set_option maxRecDepth 100000 in
theorem dX9_wearsAs_7 : decode cX9_wearsAs 7 = .ok (.if_icmp .ne 18, 3) := (op_160 nb_dX9_wearsAs_0.2.2.2.2.2.1).trans rfl
theorem dX9_wearsAs_10 : decode cX9_wearsAs 10 = .ok (.aload_n 0, 1) := op_42 nb_dX9_wearsAs_0.2.2.2.2.2.2.1
set_option maxRecDepth 100000 in
theorem dX9_wearsAs_11 : decode cX9_wearsAs 11 = .ok (.bipush 40, 2) := (op_16 nb_dX9_wearsAs_0.2.2.2.2.2.2.2.1).trans rfl
set_option maxRecDepth 100000 in
theorem dX9_wearsAs_13 : decode cX9_wearsAs 13 = .ok (.invokevirtual 401, 3) := (op_182 nb_dX9_wearsAs_0.2.2.2.2.2.2.2.2.1).trans rfl
theorem dX9_wearsAs_16 : decode cX9_wearsAs 16 = .ok (.aload_n 0, 1) := op_42 nb_dX9_wearsAs_0.2.2.2.2.2.2.2.2.2.1
theorem dX9_wearsAs_17 : decode cX9_wearsAs 17 = .ok (.iconst 2, 1) := op_5 nb_dX9_wearsAs_0.2.2.2.2.2.2.2.2.2.2.1
theorem dX9_wearsAs_18 : decode cX9_wearsAs 18 = .ok (.iload_n 2, 1) := op_28 nb_dX9_wearsAs_0.2.2.2.2.2.2.2.2.2.2.2.1
theorem nb_dX9_wearsAs_19 : bls_w cX9_wearsAs [(19, [182, 1, 160]), (22, [6]), (23, [104]), (24, [172]), (25, [27]), (26, [7]), (27, [159, 0, 9]), (30, [27]), (31, [16, 7]), (33, [160, 0, 28]), (36, [42]), (37, [16, 50])] := bls_of (by decide +kernel)
set_option maxRecDepth 100000 in
theorem dX9_wearsAs_19 : decode cX9_wearsAs 19 = .ok (.invokevirtual 416, 3) := (op_182 nb_dX9_wearsAs_19.1).trans rfl
theorem dX9_wearsAs_22 : decode cX9_wearsAs 22 = .ok (.iconst 3, 1) := op_6 nb_dX9_wearsAs_19.2.1
theorem dX9_wearsAs_23 : decode cX9_wearsAs 23 = .ok (.imul, 1) := op_104 nb_dX9_wearsAs_19.2.2.1
theorem dX9_wearsAs_24 : decode cX9_wearsAs 24 = .ok (.ireturn, 1) := op_172 nb_dX9_wearsAs_19.2.2.2.1
theorem dX9_wearsAs_25 : decode cX9_wearsAs 25 = .ok (.iload_n 1, 1) := op_27 nb_dX9_wearsAs_19.2.2.2.2.1
theorem dX9_wearsAs_26 : decode cX9_wearsAs 26 = .ok (.iconst 4, 1) := op_7 nb_dX9_wearsAs_19.2.2.2.2.2.1
set_option maxRecDepth 100000 in
theorem dX9_wearsAs_27 : decode cX9_wearsAs 27 = .ok (.if_icmp .eq 9, 3) := (op_159 nb_dX9_wearsAs_19.2.2.2.2.2.2.1).trans rfl
theorem dX9_wearsAs_30 : decode cX9_wearsAs 30 = .ok (.iload_n 1, 1) := op_27 nb_dX9_wearsAs_19.2.2.2.2.2.2.2.1
set_option maxRecDepth 100000 in
theorem dX9_wearsAs_31 : decode cX9_wearsAs 31 = .ok (.bipush 7, 2) := (op_16 nb_dX9_wearsAs_19.2.2.2.2.2.2.2.2.1).trans rfl
set_option maxRecDepth 100000 in
theorem dX9_wearsAs_33 : decode cX9_wearsAs 33 = .ok (.if_icmp .ne 28, 3) := (op_160 nb_dX9_wearsAs_19.2.2.2.2.2.2.2.2.2.1).trans rfl
theorem dX9_wearsAs_36 : decode cX9_wearsAs 36 = .ok (.aload_n 0, 1) := op_42 nb_dX9_wearsAs_19.2.2.2.2.2.2.2.2.2.2.1
set_option maxRecDepth 100000 in
theorem dX9_wearsAs_37 : decode cX9_wearsAs 37 = .ok (.bipush 50, 2) := (op_16 nb_dX9_wearsAs_19.2.2.2.2.2.2.2.2.2.2.2.1).trans rfl
theorem nb_dX9_wearsAs_39 : bls_w cX9_wearsAs [(39, [182, 1, 145]), (42, [42]), (43, [3]), (44, [28]), (45, [182, 1, 160]), (48, [62]), (49, [29]), (50, [42]), (51, [42]), (52, [180, 1, 157]), (55, [5]), (56, [182, 1, 148])] := bls_of (by decide +kernel)
set_option maxRecDepth 100000 in
theorem dX9_wearsAs_39 : decode cX9_wearsAs 39 = .ok (.invokevirtual 401, 3) := (op_182 nb_dX9_wearsAs_39.1).trans rfl
theorem dX9_wearsAs_42 : decode cX9_wearsAs 42 = .ok (.aload_n 0, 1) := op_42 nb_dX9_wearsAs_39.2.1
theorem dX9_wearsAs_43 : decode cX9_wearsAs 43 = .ok (.iconst 0, 1) := op_3 nb_dX9_wearsAs_39.2.2.1
theorem dX9_wearsAs_44 : decode cX9_wearsAs 44 = .ok (.iload_n 2, 1) := op_28 nb_dX9_wearsAs_39.2.2.2.1
set_option maxRecDepth 100000 in
theorem dX9_wearsAs_45 : decode cX9_wearsAs 45 = .ok (.invokevirtual 416, 3) := (op_182 nb_dX9_wearsAs_39.2.2.2.2.1).trans rfl
theorem dX9_wearsAs_48 : decode cX9_wearsAs 48 = .ok (.istore_n 3, 1) := op_62 nb_dX9_wearsAs_39.2.2.2.2.2.1
theorem dX9_wearsAs_49 : decode cX9_wearsAs 49 = .ok (.iload_n 3, 1) := op_29 nb_dX9_wearsAs_39.2.2.2.2.2.2.1
theorem dX9_wearsAs_50 : decode cX9_wearsAs 50 = .ok (.aload_n 0, 1) := op_42 nb_dX9_wearsAs_39.2.2.2.2.2.2.2.1
theorem dX9_wearsAs_51 : decode cX9_wearsAs 51 = .ok (.aload_n 0, 1) := op_42 nb_dX9_wearsAs_39.2.2.2.2.2.2.2.2.1
set_option maxRecDepth 100000 in
theorem dX9_wearsAs_52 : decode cX9_wearsAs 52 = .ok (.getfield 413, 3) := (op_180 nb_dX9_wearsAs_39.2.2.2.2.2.2.2.2.2.1).trans rfl
theorem dX9_wearsAs_55 : decode cX9_wearsAs 55 = .ok (.iconst 2, 1) := op_5 nb_dX9_wearsAs_39.2.2.2.2.2.2.2.2.2.2.1
set_option maxRecDepth 100000 in
theorem dX9_wearsAs_56 : decode cX9_wearsAs 56 = .ok (.invokevirtual 404, 3) := (op_182 nb_dX9_wearsAs_39.2.2.2.2.2.2.2.2.2.2.2.1).trans rfl
theorem nb_dX9_wearsAs_59 : bls_w cX9_wearsAs [(59, [100]), (60, [172]), (61, [42]), (62, [16, 11]), (64, [182, 1, 145]), (67, [28]), (68, [42]), (69, [180, 1, 151]), (72, [130]), (73, [172])] := bls_of (by decide +kernel)
theorem dX9_wearsAs_59 : decode cX9_wearsAs 59 = .ok (.isub, 1) := op_100 nb_dX9_wearsAs_59.1
theorem dX9_wearsAs_60 : decode cX9_wearsAs 60 = .ok (.ireturn, 1) := op_172 nb_dX9_wearsAs_59.2.1
theorem dX9_wearsAs_61 : decode cX9_wearsAs 61 = .ok (.aload_n 0, 1) := op_42 nb_dX9_wearsAs_59.2.2.1
set_option maxRecDepth 100000 in
theorem dX9_wearsAs_62 : decode cX9_wearsAs 62 = .ok (.bipush 11, 2) := (op_16 nb_dX9_wearsAs_59.2.2.2.1).trans rfl
set_option maxRecDepth 100000 in
theorem dX9_wearsAs_64 : decode cX9_wearsAs 64 = .ok (.invokevirtual 401, 3) := (op_182 nb_dX9_wearsAs_59.2.2.2.2.1).trans rfl
theorem dX9_wearsAs_67 : decode cX9_wearsAs 67 = .ok (.iload_n 2, 1) := op_28 nb_dX9_wearsAs_59.2.2.2.2.2.1
theorem dX9_wearsAs_68 : decode cX9_wearsAs 68 = .ok (.aload_n 0, 1) := op_42 nb_dX9_wearsAs_59.2.2.2.2.2.2.1
set_option maxRecDepth 100000 in
theorem dX9_wearsAs_69 : decode cX9_wearsAs 69 = .ok (.getfield 407, 3) := (op_180 nb_dX9_wearsAs_59.2.2.2.2.2.2.2.1).trans rfl
theorem dX9_wearsAs_72 : decode cX9_wearsAs 72 = .ok (.ixor, 1) := op_130 nb_dX9_wearsAs_59.2.2.2.2.2.2.2.2.1
theorem dX9_wearsAs_73 : decode cX9_wearsAs 73 = .ok (.ireturn, 1) := op_172 nb_dX9_wearsAs_59.2.2.2.2.2.2.2.2.2.1
def fX9_wearsAs_10 (N : Nat) (go : Int32 → Int32 → Int32 → Int32 → Int32 → List Int32 → Option (Int32 × Int32 × List Int32))  (x2 : Int32) (v_ran : Int32) (v_ownKind : Int32) (v_ownNumber : Int32) (v_trace : List Int32) : Option (Int32 × Int32 × List Int32) :=
    mm_bd2 (fX9_begins N (40 : Int32) v_ran v_trace) (fun (w_19 : Int32) (w_20 : List Int32) =>
    mm_bd3 (go (2 : Int32) x2 w_19 v_ownKind v_ownNumber w_20) (fun (r_22 : Int32) (w_23 : Int32) (w_24 : List Int32) =>
    some ((r_22 * (3 : Int32)), w_23, w_24)))

set_option maxHeartbeats 4000000 in
set_option maxRecDepth 100000 in
theorem tX9_wearsAs_10 {p : Program} {l : Launch} {e : Env} {s : State} {m : MethodId} {args : Array Value} {below : List Frame} {meth : Method} {c : Code} {D : va_G} {cI cL cS cH : ClassId} {A : Nat → Prop} {d : Nat} {a : Nat → Nat} {go : Int32 → Int32 → Int32 → Int32 → Int32 → List Int32 → Option (Int32 × Int32 × List Int32)} {dgo : Nat} (hgo : ∀ (a : Nat → Nat) (x1 : Int32) (x2 : Int32) (v_keptMany : Int32) (v_done : Int32) (v_rowsOf : Int32) (v_columnsOf : Int32) (v_folded : Int32) (v_wronged : Int32) (v_tapeMany : Int32) (v_textMany : Int32) (v_base : Int32) (v_at : Int32) (v_ends : Int32) (v_fault : Int32) (v_opened : Int32) (v_bentMany : Int32) (v_bentWrong : Int32) (v_moreWorn : Int32) (v_planned : Int32) (v_allWrong : Int32) (v_allWorn : Int32) (v_z : Int32) (v_wishedField : Int32) (v_isFound : Bool) (v_bestWrong : Int32) (v_bestWorn : Int32) (v_bestMany : Int32) (v_soughtBy : Int32) (v_sought : Int32) (v_soughtAt : Int32) (v_foundMany : Int32) (v_foundOrder : Int32) (v_isKept : Bool) (v_imageRows : Int32) (v_imageColumns : Int32) (v_imageFolded : Int32) (v_imageWronged : Int32) (v_bodies : Int32) (v_ran : Int32) (v_ownKind : Int32) (v_ownNumber : Int32) (v_limit : List Int32) (v_changeWas : List Int32) (v_changeIs : List Int32) (v_shapeRows : List Int32) (v_shapeColumns : List Int32) (v_row : List Int32) (v_column : List Int32) (v_below : List Int32) (v_face : List Int32) (v_worn : List Int32) (v_lastBend : List Int32) (v_tape : List Int32) (v_text : List Int32) (v_names : List Int32) (v_bends : List Int32) (v_high : List Int32) (v_to : List Int32) (v_pileSize : List Int32) (v_planLine : List Int32) (v_planWay : List Int32) (v_way1 : List Int32) (v_bestWay : List Int32) (v_order1 : List Int32) (v_placeIn : List Int32) (v_bodyKind : List Int32) (v_trace : List Int32) (v_shelf : List Int32) (v_many : List Int32) (v_items : List Int64) (v_carried : List Int64) (r : Int32) (w_ran : Int32) (w_trace : List Int32), go x1 x2 v_ran v_ownKind v_ownNumber v_trace = some (r, w_ran, w_trace) → mm_Ct l yX9_wearsAs cX9_wearsAs 4 (some .int) dgo D (mm_T cI cL cS cH) [.ref (a 0), .int x1, .int x2] (wd_X9 cI cL cS cH a v_keptMany v_done v_rowsOf v_columnsOf v_folded v_wronged v_tapeMany v_textMany v_base v_at v_ends v_fault v_opened v_bentMany v_bentWrong v_moreWorn v_planned v_allWrong v_allWorn v_z v_wishedField v_isFound v_bestWrong v_bestWorn v_bestMany v_soughtBy v_sought v_soughtAt v_foundMany v_foundOrder v_isKept v_imageRows v_imageColumns v_imageFolded v_imageWronged v_bodies v_ran v_ownKind v_ownNumber v_limit v_changeWas v_changeIs v_shapeRows v_shapeColumns v_row v_column v_below v_face v_worn v_lastBend v_tape v_text v_names v_bends v_high v_to v_pileSize v_planLine v_planWay v_way1 v_bestWay v_order1 v_placeIn v_bodyKind v_trace v_shelf v_many v_items v_carried) (wd_X9 cI cL cS cH a v_keptMany v_done v_rowsOf v_columnsOf v_folded v_wronged v_tapeMany v_textMany v_base v_at v_ends v_fault v_opened v_bentMany v_bentWrong v_moreWorn v_planned v_allWrong v_allWorn v_z v_wishedField v_isFound v_bestWrong v_bestWorn v_bestMany v_soughtBy v_sought v_soughtAt v_foundMany v_foundOrder v_isKept v_imageRows v_imageColumns v_imageFolded v_imageWronged v_bodies w_ran v_ownKind v_ownNumber v_limit v_changeWas v_changeIs v_shapeRows v_shapeColumns v_row v_column v_below v_face v_worn v_lastBend v_tape v_text v_names v_bends v_high v_to v_pileSize v_planLine v_planWay v_way1 v_bestWay v_order1 v_placeIn v_bodyKind w_trace v_shelf v_many v_items v_carried) (some (.int r))) (hE : 5 ≤ dgo) (hd : dgo + 1 ≤ d) (C0 : mm_Cx p s m args meth c RX9 cX9_wearsAs 4 (some .int) D (mm_T cI cL cS cH) A) (hA : ∀ q, s.heap.size ≤ q → A q) {v_keptMany : Int32} {v_done : Int32} {v_rowsOf : Int32} {v_columnsOf : Int32} {v_folded : Int32} {v_wronged : Int32} {v_tapeMany : Int32} {v_textMany : Int32} {v_base : Int32} {v_at : Int32} {v_ends : Int32} {v_fault : Int32} {v_opened : Int32} {v_bentMany : Int32} {v_bentWrong : Int32} {v_moreWorn : Int32} {v_planned : Int32} {v_allWrong : Int32} {v_allWorn : Int32} {v_z : Int32} {v_wishedField : Int32} {v_isFound : Bool} {v_bestWrong : Int32} {v_bestWorn : Int32} {v_bestMany : Int32} {v_soughtBy : Int32} {v_sought : Int32} {v_soughtAt : Int32} {v_foundMany : Int32} {v_foundOrder : Int32} {v_isKept : Bool} {v_imageRows : Int32} {v_imageColumns : Int32} {v_imageFolded : Int32} {v_imageWronged : Int32} {v_bodies : Int32} {v_limit : List Int32} {v_changeWas : List Int32} {v_changeIs : List Int32} {v_shapeRows : List Int32} {v_shapeColumns : List Int32} {v_row : List Int32} {v_column : List Int32} {v_below : List Int32} {v_face : List Int32} {v_worn : List Int32} {v_lastBend : List Int32} {v_tape : List Int32} {v_text : List Int32} {v_names : List Int32} {v_bends : List Int32} {v_high : List Int32} {v_to : List Int32} {v_pileSize : List Int32} {v_planLine : List Int32} {v_planWay : List Int32} {v_way1 : List Int32} {v_bestWay : List Int32} {v_order1 : List Int32} {v_placeIn : List Int32} {v_bodyKind : List Int32} {v_shelf : List Int32} {v_many : List Int32} {v_items : List Int64} {v_carried : List Int64} {r : Int32} {w_ran : Int32} {w_trace : List Int32} (N : Nat)  : ∀ (x2 : Int32) (v_ran : Int32) (v_ownKind : Int32) (v_ownNumber : Int32) (v_trace : List Int32) (H : Heap) (locs : List Loc) (ls : Array Slot), fX9_wearsAs_10 N go x2 v_ran v_ownKind v_ownNumber v_trace = some (r, w_ran, w_trace) → va_P D mm_cl (wd_X9 cI cL cS cH a v_keptMany v_done v_rowsOf v_columnsOf v_folded v_wronged v_tapeMany v_textMany v_base v_at v_ends v_fault v_opened v_bentMany v_bentWrong v_moreWorn v_planned v_allWrong v_allWorn v_z v_wishedField v_isFound v_bestWrong v_bestWorn v_bestMany v_soughtBy v_sought v_soughtAt v_foundMany v_foundOrder v_isKept v_imageRows v_imageColumns v_imageFolded v_imageWronged v_bodies v_ran v_ownKind v_ownNumber v_limit v_changeWas v_changeIs v_shapeRows v_shapeColumns v_row v_column v_below v_face v_worn v_lastBend v_tape v_text v_names v_bends v_high v_to v_pileSize v_planLine v_planWay v_way1 v_bestWay v_order1 v_placeIn v_bodyKind v_trace v_shelf v_many v_items v_carried) H → va_D A (wd_X9 cI cL cS cH a v_keptMany v_done v_rowsOf v_columnsOf v_folded v_wronged v_tapeMany v_textMany v_base v_at v_ends v_fault v_opened v_bentMany v_bentWrong v_moreWorn v_planned v_allWrong v_allWorn v_z v_wishedField v_isFound v_bestWrong v_bestWorn v_bestMany v_soughtBy v_sought v_soughtAt v_foundMany v_foundOrder v_isKept v_imageRows v_imageColumns v_imageFolded v_imageWronged v_bodies v_ran v_ownKind v_ownNumber v_limit v_changeWas v_changeIs v_shapeRows v_shapeColumns v_row v_column v_below v_face v_worn v_lastBend v_tape v_text v_names v_bends v_high v_to v_pileSize v_planLine v_planWay v_way1 v_bestWay v_order1 v_placeIn v_bodyKind v_trace v_shelf v_many v_items v_carried) → va_S A s.heap H locs → lv_has ls 4 [(0, .ref (a 0)), (2, .int x2)] → W p l e (mm_rr d) s m args below meth c H locs 0 0 (mm_Z below D A (wd_X9 cI cL cS cH a v_keptMany v_done v_rowsOf v_columnsOf v_folded v_wronged v_tapeMany v_textMany v_base v_at v_ends v_fault v_opened v_bentMany v_bentWrong v_moreWorn v_planned v_allWrong v_allWorn v_z v_wishedField v_isFound v_bestWrong v_bestWorn v_bestMany v_soughtBy v_sought v_soughtAt v_foundMany v_foundOrder v_isKept v_imageRows v_imageColumns v_imageFolded v_imageWronged v_bodies w_ran v_ownKind v_ownNumber v_limit v_changeWas v_changeIs v_shapeRows v_shapeColumns v_row v_column v_below v_face v_worn v_lastBend v_tape v_text v_names v_bends v_high v_to v_pileSize v_planLine v_planWay v_way1 v_bestWay v_order1 v_placeIn v_bodyKind w_trace v_shelf v_many v_items v_carried) (some (.int r)) args s) (F0 m 10 ls []) := by
  obtain ⟨hx, hb, hml, hown, hts, hr, hlocks, hK, hSt⟩ := id C0
  intro x2 v_ran v_ownKind v_ownNumber v_trace H locs ls hf hP hD hS hl
  unfold fX9_wearsAs_10 at hf
  refine lv_aload_n hx hb dX9_wearsAs_10 rfl (lv_at hl 0 rfl) ?_
  refine lv_bipush (v := 40) hx hb dX9_wearsAs_11 (by decide) ?_
  obtain ⟨w_19, w_20, hc_21, hf⟩ := mm_bd2s hf
  refine mm_callVF (q0 := 0) (ci := 9) (rest := []) C0 lk_X9_401 (ctX9_begins (a := a) (d := d - 1) (by omega) hc_21) (by omega) rfl hl.1 rfl (mm_cat rfl) dX9_wearsAs_13 hP hD hA hS rfl rfl (fun H locs hP hD hS => ?_)
  refine W.eq (g2 := F0 m 16 ls []) rfl ?_
  refine lv_aload_n hx hb dX9_wearsAs_16 rfl (lv_at hl 0 rfl) ?_
  refine lv_iconst (v := 2) hx hb dX9_wearsAs_17 (by decide) ?_
  refine lv_iload_n hx hb dX9_wearsAs_18 rfl (lv_at hl 1 rfl) ?_
  obtain ⟨r_22, w_23, w_24, hc_25, hf⟩ := mm_bd3s hf
  refine mm_callVF (q0 := 0) (ci := 9) (rest := []) C0 lk_X9_416 (hgo a _ _ _ _ _ _ _ _ _ _ _ _ _ _ _ _ _ _ _ _ _ _ _ _ _ _ _ _ _ _ _ _ _ _ _ _ _ _ _ _ _ _ _ _ _ _ _ _ _ _ _ _ _ _ _ _ _ _ _ _ _ _ _ _ _ _ _ _ _ _ _ _ _ _ hc_25) (by omega) rfl hl.1 rfl (mm_cat rfl) dX9_wearsAs_19 hP hD hA hS rfl rfl (fun H locs hP hD hS => ?_)
  refine W.eq (g2 := F0 m 22 ls [.int r_22]) rfl ?_
  refine lv_iconst (v := 3) hx hb dX9_wearsAs_22 (by decide) ?_
  refine lv_imul hx hb dX9_wearsAs_23 ?_
  apply mm_sub3 hf
  exact mm_iret C0 hP hD hS dX9_wearsAs_24

def fX9_wearsAs_36 (N : Nat) (go : Int32 → Int32 → Int32 → Int32 → Int32 → List Int32 → Option (Int32 × Int32 × List Int32))  (x2 : Int32) (v_ran : Int32) (v_ownKind : Int32) (v_ownNumber : Int32) (v_trace : List Int32) : Option (Int32 × Int32 × List Int32) :=
    mm_bd2 (fX9_begins N (50 : Int32) v_ran v_trace) (fun (w_8 : Int32) (w_9 : List Int32) =>
    mm_bd3 (go (0 : Int32) x2 w_8 v_ownKind v_ownNumber w_9) (fun (r_11 : Int32) (w_12 : Int32) (w_13 : List Int32) =>
    mm_bd3 (fX9_foldsAs N 4 v_ownKind (2 : Int32) w_12 v_ownNumber w_13) (fun (r_15 : Int32) (w_16 : Int32) (w_17 : List Int32) =>
    some ((r_11 - r_15), w_16, w_17))))

set_option maxHeartbeats 4000000 in
set_option maxRecDepth 100000 in
theorem tX9_wearsAs_36 {p : Program} {l : Launch} {e : Env} {s : State} {m : MethodId} {args : Array Value} {below : List Frame} {meth : Method} {c : Code} {D : va_G} {cI cL cS cH : ClassId} {A : Nat → Prop} {d : Nat} {a : Nat → Nat} {go : Int32 → Int32 → Int32 → Int32 → Int32 → List Int32 → Option (Int32 × Int32 × List Int32)} {dgo : Nat} (hgo : ∀ (a : Nat → Nat) (x1 : Int32) (x2 : Int32) (v_keptMany : Int32) (v_done : Int32) (v_rowsOf : Int32) (v_columnsOf : Int32) (v_folded : Int32) (v_wronged : Int32) (v_tapeMany : Int32) (v_textMany : Int32) (v_base : Int32) (v_at : Int32) (v_ends : Int32) (v_fault : Int32) (v_opened : Int32) (v_bentMany : Int32) (v_bentWrong : Int32) (v_moreWorn : Int32) (v_planned : Int32) (v_allWrong : Int32) (v_allWorn : Int32) (v_z : Int32) (v_wishedField : Int32) (v_isFound : Bool) (v_bestWrong : Int32) (v_bestWorn : Int32) (v_bestMany : Int32) (v_soughtBy : Int32) (v_sought : Int32) (v_soughtAt : Int32) (v_foundMany : Int32) (v_foundOrder : Int32) (v_isKept : Bool) (v_imageRows : Int32) (v_imageColumns : Int32) (v_imageFolded : Int32) (v_imageWronged : Int32) (v_bodies : Int32) (v_ran : Int32) (v_ownKind : Int32) (v_ownNumber : Int32) (v_limit : List Int32) (v_changeWas : List Int32) (v_changeIs : List Int32) (v_shapeRows : List Int32) (v_shapeColumns : List Int32) (v_row : List Int32) (v_column : List Int32) (v_below : List Int32) (v_face : List Int32) (v_worn : List Int32) (v_lastBend : List Int32) (v_tape : List Int32) (v_text : List Int32) (v_names : List Int32) (v_bends : List Int32) (v_high : List Int32) (v_to : List Int32) (v_pileSize : List Int32) (v_planLine : List Int32) (v_planWay : List Int32) (v_way1 : List Int32) (v_bestWay : List Int32) (v_order1 : List Int32) (v_placeIn : List Int32) (v_bodyKind : List Int32) (v_trace : List Int32) (v_shelf : List Int32) (v_many : List Int32) (v_items : List Int64) (v_carried : List Int64) (r : Int32) (w_ran : Int32) (w_trace : List Int32), go x1 x2 v_ran v_ownKind v_ownNumber v_trace = some (r, w_ran, w_trace) → mm_Ct l yX9_wearsAs cX9_wearsAs 4 (some .int) dgo D (mm_T cI cL cS cH) [.ref (a 0), .int x1, .int x2] (wd_X9 cI cL cS cH a v_keptMany v_done v_rowsOf v_columnsOf v_folded v_wronged v_tapeMany v_textMany v_base v_at v_ends v_fault v_opened v_bentMany v_bentWrong v_moreWorn v_planned v_allWrong v_allWorn v_z v_wishedField v_isFound v_bestWrong v_bestWorn v_bestMany v_soughtBy v_sought v_soughtAt v_foundMany v_foundOrder v_isKept v_imageRows v_imageColumns v_imageFolded v_imageWronged v_bodies v_ran v_ownKind v_ownNumber v_limit v_changeWas v_changeIs v_shapeRows v_shapeColumns v_row v_column v_below v_face v_worn v_lastBend v_tape v_text v_names v_bends v_high v_to v_pileSize v_planLine v_planWay v_way1 v_bestWay v_order1 v_placeIn v_bodyKind v_trace v_shelf v_many v_items v_carried) (wd_X9 cI cL cS cH a v_keptMany v_done v_rowsOf v_columnsOf v_folded v_wronged v_tapeMany v_textMany v_base v_at v_ends v_fault v_opened v_bentMany v_bentWrong v_moreWorn v_planned v_allWrong v_allWorn v_z v_wishedField v_isFound v_bestWrong v_bestWorn v_bestMany v_soughtBy v_sought v_soughtAt v_foundMany v_foundOrder v_isKept v_imageRows v_imageColumns v_imageFolded v_imageWronged v_bodies w_ran v_ownKind v_ownNumber v_limit v_changeWas v_changeIs v_shapeRows v_shapeColumns v_row v_column v_below v_face v_worn v_lastBend v_tape v_text v_names v_bends v_high v_to v_pileSize v_planLine v_planWay v_way1 v_bestWay v_order1 v_placeIn v_bodyKind w_trace v_shelf v_many v_items v_carried) (some (.int r))) (hE : 5 ≤ dgo) (hd : dgo + 1 ≤ d) (C0 : mm_Cx p s m args meth c RX9 cX9_wearsAs 4 (some .int) D (mm_T cI cL cS cH) A) (hA : ∀ q, s.heap.size ≤ q → A q) {v_keptMany : Int32} {v_done : Int32} {v_rowsOf : Int32} {v_columnsOf : Int32} {v_folded : Int32} {v_wronged : Int32} {v_tapeMany : Int32} {v_textMany : Int32} {v_base : Int32} {v_at : Int32} {v_ends : Int32} {v_fault : Int32} {v_opened : Int32} {v_bentMany : Int32} {v_bentWrong : Int32} {v_moreWorn : Int32} {v_planned : Int32} {v_allWrong : Int32} {v_allWorn : Int32} {v_z : Int32} {v_wishedField : Int32} {v_isFound : Bool} {v_bestWrong : Int32} {v_bestWorn : Int32} {v_bestMany : Int32} {v_soughtBy : Int32} {v_sought : Int32} {v_soughtAt : Int32} {v_foundMany : Int32} {v_foundOrder : Int32} {v_isKept : Bool} {v_imageRows : Int32} {v_imageColumns : Int32} {v_imageFolded : Int32} {v_imageWronged : Int32} {v_bodies : Int32} {v_limit : List Int32} {v_changeWas : List Int32} {v_changeIs : List Int32} {v_shapeRows : List Int32} {v_shapeColumns : List Int32} {v_row : List Int32} {v_column : List Int32} {v_below : List Int32} {v_face : List Int32} {v_worn : List Int32} {v_lastBend : List Int32} {v_tape : List Int32} {v_text : List Int32} {v_names : List Int32} {v_bends : List Int32} {v_high : List Int32} {v_to : List Int32} {v_pileSize : List Int32} {v_planLine : List Int32} {v_planWay : List Int32} {v_way1 : List Int32} {v_bestWay : List Int32} {v_order1 : List Int32} {v_placeIn : List Int32} {v_bodyKind : List Int32} {v_shelf : List Int32} {v_many : List Int32} {v_items : List Int64} {v_carried : List Int64} {r : Int32} {w_ran : Int32} {w_trace : List Int32} (N : Nat)  : ∀ (x2 : Int32) (v_ran : Int32) (v_ownKind : Int32) (v_ownNumber : Int32) (v_trace : List Int32) (H : Heap) (locs : List Loc) (ls : Array Slot), fX9_wearsAs_36 N go x2 v_ran v_ownKind v_ownNumber v_trace = some (r, w_ran, w_trace) → va_P D mm_cl (wd_X9 cI cL cS cH a v_keptMany v_done v_rowsOf v_columnsOf v_folded v_wronged v_tapeMany v_textMany v_base v_at v_ends v_fault v_opened v_bentMany v_bentWrong v_moreWorn v_planned v_allWrong v_allWorn v_z v_wishedField v_isFound v_bestWrong v_bestWorn v_bestMany v_soughtBy v_sought v_soughtAt v_foundMany v_foundOrder v_isKept v_imageRows v_imageColumns v_imageFolded v_imageWronged v_bodies v_ran v_ownKind v_ownNumber v_limit v_changeWas v_changeIs v_shapeRows v_shapeColumns v_row v_column v_below v_face v_worn v_lastBend v_tape v_text v_names v_bends v_high v_to v_pileSize v_planLine v_planWay v_way1 v_bestWay v_order1 v_placeIn v_bodyKind v_trace v_shelf v_many v_items v_carried) H → va_D A (wd_X9 cI cL cS cH a v_keptMany v_done v_rowsOf v_columnsOf v_folded v_wronged v_tapeMany v_textMany v_base v_at v_ends v_fault v_opened v_bentMany v_bentWrong v_moreWorn v_planned v_allWrong v_allWorn v_z v_wishedField v_isFound v_bestWrong v_bestWorn v_bestMany v_soughtBy v_sought v_soughtAt v_foundMany v_foundOrder v_isKept v_imageRows v_imageColumns v_imageFolded v_imageWronged v_bodies v_ran v_ownKind v_ownNumber v_limit v_changeWas v_changeIs v_shapeRows v_shapeColumns v_row v_column v_below v_face v_worn v_lastBend v_tape v_text v_names v_bends v_high v_to v_pileSize v_planLine v_planWay v_way1 v_bestWay v_order1 v_placeIn v_bodyKind v_trace v_shelf v_many v_items v_carried) → va_S A s.heap H locs → lv_has ls 4 [(0, .ref (a 0)), (2, .int x2)] → W p l e (mm_rr d) s m args below meth c H locs 0 0 (mm_Z below D A (wd_X9 cI cL cS cH a v_keptMany v_done v_rowsOf v_columnsOf v_folded v_wronged v_tapeMany v_textMany v_base v_at v_ends v_fault v_opened v_bentMany v_bentWrong v_moreWorn v_planned v_allWrong v_allWorn v_z v_wishedField v_isFound v_bestWrong v_bestWorn v_bestMany v_soughtBy v_sought v_soughtAt v_foundMany v_foundOrder v_isKept v_imageRows v_imageColumns v_imageFolded v_imageWronged v_bodies w_ran v_ownKind v_ownNumber v_limit v_changeWas v_changeIs v_shapeRows v_shapeColumns v_row v_column v_below v_face v_worn v_lastBend v_tape v_text v_names v_bends v_high v_to v_pileSize v_planLine v_planWay v_way1 v_bestWay v_order1 v_placeIn v_bodyKind w_trace v_shelf v_many v_items v_carried) (some (.int r)) args s) (F0 m 36 ls []) := by
  obtain ⟨hx, hb, hml, hown, hts, hr, hlocks, hK, hSt⟩ := id C0
  intro x2 v_ran v_ownKind v_ownNumber v_trace H locs ls hf hP hD hS hl
  unfold fX9_wearsAs_36 at hf
  refine lv_aload_n hx hb dX9_wearsAs_36 rfl (lv_at hl 0 rfl) ?_
  refine lv_bipush (v := 50) hx hb dX9_wearsAs_37 (by decide) ?_
  obtain ⟨w_8, w_9, hc_10, hf⟩ := mm_bd2s hf
  refine mm_callVF (q0 := 0) (ci := 9) (rest := []) C0 lk_X9_401 (ctX9_begins (a := a) (d := d - 1) (by omega) hc_10) (by omega) rfl hl.1 rfl (mm_cat rfl) dX9_wearsAs_39 hP hD hA hS rfl rfl (fun H locs hP hD hS => ?_)
  refine W.eq (g2 := F0 m 42 ls []) rfl ?_
  refine lv_aload_n hx hb dX9_wearsAs_42 rfl (lv_at hl 0 rfl) ?_
  refine lv_iconst (v := 0) hx hb dX9_wearsAs_43 (by decide) ?_
  refine lv_iload_n hx hb dX9_wearsAs_44 rfl (lv_at hl 1 rfl) ?_
  obtain ⟨r_11, w_12, w_13, hc_14, hf⟩ := mm_bd3s hf
  refine mm_callVF (q0 := 0) (ci := 9) (rest := []) C0 lk_X9_416 (hgo a _ _ _ _ _ _ _ _ _ _ _ _ _ _ _ _ _ _ _ _ _ _ _ _ _ _ _ _ _ _ _ _ _ _ _ _ _ _ _ _ _ _ _ _ _ _ _ _ _ _ _ _ _ _ _ _ _ _ _ _ _ _ _ _ _ _ _ _ _ _ _ _ _ _ hc_14) (by omega) rfl hl.1 rfl (mm_cat rfl) dX9_wearsAs_45 hP hD hA hS rfl rfl (fun H locs hP hD hS => ?_)
  refine W.eq (g2 := F0 m 48 ls [.int r_11]) rfl ?_
  refine lv_istore_n (lv' := [(3, .int r_11), (0, .ref (a 0)), (2, .int x2)]) hx hb dX9_wearsAs_48 rfl hl (by decide) rfl (fun ls hl => ?_)
  refine lv_iload_n hx hb dX9_wearsAs_49 rfl (lv_at hl 0 rfl) ?_
  refine lv_aload_n hx hb dX9_wearsAs_50 rfl (lv_at hl 1 rfl) ?_
  refine lv_aload_n hx hb dX9_wearsAs_51 rfl (lv_at hl 1 rfl) ?_
  refine mm_get C0 hP iw_X9 0 rfl rfl 63 (by decide) fl_X9_413 rfl dX9_wearsAs_52 ?_
  refine lv_iconst (v := 2) hx hb dX9_wearsAs_55 (by decide) ?_
  obtain ⟨r_15, w_16, w_17, hc_18, hf⟩ := mm_bd3s hf
  refine mm_callVF (q0 := 0) (ci := 9) (rest := [.int r_11]) C0 lk_X9_404 (ctX9_foldsAs (N := N) 4 (d - 1) (by omega) a _ _ _ _ _ _ _ _ _ _ _ _ _ _ _ _ _ _ _ _ _ _ _ _ _ _ _ _ _ _ _ _ _ _ _ _ _ _ _ _ _ _ _ _ _ _ _ _ _ _ _ _ _ _ _ _ _ _ _ _ _ _ _ _ _ _ _ _ _ _ _ _ _ _ hc_18) (by omega) rfl hl.1 rfl (mm_cat rfl) dX9_wearsAs_56 hP hD hA hS rfl rfl (fun H locs hP hD hS => ?_)
  refine W.eq (g2 := F0 m 59 ls [.int r_15, .int r_11]) rfl ?_
  refine lv_isub hx hb dX9_wearsAs_59 ?_
  apply mm_sub3 hf
  exact mm_iret C0 hP hD hS dX9_wearsAs_60

def fX9_wearsAso (N : Nat) (go : Int32 → Int32 → Int32 → Int32 → Int32 → List Int32 → Option (Int32 × Int32 × List Int32)) (x1 : Int32) (x2 : Int32) (v_ran : Int32) (v_ownKind : Int32) (v_ownNumber : Int32) (v_trace : List Int32) : Option (Int32 × Int32 × List Int32) :=
    if x1 = (3 : Int32) then
    (fX9_wearsAs_10 N go x2 v_ran v_ownKind v_ownNumber v_trace)
    else (if x1 = (5 : Int32) then
    (fX9_wearsAs_10 N go x2 v_ran v_ownKind v_ownNumber v_trace)
    else (if x1 = (4 : Int32) then
    (fX9_wearsAs_36 N go x2 v_ran v_ownKind v_ownNumber v_trace)
    else (if x1 = (7 : Int32) then
    (fX9_wearsAs_36 N go x2 v_ran v_ownKind v_ownNumber v_trace)
    else (mm_bd2 (fX9_begins N (11 : Int32) v_ran v_trace) (fun (w_5 : Int32) (w_6 : List Int32) =>
    some ((x2 ^^^ v_ownNumber), w_5, w_6))))))

set_option maxHeartbeats 4000000 in
set_option maxRecDepth 100000 in
theorem ctX9_wearsAso {l : Launch} {D : va_G} {cI cL cS cH : ClassId} {a : Nat → Nat} {x1 : Int32} {x2 : Int32} {v_keptMany : Int32} {v_done : Int32} {v_rowsOf : Int32} {v_columnsOf : Int32} {v_folded : Int32} {v_wronged : Int32} {v_tapeMany : Int32} {v_textMany : Int32} {v_base : Int32} {v_at : Int32} {v_ends : Int32} {v_fault : Int32} {v_opened : Int32} {v_bentMany : Int32} {v_bentWrong : Int32} {v_moreWorn : Int32} {v_planned : Int32} {v_allWrong : Int32} {v_allWorn : Int32} {v_z : Int32} {v_wishedField : Int32} {v_isFound : Bool} {v_bestWrong : Int32} {v_bestWorn : Int32} {v_bestMany : Int32} {v_soughtBy : Int32} {v_sought : Int32} {v_soughtAt : Int32} {v_foundMany : Int32} {v_foundOrder : Int32} {v_isKept : Bool} {v_imageRows : Int32} {v_imageColumns : Int32} {v_imageFolded : Int32} {v_imageWronged : Int32} {v_bodies : Int32} {v_ran : Int32} {v_ownKind : Int32} {v_ownNumber : Int32} {v_limit : List Int32} {v_changeWas : List Int32} {v_changeIs : List Int32} {v_shapeRows : List Int32} {v_shapeColumns : List Int32} {v_row : List Int32} {v_column : List Int32} {v_below : List Int32} {v_face : List Int32} {v_worn : List Int32} {v_lastBend : List Int32} {v_tape : List Int32} {v_text : List Int32} {v_names : List Int32} {v_bends : List Int32} {v_high : List Int32} {v_to : List Int32} {v_pileSize : List Int32} {v_planLine : List Int32} {v_planWay : List Int32} {v_way1 : List Int32} {v_bestWay : List Int32} {v_order1 : List Int32} {v_placeIn : List Int32} {v_bodyKind : List Int32} {v_trace : List Int32} {v_shelf : List Int32} {v_many : List Int32} {v_items : List Int64} {v_carried : List Int64} {r : Int32} {w_ran : Int32} {w_trace : List Int32} {N d : Nat} {go : Int32 → Int32 → Int32 → Int32 → Int32 → List Int32 → Option (Int32 × Int32 × List Int32)} {dgo : Nat} (hgo : ∀ (a : Nat → Nat) (x1 : Int32) (x2 : Int32) (v_keptMany : Int32) (v_done : Int32) (v_rowsOf : Int32) (v_columnsOf : Int32) (v_folded : Int32) (v_wronged : Int32) (v_tapeMany : Int32) (v_textMany : Int32) (v_base : Int32) (v_at : Int32) (v_ends : Int32) (v_fault : Int32) (v_opened : Int32) (v_bentMany : Int32) (v_bentWrong : Int32) (v_moreWorn : Int32) (v_planned : Int32) (v_allWrong : Int32) (v_allWorn : Int32) (v_z : Int32) (v_wishedField : Int32) (v_isFound : Bool) (v_bestWrong : Int32) (v_bestWorn : Int32) (v_bestMany : Int32) (v_soughtBy : Int32) (v_sought : Int32) (v_soughtAt : Int32) (v_foundMany : Int32) (v_foundOrder : Int32) (v_isKept : Bool) (v_imageRows : Int32) (v_imageColumns : Int32) (v_imageFolded : Int32) (v_imageWronged : Int32) (v_bodies : Int32) (v_ran : Int32) (v_ownKind : Int32) (v_ownNumber : Int32) (v_limit : List Int32) (v_changeWas : List Int32) (v_changeIs : List Int32) (v_shapeRows : List Int32) (v_shapeColumns : List Int32) (v_row : List Int32) (v_column : List Int32) (v_below : List Int32) (v_face : List Int32) (v_worn : List Int32) (v_lastBend : List Int32) (v_tape : List Int32) (v_text : List Int32) (v_names : List Int32) (v_bends : List Int32) (v_high : List Int32) (v_to : List Int32) (v_pileSize : List Int32) (v_planLine : List Int32) (v_planWay : List Int32) (v_way1 : List Int32) (v_bestWay : List Int32) (v_order1 : List Int32) (v_placeIn : List Int32) (v_bodyKind : List Int32) (v_trace : List Int32) (v_shelf : List Int32) (v_many : List Int32) (v_items : List Int64) (v_carried : List Int64) (r : Int32) (w_ran : Int32) (w_trace : List Int32), go x1 x2 v_ran v_ownKind v_ownNumber v_trace = some (r, w_ran, w_trace) → mm_Ct l yX9_wearsAs cX9_wearsAs 4 (some .int) dgo D (mm_T cI cL cS cH) [.ref (a 0), .int x1, .int x2] (wd_X9 cI cL cS cH a v_keptMany v_done v_rowsOf v_columnsOf v_folded v_wronged v_tapeMany v_textMany v_base v_at v_ends v_fault v_opened v_bentMany v_bentWrong v_moreWorn v_planned v_allWrong v_allWorn v_z v_wishedField v_isFound v_bestWrong v_bestWorn v_bestMany v_soughtBy v_sought v_soughtAt v_foundMany v_foundOrder v_isKept v_imageRows v_imageColumns v_imageFolded v_imageWronged v_bodies v_ran v_ownKind v_ownNumber v_limit v_changeWas v_changeIs v_shapeRows v_shapeColumns v_row v_column v_below v_face v_worn v_lastBend v_tape v_text v_names v_bends v_high v_to v_pileSize v_planLine v_planWay v_way1 v_bestWay v_order1 v_placeIn v_bodyKind v_trace v_shelf v_many v_items v_carried) (wd_X9 cI cL cS cH a v_keptMany v_done v_rowsOf v_columnsOf v_folded v_wronged v_tapeMany v_textMany v_base v_at v_ends v_fault v_opened v_bentMany v_bentWrong v_moreWorn v_planned v_allWrong v_allWorn v_z v_wishedField v_isFound v_bestWrong v_bestWorn v_bestMany v_soughtBy v_sought v_soughtAt v_foundMany v_foundOrder v_isKept v_imageRows v_imageColumns v_imageFolded v_imageWronged v_bodies w_ran v_ownKind v_ownNumber v_limit v_changeWas v_changeIs v_shapeRows v_shapeColumns v_row v_column v_below v_face v_worn v_lastBend v_tape v_text v_names v_bends v_high v_to v_pileSize v_planLine v_planWay v_way1 v_bestWay v_order1 v_placeIn v_bodyKind w_trace v_shelf v_many v_items v_carried) (some (.int r))) (hE : 5 ≤ dgo) (hd : dgo + 1 ≤ d) (hf : fX9_wearsAso N go x1 x2 v_ran v_ownKind v_ownNumber v_trace = some (r, w_ran, w_trace)) : mm_Ct l yX9_wearsAs cX9_wearsAs 4 (some .int) d D (mm_T cI cL cS cH) [.ref (a 0), .int x1, .int x2] (wd_X9 cI cL cS cH a v_keptMany v_done v_rowsOf v_columnsOf v_folded v_wronged v_tapeMany v_textMany v_base v_at v_ends v_fault v_opened v_bentMany v_bentWrong v_moreWorn v_planned v_allWrong v_allWorn v_z v_wishedField v_isFound v_bestWrong v_bestWorn v_bestMany v_soughtBy v_sought v_soughtAt v_foundMany v_foundOrder v_isKept v_imageRows v_imageColumns v_imageFolded v_imageWronged v_bodies v_ran v_ownKind v_ownNumber v_limit v_changeWas v_changeIs v_shapeRows v_shapeColumns v_row v_column v_below v_face v_worn v_lastBend v_tape v_text v_names v_bends v_high v_to v_pileSize v_planLine v_planWay v_way1 v_bestWay v_order1 v_placeIn v_bodyKind v_trace v_shelf v_many v_items v_carried) (wd_X9 cI cL cS cH a v_keptMany v_done v_rowsOf v_columnsOf v_folded v_wronged v_tapeMany v_textMany v_base v_at v_ends v_fault v_opened v_bentMany v_bentWrong v_moreWorn v_planned v_allWrong v_allWorn v_z v_wishedField v_isFound v_bestWrong v_bestWorn v_bestMany v_soughtBy v_sought v_soughtAt v_foundMany v_foundOrder v_isKept v_imageRows v_imageColumns v_imageFolded v_imageWronged v_bodies w_ran v_ownKind v_ownNumber v_limit v_changeWas v_changeIs v_shapeRows v_shapeColumns v_row v_column v_below v_face v_worn v_lastBend v_tape v_text v_names v_bends v_high v_to v_pileSize v_planLine v_planWay v_way1 v_bestWay v_order1 v_placeIn v_bodyKind w_trace v_shelf v_many v_items v_carried) (some (.int r)) := by
  refine mm_of (by decide) (Nat.le_of_ble_eq_true rfl) ?_
  intro p e s m args below meth c A H locs ls C0 hP hD hA hS hl
  have C0 : mm_Cx p s m args meth c RX9 cX9_wearsAs 4 (some .int) D (mm_T cI cL cS cH) A := C0
  obtain ⟨hx, hb, hml, hown, hts, hr, hlocks, hK, hSt⟩ := id C0
  have hl : lv_has ls 4 [(0, .ref (a 0)), (1, .int x1), (2, .int x2)] := hl
  unfold fX9_wearsAso at hf
  refine lv_iload_n hx hb dX9_wearsAs_0 rfl (lv_at hl 1 rfl) ?_
  refine lv_iconst (v := 3) hx hb dX9_wearsAs_1 (by decide) ?_
  refine lv_icmp_eq (tgt := 10) hx hb dX9_wearsAs_2 (by decide) (fun c_1 => ?_) (fun c_1 => ?_)
  · have hf := mm_ip hf c_1
    exact tX9_wearsAs_10 hgo hE hd C0 hA N  _ _ _ _ _ H locs ls hf hP hD hS (lv_sub hl [0, 2] rfl)
  · have hf := mm_in hf c_1
    refine lv_iload_n hx hb dX9_wearsAs_5 rfl (lv_at hl 1 rfl) ?_
    refine lv_iconst (v := 5) hx hb dX9_wearsAs_6 (by decide) ?_
    refine lv_icmp_ne (tgt := 25) hx hb dX9_wearsAs_7 (by decide) (fun c_2 => ?_) (fun c_2 => ?_)
    · have hf := mm_in hf c_2
      refine lv_iload_n hx hb dX9_wearsAs_25 rfl (lv_at hl 1 rfl) ?_
      refine lv_iconst (v := 4) hx hb dX9_wearsAs_26 (by decide) ?_
      refine lv_icmp_eq (tgt := 36) hx hb dX9_wearsAs_27 (by decide) (fun c_3 => ?_) (fun c_3 => ?_)
      · have hf := mm_ip hf c_3
        exact tX9_wearsAs_36 hgo hE hd C0 hA N  _ _ _ _ _ H locs ls hf hP hD hS (lv_sub hl [0, 2] rfl)
      · have hf := mm_in hf c_3
        refine lv_iload_n hx hb dX9_wearsAs_30 rfl (lv_at hl 1 rfl) ?_
        refine lv_bipush (v := 7) hx hb dX9_wearsAs_31 (by decide) ?_
        refine lv_icmp_ne (tgt := 61) hx hb dX9_wearsAs_33 (by decide) (fun c_4 => ?_) (fun c_4 => ?_)
        · have hf := mm_in hf c_4
          refine lv_aload_n hx hb dX9_wearsAs_61 rfl (lv_at hl 0 rfl) ?_
          refine lv_bipush (v := 11) hx hb dX9_wearsAs_62 (by decide) ?_
          obtain ⟨w_5, w_6, hc_7, hf⟩ := mm_bd2s hf
          refine mm_callVF (q0 := 0) (ci := 9) (rest := []) C0 lk_X9_401 (ctX9_begins (a := a) (d := d - 1) (by omega) hc_7) (by omega) rfl hl.1 rfl (mm_cat rfl) dX9_wearsAs_64 hP hD hA hS rfl rfl (fun H locs hP hD hS => ?_)
          refine W.eq (g2 := F0 m 67 ls []) rfl ?_
          refine lv_iload_n hx hb dX9_wearsAs_67 rfl (lv_at hl 2 rfl) ?_
          refine lv_aload_n hx hb dX9_wearsAs_68 rfl (lv_at hl 0 rfl) ?_
          refine mm_get C0 hP iw_X9 0 rfl rfl 64 (by decide) fl_X9_407 rfl dX9_wearsAs_69 ?_
          refine lv_ixor hx hb dX9_wearsAs_72 ?_
          apply mm_sub3 hf
          exact mm_iret C0 hP hD hS dX9_wearsAs_73
        · have hf := mm_ip hf c_4
          exact tX9_wearsAs_36 hgo hE hd C0 hA N  _ _ _ _ _ H locs ls hf hP hD hS (lv_sub hl [0, 2] rfl)
    · have hf := mm_ip hf c_2
      exact tX9_wearsAs_10 hgo hE hd C0 hA N  _ _ _ _ _ H locs ls hf hP hD hS (lv_sub hl [0, 2] rfl)

def fX9_wearsAs (N : Nat) : Nat → Int32 → Int32 → Int32 → Int32 → Int32 → List Int32 → Option (Int32 × Int32 × List Int32)
  | 0 => fun _ _ _ _ _ _ => none
  | M + 1 => fX9_wearsAso N (fX9_wearsAs N M)
set_option maxHeartbeats 4000000 in
set_option maxRecDepth 100000 in
theorem ctX9_wearsAs {l : Launch} {D : va_G} {cI cL cS cH : ClassId} {N : Nat} : ∀ (M d : Nat), 5 + 1 * M ≤ d → ∀ (a : Nat → Nat) (x1 : Int32) (x2 : Int32) (v_keptMany : Int32) (v_done : Int32) (v_rowsOf : Int32) (v_columnsOf : Int32) (v_folded : Int32) (v_wronged : Int32) (v_tapeMany : Int32) (v_textMany : Int32) (v_base : Int32) (v_at : Int32) (v_ends : Int32) (v_fault : Int32) (v_opened : Int32) (v_bentMany : Int32) (v_bentWrong : Int32) (v_moreWorn : Int32) (v_planned : Int32) (v_allWrong : Int32) (v_allWorn : Int32) (v_z : Int32) (v_wishedField : Int32) (v_isFound : Bool) (v_bestWrong : Int32) (v_bestWorn : Int32) (v_bestMany : Int32) (v_soughtBy : Int32) (v_sought : Int32) (v_soughtAt : Int32) (v_foundMany : Int32) (v_foundOrder : Int32) (v_isKept : Bool) (v_imageRows : Int32) (v_imageColumns : Int32) (v_imageFolded : Int32) (v_imageWronged : Int32) (v_bodies : Int32) (v_ran : Int32) (v_ownKind : Int32) (v_ownNumber : Int32) (v_limit : List Int32) (v_changeWas : List Int32) (v_changeIs : List Int32) (v_shapeRows : List Int32) (v_shapeColumns : List Int32) (v_row : List Int32) (v_column : List Int32) (v_below : List Int32) (v_face : List Int32) (v_worn : List Int32) (v_lastBend : List Int32) (v_tape : List Int32) (v_text : List Int32) (v_names : List Int32) (v_bends : List Int32) (v_high : List Int32) (v_to : List Int32) (v_pileSize : List Int32) (v_planLine : List Int32) (v_planWay : List Int32) (v_way1 : List Int32) (v_bestWay : List Int32) (v_order1 : List Int32) (v_placeIn : List Int32) (v_bodyKind : List Int32) (v_trace : List Int32) (v_shelf : List Int32) (v_many : List Int32) (v_items : List Int64) (v_carried : List Int64) (r : Int32) (w_ran : Int32) (w_trace : List Int32), fX9_wearsAs N M x1 x2 v_ran v_ownKind v_ownNumber v_trace = some (r, w_ran, w_trace) → mm_Ct l yX9_wearsAs cX9_wearsAs 4 (some .int) d D (mm_T cI cL cS cH) [.ref (a 0), .int x1, .int x2] (wd_X9 cI cL cS cH a v_keptMany v_done v_rowsOf v_columnsOf v_folded v_wronged v_tapeMany v_textMany v_base v_at v_ends v_fault v_opened v_bentMany v_bentWrong v_moreWorn v_planned v_allWrong v_allWorn v_z v_wishedField v_isFound v_bestWrong v_bestWorn v_bestMany v_soughtBy v_sought v_soughtAt v_foundMany v_foundOrder v_isKept v_imageRows v_imageColumns v_imageFolded v_imageWronged v_bodies v_ran v_ownKind v_ownNumber v_limit v_changeWas v_changeIs v_shapeRows v_shapeColumns v_row v_column v_below v_face v_worn v_lastBend v_tape v_text v_names v_bends v_high v_to v_pileSize v_planLine v_planWay v_way1 v_bestWay v_order1 v_placeIn v_bodyKind v_trace v_shelf v_many v_items v_carried) (wd_X9 cI cL cS cH a v_keptMany v_done v_rowsOf v_columnsOf v_folded v_wronged v_tapeMany v_textMany v_base v_at v_ends v_fault v_opened v_bentMany v_bentWrong v_moreWorn v_planned v_allWrong v_allWorn v_z v_wishedField v_isFound v_bestWrong v_bestWorn v_bestMany v_soughtBy v_sought v_soughtAt v_foundMany v_foundOrder v_isKept v_imageRows v_imageColumns v_imageFolded v_imageWronged v_bodies w_ran v_ownKind v_ownNumber v_limit v_changeWas v_changeIs v_shapeRows v_shapeColumns v_row v_column v_below v_face v_worn v_lastBend v_tape v_text v_names v_bends v_high v_to v_pileSize v_planLine v_planWay v_way1 v_bestWay v_order1 v_placeIn v_bodyKind w_trace v_shelf v_many v_items v_carried) (some (.int r)) := by
  intro M
  induction M with
  | zero =>
    intro d hd a x1 x2 v_keptMany v_done v_rowsOf v_columnsOf v_folded v_wronged v_tapeMany v_textMany v_base v_at v_ends v_fault v_opened v_bentMany v_bentWrong v_moreWorn v_planned v_allWrong v_allWorn v_z v_wishedField v_isFound v_bestWrong v_bestWorn v_bestMany v_soughtBy v_sought v_soughtAt v_foundMany v_foundOrder v_isKept v_imageRows v_imageColumns v_imageFolded v_imageWronged v_bodies v_ran v_ownKind v_ownNumber v_limit v_changeWas v_changeIs v_shapeRows v_shapeColumns v_row v_column v_below v_face v_worn v_lastBend v_tape v_text v_names v_bends v_high v_to v_pileSize v_planLine v_planWay v_way1 v_bestWay v_order1 v_placeIn v_bodyKind v_trace v_shelf v_many v_items v_carried r w_ran w_trace hf
    cases (show none = some _ from hf)
  | succ M ih =>
    intro d hd a x1 x2 v_keptMany v_done v_rowsOf v_columnsOf v_folded v_wronged v_tapeMany v_textMany v_base v_at v_ends v_fault v_opened v_bentMany v_bentWrong v_moreWorn v_planned v_allWrong v_allWorn v_z v_wishedField v_isFound v_bestWrong v_bestWorn v_bestMany v_soughtBy v_sought v_soughtAt v_foundMany v_foundOrder v_isKept v_imageRows v_imageColumns v_imageFolded v_imageWronged v_bodies v_ran v_ownKind v_ownNumber v_limit v_changeWas v_changeIs v_shapeRows v_shapeColumns v_row v_column v_below v_face v_worn v_lastBend v_tape v_text v_names v_bends v_high v_to v_pileSize v_planLine v_planWay v_way1 v_bestWay v_order1 v_placeIn v_bodyKind v_trace v_shelf v_many v_items v_carried r w_ran w_trace hf
    exact ctX9_wearsAso (N := N) (ih (5 + 1 * M) (Nat.le_refl _)) (Nat.le_add_right _ _) (by omega) hf

theorem nb_dX9_laysAs_0 : bls_w cX9_laysAs [(0, [27]), (1, [6]), (2, [159, 0, 8]), (5, [27]), (6, [8]), (7, [160, 0, 18]), (10, [42]), (11, [16, 41]), (13, [182, 1, 145]), (16, [42]), (17, [5]), (18, [28])] := bls_of (by decide +kernel)
theorem dX9_laysAs_0 : decode cX9_laysAs 0 = .ok (.iload_n 1, 1) := op_27 nb_dX9_laysAs_0.1
theorem dX9_laysAs_1 : decode cX9_laysAs 1 = .ok (.iconst 3, 1) := op_6 nb_dX9_laysAs_0.2.1
set_option maxRecDepth 100000 in
theorem dX9_laysAs_2 : decode cX9_laysAs 2 = .ok (.if_icmp .eq 8, 3) := (op_159 nb_dX9_laysAs_0.2.2.1).trans rfl
theorem dX9_laysAs_5 : decode cX9_laysAs 5 = .ok (.iload_n 1, 1) := op_27 nb_dX9_laysAs_0.2.2.2.1
theorem dX9_laysAs_6 : decode cX9_laysAs 6 = .ok (.iconst 5, 1) := op_8 nb_dX9_laysAs_0.2.2.2.2.1
set_option maxRecDepth 100000 in
theorem dX9_laysAs_7 : decode cX9_laysAs 7 = .ok (.if_icmp .ne 18, 3) := (op_160 nb_dX9_laysAs_0.2.2.2.2.2.1).trans rfl
theorem dX9_laysAs_10 : decode cX9_laysAs 10 = .ok (.aload_n 0, 1) := op_42 nb_dX9_laysAs_0.2.2.2.2.2.2.1
set_option maxRecDepth 100000 in
theorem dX9_laysAs_11 : decode cX9_laysAs 11 = .ok (.bipush 41, 2) := (op_16 nb_dX9_laysAs_0.2.2.2.2.2.2.2.1).trans rfl
set_option maxRecDepth 100000 in
theorem dX9_laysAs_13 : decode cX9_laysAs 13 = .ok (.invokevirtual 401, 3) := (op_182 nb_dX9_laysAs_0.2.2.2.2.2.2.2.2.1).trans rfl
theorem dX9_laysAs_16 : decode cX9_laysAs 16 = .ok (.aload_n 0, 1) := op_42 nb_dX9_laysAs_0.2.2.2.2.2.2.2.2.2.1
theorem dX9_laysAs_17 : decode cX9_laysAs 17 = .ok (.iconst 2, 1) := op_5 nb_dX9_laysAs_0.2.2.2.2.2.2.2.2.2.2.1
theorem dX9_laysAs_18 : decode cX9_laysAs 18 = .ok (.iload_n 2, 1) := op_28 nb_dX9_laysAs_0.2.2.2.2.2.2.2.2.2.2.2.1
theorem nb_dX9_laysAs_19 : bls_w cX9_laysAs [(19, [4]), (20, [96]), (21, [182, 1, 154]), (24, [172]), (25, [27]), (26, [5]), (27, [160, 0, 17]), (30, [42]), (31, [16, 30]), (33, [182, 1, 145]), (36, [42]), (37, [3])] := bls_of (by decide +kernel)
theorem dX9_laysAs_19 : decode cX9_laysAs 19 = .ok (.iconst 1, 1) := op_4 nb_dX9_laysAs_19.1
theorem dX9_laysAs_20 : decode cX9_laysAs 20 = .ok (.iadd, 1) := op_96 nb_dX9_laysAs_19.2.1
set_option maxRecDepth 100000 in
theorem dX9_laysAs_21 : decode cX9_laysAs 21 = .ok (.invokevirtual 410, 3) := (op_182 nb_dX9_laysAs_19.2.2.1).trans rfl
theorem dX9_laysAs_24 : decode cX9_laysAs 24 = .ok (.ireturn, 1) := op_172 nb_dX9_laysAs_19.2.2.2.1
theorem dX9_laysAs_25 : decode cX9_laysAs 25 = .ok (.iload_n 1, 1) := op_27 nb_dX9_laysAs_19.2.2.2.2.1
theorem dX9_laysAs_26 : decode cX9_laysAs 26 = .ok (.iconst 2, 1) := op_5 nb_dX9_laysAs_19.2.2.2.2.2.1
set_option maxRecDepth 100000 in
theorem dX9_laysAs_27 : decode cX9_laysAs 27 = .ok (.if_icmp .ne 17, 3) := (op_160 nb_dX9_laysAs_19.2.2.2.2.2.2.1).trans rfl
theorem dX9_laysAs_30 : decode cX9_laysAs 30 = .ok (.aload_n 0, 1) := op_42 nb_dX9_laysAs_19.2.2.2.2.2.2.2.1
set_option maxRecDepth 100000 in
theorem dX9_laysAs_31 : decode cX9_laysAs 31 = .ok (.bipush 30, 2) := (op_16 nb_dX9_laysAs_19.2.2.2.2.2.2.2.2.1).trans rfl
set_option maxRecDepth 100000 in
theorem dX9_laysAs_33 : decode cX9_laysAs 33 = .ok (.invokevirtual 401, 3) := (op_182 nb_dX9_laysAs_19.2.2.2.2.2.2.2.2.2.1).trans rfl
theorem dX9_laysAs_36 : decode cX9_laysAs 36 = .ok (.aload_n 0, 1) := op_42 nb_dX9_laysAs_19.2.2.2.2.2.2.2.2.2.2.1
theorem dX9_laysAs_37 : decode cX9_laysAs 37 = .ok (.iconst 0, 1) := op_3 nb_dX9_laysAs_19.2.2.2.2.2.2.2.2.2.2.2.1
theorem nb_dX9_laysAs_38 : bls_w cX9_laysAs [(38, [28]), (39, [182, 1, 154]), (42, [116]), (43, [172]), (44, [27]), (45, [16, 7]), (47, [160, 0, 28]), (50, [42]), (51, [16, 80]), (53, [182, 1, 145]), (56, [42]), (57, [7])] := bls_of (by decide +kernel)
theorem dX9_laysAs_38 : decode cX9_laysAs 38 = .ok (.iload_n 2, 1) := op_28 nb_dX9_laysAs_38.1
set_option maxRecDepth 100000 in
theorem dX9_laysAs_39 : decode cX9_laysAs 39 = .ok (.invokevirtual 410, 3) := (op_182 nb_dX9_laysAs_38.2.1).trans rfl
theorem dX9_laysAs_42 : decode cX9_laysAs 42 = .ok (.ineg, 1) := op_116 nb_dX9_laysAs_38.2.2.1
theorem dX9_laysAs_43 : decode cX9_laysAs 43 = .ok (.ireturn, 1) := op_172 nb_dX9_laysAs_38.2.2.2.1
theorem dX9_laysAs_44 : decode cX9_laysAs 44 = .ok (.iload_n 1, 1) := op_27 nb_dX9_laysAs_38.2.2.2.2.1
set_option maxRecDepth 100000 in
theorem dX9_laysAs_45 : decode cX9_laysAs 45 = .ok (.bipush 7, 2) := (op_16 nb_dX9_laysAs_38.2.2.2.2.2.1).trans rfl
set_option maxRecDepth 100000 in
theorem dX9_laysAs_47 : decode cX9_laysAs 47 = .ok (.if_icmp .ne 28, 3) := (op_160 nb_dX9_laysAs_38.2.2.2.2.2.2.1).trans rfl
theorem dX9_laysAs_50 : decode cX9_laysAs 50 = .ok (.aload_n 0, 1) := op_42 nb_dX9_laysAs_38.2.2.2.2.2.2.2.1
set_option maxRecDepth 100000 in
theorem dX9_laysAs_51 : decode cX9_laysAs 51 = .ok (.bipush 80, 2) := (op_16 nb_dX9_laysAs_38.2.2.2.2.2.2.2.2.1).trans rfl
set_option maxRecDepth 100000 in
theorem dX9_laysAs_53 : decode cX9_laysAs 53 = .ok (.invokevirtual 401, 3) := (op_182 nb_dX9_laysAs_38.2.2.2.2.2.2.2.2.2.1).trans rfl
theorem dX9_laysAs_56 : decode cX9_laysAs 56 = .ok (.aload_n 0, 1) := op_42 nb_dX9_laysAs_38.2.2.2.2.2.2.2.2.2.2.1
theorem dX9_laysAs_57 : decode cX9_laysAs 57 = .ok (.iconst 4, 1) := op_7 nb_dX9_laysAs_38.2.2.2.2.2.2.2.2.2.2.2.1
theorem nb_dX9_laysAs_58 : bls_w cX9_laysAs [(58, [28]), (59, [182, 1, 154]), (62, [62]), (63, [29]), (64, [42]), (65, [42]), (66, [180, 1, 157]), (69, [5]), (70, [182, 1, 160]), (73, [96]), (74, [172]), (75, [42])] := bls_of (by decide +kernel)
theorem dX9_laysAs_58 : decode cX9_laysAs 58 = .ok (.iload_n 2, 1) := op_28 nb_dX9_laysAs_58.1
set_option maxRecDepth 100000 in
theorem dX9_laysAs_59 : decode cX9_laysAs 59 = .ok (.invokevirtual 410, 3) := (op_182 nb_dX9_laysAs_58.2.1).trans rfl
theorem dX9_laysAs_62 : decode cX9_laysAs 62 = .ok (.istore_n 3, 1) := op_62 nb_dX9_laysAs_58.2.2.1
theorem dX9_laysAs_63 : decode cX9_laysAs 63 = .ok (.iload_n 3, 1) := op_29 nb_dX9_laysAs_58.2.2.2.1
theorem dX9_laysAs_64 : decode cX9_laysAs 64 = .ok (.aload_n 0, 1) := op_42 nb_dX9_laysAs_58.2.2.2.2.1
theorem dX9_laysAs_65 : decode cX9_laysAs 65 = .ok (.aload_n 0, 1) := op_42 nb_dX9_laysAs_58.2.2.2.2.2.1
set_option maxRecDepth 100000 in
theorem dX9_laysAs_66 : decode cX9_laysAs 66 = .ok (.getfield 413, 3) := (op_180 nb_dX9_laysAs_58.2.2.2.2.2.2.1).trans rfl
theorem dX9_laysAs_69 : decode cX9_laysAs 69 = .ok (.iconst 2, 1) := op_5 nb_dX9_laysAs_58.2.2.2.2.2.2.2.1
set_option maxRecDepth 100000 in
theorem dX9_laysAs_70 : decode cX9_laysAs 70 = .ok (.invokevirtual 416, 3) := (op_182 nb_dX9_laysAs_58.2.2.2.2.2.2.2.2.1).trans rfl
theorem dX9_laysAs_73 : decode cX9_laysAs 73 = .ok (.iadd, 1) := op_96 nb_dX9_laysAs_58.2.2.2.2.2.2.2.2.2.1
theorem dX9_laysAs_74 : decode cX9_laysAs 74 = .ok (.ireturn, 1) := op_172 nb_dX9_laysAs_58.2.2.2.2.2.2.2.2.2.2.1
theorem dX9_laysAs_75 : decode cX9_laysAs 75 = .ok (.aload_n 0, 1) := op_42 nb_dX9_laysAs_58.2.2.2.2.2.2.2.2.2.2.2.1
theorem nb_dX9_laysAs_76 : bls_w cX9_laysAs [(76, [16, 10]), (78, [182, 1, 145]), (81, [42]), (82, [42]), (83, [180, 1, 157]), (86, [28]), (87, [182, 1, 148]), (90, [5]), (91, [104]), (92, [172])] := bls_of (by decide +kernel)
set_option maxRecDepth 100000 in
theorem dX9_laysAs_76 : decode cX9_laysAs 76 = .ok (.bipush 10, 2) := (op_16 nb_dX9_laysAs_76.1).trans rfl
set_option maxRecDepth 100000 in
theorem dX9_laysAs_78 : decode cX9_laysAs 78 = .ok (.invokevirtual 401, 3) := (op_182 nb_dX9_laysAs_76.2.1).trans rfl
theorem dX9_laysAs_81 : decode cX9_laysAs 81 = .ok (.aload_n 0, 1) := op_42 nb_dX9_laysAs_76.2.2.1
theorem dX9_laysAs_82 : decode cX9_laysAs 82 = .ok (.aload_n 0, 1) := op_42 nb_dX9_laysAs_76.2.2.2.1
set_option maxRecDepth 100000 in
theorem dX9_laysAs_83 : decode cX9_laysAs 83 = .ok (.getfield 413, 3) := (op_180 nb_dX9_laysAs_76.2.2.2.2.1).trans rfl
theorem dX9_laysAs_86 : decode cX9_laysAs 86 = .ok (.iload_n 2, 1) := op_28 nb_dX9_laysAs_76.2.2.2.2.2.1
set_option maxRecDepth 100000 in
theorem dX9_laysAs_87 : decode cX9_laysAs 87 = .ok (.invokevirtual 404, 3) := (op_182 nb_dX9_laysAs_76.2.2.2.2.2.2.1).trans rfl
theorem dX9_laysAs_90 : decode cX9_laysAs 90 = .ok (.iconst 2, 1) := op_5 nb_dX9_laysAs_76.2.2.2.2.2.2.2.1
theorem dX9_laysAs_91 : decode cX9_laysAs 91 = .ok (.imul, 1) := op_104 nb_dX9_laysAs_76.2.2.2.2.2.2.2.2.1
theorem dX9_laysAs_92 : decode cX9_laysAs 92 = .ok (.ireturn, 1) := op_172 nb_dX9_laysAs_76.2.2.2.2.2.2.2.2.2.1
def fX9_laysAs_10 (N : Nat) (go : Int32 → Int32 → Int32 → Int32 → Int32 → List Int32 → Option (Int32 × Int32 × List Int32))  (x2 : Int32) (v_ran : Int32) (v_ownKind : Int32) (v_ownNumber : Int32) (v_trace : List Int32) : Option (Int32 × Int32 × List Int32) :=
    mm_bd2 (fX9_begins N (41 : Int32) v_ran v_trace) (fun (w_30 : Int32) (w_31 : List Int32) =>
    mm_bd3 (go (2 : Int32) (x2 + (1 : Int32)) w_30 v_ownKind v_ownNumber w_31) (fun (r_33 : Int32) (w_34 : Int32) (w_35 : List Int32) =>
    some (r_33, w_34, w_35)))

set_option maxHeartbeats 4000000 in
set_option maxRecDepth 100000 in
theorem tX9_laysAs_10 {p : Program} {l : Launch} {e : Env} {s : State} {m : MethodId} {args : Array Value} {below : List Frame} {meth : Method} {c : Code} {D : va_G} {cI cL cS cH : ClassId} {A : Nat → Prop} {d : Nat} {a : Nat → Nat} {go : Int32 → Int32 → Int32 → Int32 → Int32 → List Int32 → Option (Int32 × Int32 × List Int32)} {dgo : Nat} (hgo : ∀ (a : Nat → Nat) (x1 : Int32) (x2 : Int32) (v_keptMany : Int32) (v_done : Int32) (v_rowsOf : Int32) (v_columnsOf : Int32) (v_folded : Int32) (v_wronged : Int32) (v_tapeMany : Int32) (v_textMany : Int32) (v_base : Int32) (v_at : Int32) (v_ends : Int32) (v_fault : Int32) (v_opened : Int32) (v_bentMany : Int32) (v_bentWrong : Int32) (v_moreWorn : Int32) (v_planned : Int32) (v_allWrong : Int32) (v_allWorn : Int32) (v_z : Int32) (v_wishedField : Int32) (v_isFound : Bool) (v_bestWrong : Int32) (v_bestWorn : Int32) (v_bestMany : Int32) (v_soughtBy : Int32) (v_sought : Int32) (v_soughtAt : Int32) (v_foundMany : Int32) (v_foundOrder : Int32) (v_isKept : Bool) (v_imageRows : Int32) (v_imageColumns : Int32) (v_imageFolded : Int32) (v_imageWronged : Int32) (v_bodies : Int32) (v_ran : Int32) (v_ownKind : Int32) (v_ownNumber : Int32) (v_limit : List Int32) (v_changeWas : List Int32) (v_changeIs : List Int32) (v_shapeRows : List Int32) (v_shapeColumns : List Int32) (v_row : List Int32) (v_column : List Int32) (v_below : List Int32) (v_face : List Int32) (v_worn : List Int32) (v_lastBend : List Int32) (v_tape : List Int32) (v_text : List Int32) (v_names : List Int32) (v_bends : List Int32) (v_high : List Int32) (v_to : List Int32) (v_pileSize : List Int32) (v_planLine : List Int32) (v_planWay : List Int32) (v_way1 : List Int32) (v_bestWay : List Int32) (v_order1 : List Int32) (v_placeIn : List Int32) (v_bodyKind : List Int32) (v_trace : List Int32) (v_shelf : List Int32) (v_many : List Int32) (v_items : List Int64) (v_carried : List Int64) (r : Int32) (w_ran : Int32) (w_trace : List Int32), go x1 x2 v_ran v_ownKind v_ownNumber v_trace = some (r, w_ran, w_trace) → mm_Ct l yX9_laysAs cX9_laysAs 4 (some .int) dgo D (mm_T cI cL cS cH) [.ref (a 0), .int x1, .int x2] (wd_X9 cI cL cS cH a v_keptMany v_done v_rowsOf v_columnsOf v_folded v_wronged v_tapeMany v_textMany v_base v_at v_ends v_fault v_opened v_bentMany v_bentWrong v_moreWorn v_planned v_allWrong v_allWorn v_z v_wishedField v_isFound v_bestWrong v_bestWorn v_bestMany v_soughtBy v_sought v_soughtAt v_foundMany v_foundOrder v_isKept v_imageRows v_imageColumns v_imageFolded v_imageWronged v_bodies v_ran v_ownKind v_ownNumber v_limit v_changeWas v_changeIs v_shapeRows v_shapeColumns v_row v_column v_below v_face v_worn v_lastBend v_tape v_text v_names v_bends v_high v_to v_pileSize v_planLine v_planWay v_way1 v_bestWay v_order1 v_placeIn v_bodyKind v_trace v_shelf v_many v_items v_carried) (wd_X9 cI cL cS cH a v_keptMany v_done v_rowsOf v_columnsOf v_folded v_wronged v_tapeMany v_textMany v_base v_at v_ends v_fault v_opened v_bentMany v_bentWrong v_moreWorn v_planned v_allWrong v_allWorn v_z v_wishedField v_isFound v_bestWrong v_bestWorn v_bestMany v_soughtBy v_sought v_soughtAt v_foundMany v_foundOrder v_isKept v_imageRows v_imageColumns v_imageFolded v_imageWronged v_bodies w_ran v_ownKind v_ownNumber v_limit v_changeWas v_changeIs v_shapeRows v_shapeColumns v_row v_column v_below v_face v_worn v_lastBend v_tape v_text v_names v_bends v_high v_to v_pileSize v_planLine v_planWay v_way1 v_bestWay v_order1 v_placeIn v_bodyKind w_trace v_shelf v_many v_items v_carried) (some (.int r))) (hE : 9 ≤ dgo) (hd : dgo + 1 ≤ d) (C0 : mm_Cx p s m args meth c RX9 cX9_laysAs 4 (some .int) D (mm_T cI cL cS cH) A) (hA : ∀ q, s.heap.size ≤ q → A q) {v_keptMany : Int32} {v_done : Int32} {v_rowsOf : Int32} {v_columnsOf : Int32} {v_folded : Int32} {v_wronged : Int32} {v_tapeMany : Int32} {v_textMany : Int32} {v_base : Int32} {v_at : Int32} {v_ends : Int32} {v_fault : Int32} {v_opened : Int32} {v_bentMany : Int32} {v_bentWrong : Int32} {v_moreWorn : Int32} {v_planned : Int32} {v_allWrong : Int32} {v_allWorn : Int32} {v_z : Int32} {v_wishedField : Int32} {v_isFound : Bool} {v_bestWrong : Int32} {v_bestWorn : Int32} {v_bestMany : Int32} {v_soughtBy : Int32} {v_sought : Int32} {v_soughtAt : Int32} {v_foundMany : Int32} {v_foundOrder : Int32} {v_isKept : Bool} {v_imageRows : Int32} {v_imageColumns : Int32} {v_imageFolded : Int32} {v_imageWronged : Int32} {v_bodies : Int32} {v_limit : List Int32} {v_changeWas : List Int32} {v_changeIs : List Int32} {v_shapeRows : List Int32} {v_shapeColumns : List Int32} {v_row : List Int32} {v_column : List Int32} {v_below : List Int32} {v_face : List Int32} {v_worn : List Int32} {v_lastBend : List Int32} {v_tape : List Int32} {v_text : List Int32} {v_names : List Int32} {v_bends : List Int32} {v_high : List Int32} {v_to : List Int32} {v_pileSize : List Int32} {v_planLine : List Int32} {v_planWay : List Int32} {v_way1 : List Int32} {v_bestWay : List Int32} {v_order1 : List Int32} {v_placeIn : List Int32} {v_bodyKind : List Int32} {v_shelf : List Int32} {v_many : List Int32} {v_items : List Int64} {v_carried : List Int64} {r : Int32} {w_ran : Int32} {w_trace : List Int32} (N : Nat)  : ∀ (x2 : Int32) (v_ran : Int32) (v_ownKind : Int32) (v_ownNumber : Int32) (v_trace : List Int32) (H : Heap) (locs : List Loc) (ls : Array Slot), fX9_laysAs_10 N go x2 v_ran v_ownKind v_ownNumber v_trace = some (r, w_ran, w_trace) → va_P D mm_cl (wd_X9 cI cL cS cH a v_keptMany v_done v_rowsOf v_columnsOf v_folded v_wronged v_tapeMany v_textMany v_base v_at v_ends v_fault v_opened v_bentMany v_bentWrong v_moreWorn v_planned v_allWrong v_allWorn v_z v_wishedField v_isFound v_bestWrong v_bestWorn v_bestMany v_soughtBy v_sought v_soughtAt v_foundMany v_foundOrder v_isKept v_imageRows v_imageColumns v_imageFolded v_imageWronged v_bodies v_ran v_ownKind v_ownNumber v_limit v_changeWas v_changeIs v_shapeRows v_shapeColumns v_row v_column v_below v_face v_worn v_lastBend v_tape v_text v_names v_bends v_high v_to v_pileSize v_planLine v_planWay v_way1 v_bestWay v_order1 v_placeIn v_bodyKind v_trace v_shelf v_many v_items v_carried) H → va_D A (wd_X9 cI cL cS cH a v_keptMany v_done v_rowsOf v_columnsOf v_folded v_wronged v_tapeMany v_textMany v_base v_at v_ends v_fault v_opened v_bentMany v_bentWrong v_moreWorn v_planned v_allWrong v_allWorn v_z v_wishedField v_isFound v_bestWrong v_bestWorn v_bestMany v_soughtBy v_sought v_soughtAt v_foundMany v_foundOrder v_isKept v_imageRows v_imageColumns v_imageFolded v_imageWronged v_bodies v_ran v_ownKind v_ownNumber v_limit v_changeWas v_changeIs v_shapeRows v_shapeColumns v_row v_column v_below v_face v_worn v_lastBend v_tape v_text v_names v_bends v_high v_to v_pileSize v_planLine v_planWay v_way1 v_bestWay v_order1 v_placeIn v_bodyKind v_trace v_shelf v_many v_items v_carried) → va_S A s.heap H locs → lv_has ls 4 [(0, .ref (a 0)), (2, .int x2)] → W p l e (mm_rr d) s m args below meth c H locs 0 0 (mm_Z below D A (wd_X9 cI cL cS cH a v_keptMany v_done v_rowsOf v_columnsOf v_folded v_wronged v_tapeMany v_textMany v_base v_at v_ends v_fault v_opened v_bentMany v_bentWrong v_moreWorn v_planned v_allWrong v_allWorn v_z v_wishedField v_isFound v_bestWrong v_bestWorn v_bestMany v_soughtBy v_sought v_soughtAt v_foundMany v_foundOrder v_isKept v_imageRows v_imageColumns v_imageFolded v_imageWronged v_bodies w_ran v_ownKind v_ownNumber v_limit v_changeWas v_changeIs v_shapeRows v_shapeColumns v_row v_column v_below v_face v_worn v_lastBend v_tape v_text v_names v_bends v_high v_to v_pileSize v_planLine v_planWay v_way1 v_bestWay v_order1 v_placeIn v_bodyKind w_trace v_shelf v_many v_items v_carried) (some (.int r)) args s) (F0 m 10 ls []) := by
  obtain ⟨hx, hb, hml, hown, hts, hr, hlocks, hK, hSt⟩ := id C0
  intro x2 v_ran v_ownKind v_ownNumber v_trace H locs ls hf hP hD hS hl
  unfold fX9_laysAs_10 at hf
  refine lv_aload_n hx hb dX9_laysAs_10 rfl (lv_at hl 0 rfl) ?_
  refine lv_bipush (v := 41) hx hb dX9_laysAs_11 (by decide) ?_
  obtain ⟨w_30, w_31, hc_32, hf⟩ := mm_bd2s hf
  refine mm_callVF (q0 := 0) (ci := 9) (rest := []) C0 lk_X9_401 (ctX9_begins (a := a) (d := d - 1) (by omega) hc_32) (by omega) rfl hl.1 rfl (mm_cat rfl) dX9_laysAs_13 hP hD hA hS rfl rfl (fun H locs hP hD hS => ?_)
  refine W.eq (g2 := F0 m 16 ls []) rfl ?_
  refine lv_aload_n hx hb dX9_laysAs_16 rfl (lv_at hl 0 rfl) ?_
  refine lv_iconst (v := 2) hx hb dX9_laysAs_17 (by decide) ?_
  refine lv_iload_n hx hb dX9_laysAs_18 rfl (lv_at hl 1 rfl) ?_
  refine lv_iconst (v := 1) hx hb dX9_laysAs_19 (by decide) ?_
  refine lv_iadd hx hb dX9_laysAs_20 ?_
  obtain ⟨r_33, w_34, w_35, hc_36, hf⟩ := mm_bd3s hf
  refine mm_callVF (q0 := 0) (ci := 9) (rest := []) C0 lk_X9_410 (hgo a _ _ _ _ _ _ _ _ _ _ _ _ _ _ _ _ _ _ _ _ _ _ _ _ _ _ _ _ _ _ _ _ _ _ _ _ _ _ _ _ _ _ _ _ _ _ _ _ _ _ _ _ _ _ _ _ _ _ _ _ _ _ _ _ _ _ _ _ _ _ _ _ _ _ hc_36) (by omega) rfl hl.1 rfl (mm_cat rfl) dX9_laysAs_21 hP hD hA hS rfl rfl (fun H locs hP hD hS => ?_)
  refine W.eq (g2 := F0 m 24 ls [.int r_33]) rfl ?_
  apply mm_sub3 hf
  exact mm_iret C0 hP hD hS dX9_laysAs_24

def fX9_laysAso (N : Nat) (go : Int32 → Int32 → Int32 → Int32 → Int32 → List Int32 → Option (Int32 × Int32 × List Int32)) (x1 : Int32) (x2 : Int32) (v_ran : Int32) (v_ownKind : Int32) (v_ownNumber : Int32) (v_trace : List Int32) : Option (Int32 × Int32 × List Int32) :=
    if x1 = (3 : Int32) then
    (fX9_laysAs_10 N go x2 v_ran v_ownKind v_ownNumber v_trace)
    else (if x1 = (5 : Int32) then
    (fX9_laysAs_10 N go x2 v_ran v_ownKind v_ownNumber v_trace)
    else (if x1 = (2 : Int32) then
    (mm_bd2 (fX9_begins N (30 : Int32) v_ran v_trace) (fun (w_23 : Int32) (w_24 : List Int32) =>
    mm_bd3 (go (0 : Int32) x2 w_23 v_ownKind v_ownNumber w_24) (fun (r_26 : Int32) (w_27 : Int32) (w_28 : List Int32) =>
    some ((-r_26), w_27, w_28))))
    else (if x1 = (7 : Int32) then
    (mm_bd2 (fX9_begins N (80 : Int32) v_ran v_trace) (fun (w_12 : Int32) (w_13 : List Int32) =>
    mm_bd3 (go (4 : Int32) x2 w_12 v_ownKind v_ownNumber w_13) (fun (r_15 : Int32) (w_16 : Int32) (w_17 : List Int32) =>
    mm_bd3 (fX9_wearsAs N 4 v_ownKind (2 : Int32) w_16 v_ownKind v_ownNumber w_17) (fun (r_19 : Int32) (w_20 : Int32) (w_21 : List Int32) =>
    some ((r_15 + r_19), w_20, w_21)))))
    else (mm_bd2 (fX9_begins N (10 : Int32) v_ran v_trace) (fun (w_5 : Int32) (w_6 : List Int32) =>
    mm_bd3 (fX9_foldsAs N 4 v_ownKind x2 w_5 v_ownNumber w_6) (fun (r_8 : Int32) (w_9 : Int32) (w_10 : List Int32) =>
    some ((r_8 * (2 : Int32)), w_9, w_10)))))))

set_option maxHeartbeats 4000000 in
set_option maxRecDepth 100000 in
theorem ctX9_laysAso {l : Launch} {D : va_G} {cI cL cS cH : ClassId} {a : Nat → Nat} {x1 : Int32} {x2 : Int32} {v_keptMany : Int32} {v_done : Int32} {v_rowsOf : Int32} {v_columnsOf : Int32} {v_folded : Int32} {v_wronged : Int32} {v_tapeMany : Int32} {v_textMany : Int32} {v_base : Int32} {v_at : Int32} {v_ends : Int32} {v_fault : Int32} {v_opened : Int32} {v_bentMany : Int32} {v_bentWrong : Int32} {v_moreWorn : Int32} {v_planned : Int32} {v_allWrong : Int32} {v_allWorn : Int32} {v_z : Int32} {v_wishedField : Int32} {v_isFound : Bool} {v_bestWrong : Int32} {v_bestWorn : Int32} {v_bestMany : Int32} {v_soughtBy : Int32} {v_sought : Int32} {v_soughtAt : Int32} {v_foundMany : Int32} {v_foundOrder : Int32} {v_isKept : Bool} {v_imageRows : Int32} {v_imageColumns : Int32} {v_imageFolded : Int32} {v_imageWronged : Int32} {v_bodies : Int32} {v_ran : Int32} {v_ownKind : Int32} {v_ownNumber : Int32} {v_limit : List Int32} {v_changeWas : List Int32} {v_changeIs : List Int32} {v_shapeRows : List Int32} {v_shapeColumns : List Int32} {v_row : List Int32} {v_column : List Int32} {v_below : List Int32} {v_face : List Int32} {v_worn : List Int32} {v_lastBend : List Int32} {v_tape : List Int32} {v_text : List Int32} {v_names : List Int32} {v_bends : List Int32} {v_high : List Int32} {v_to : List Int32} {v_pileSize : List Int32} {v_planLine : List Int32} {v_planWay : List Int32} {v_way1 : List Int32} {v_bestWay : List Int32} {v_order1 : List Int32} {v_placeIn : List Int32} {v_bodyKind : List Int32} {v_trace : List Int32} {v_shelf : List Int32} {v_many : List Int32} {v_items : List Int64} {v_carried : List Int64} {r : Int32} {w_ran : Int32} {w_trace : List Int32} {N d : Nat} {go : Int32 → Int32 → Int32 → Int32 → Int32 → List Int32 → Option (Int32 × Int32 × List Int32)} {dgo : Nat} (hgo : ∀ (a : Nat → Nat) (x1 : Int32) (x2 : Int32) (v_keptMany : Int32) (v_done : Int32) (v_rowsOf : Int32) (v_columnsOf : Int32) (v_folded : Int32) (v_wronged : Int32) (v_tapeMany : Int32) (v_textMany : Int32) (v_base : Int32) (v_at : Int32) (v_ends : Int32) (v_fault : Int32) (v_opened : Int32) (v_bentMany : Int32) (v_bentWrong : Int32) (v_moreWorn : Int32) (v_planned : Int32) (v_allWrong : Int32) (v_allWorn : Int32) (v_z : Int32) (v_wishedField : Int32) (v_isFound : Bool) (v_bestWrong : Int32) (v_bestWorn : Int32) (v_bestMany : Int32) (v_soughtBy : Int32) (v_sought : Int32) (v_soughtAt : Int32) (v_foundMany : Int32) (v_foundOrder : Int32) (v_isKept : Bool) (v_imageRows : Int32) (v_imageColumns : Int32) (v_imageFolded : Int32) (v_imageWronged : Int32) (v_bodies : Int32) (v_ran : Int32) (v_ownKind : Int32) (v_ownNumber : Int32) (v_limit : List Int32) (v_changeWas : List Int32) (v_changeIs : List Int32) (v_shapeRows : List Int32) (v_shapeColumns : List Int32) (v_row : List Int32) (v_column : List Int32) (v_below : List Int32) (v_face : List Int32) (v_worn : List Int32) (v_lastBend : List Int32) (v_tape : List Int32) (v_text : List Int32) (v_names : List Int32) (v_bends : List Int32) (v_high : List Int32) (v_to : List Int32) (v_pileSize : List Int32) (v_planLine : List Int32) (v_planWay : List Int32) (v_way1 : List Int32) (v_bestWay : List Int32) (v_order1 : List Int32) (v_placeIn : List Int32) (v_bodyKind : List Int32) (v_trace : List Int32) (v_shelf : List Int32) (v_many : List Int32) (v_items : List Int64) (v_carried : List Int64) (r : Int32) (w_ran : Int32) (w_trace : List Int32), go x1 x2 v_ran v_ownKind v_ownNumber v_trace = some (r, w_ran, w_trace) → mm_Ct l yX9_laysAs cX9_laysAs 4 (some .int) dgo D (mm_T cI cL cS cH) [.ref (a 0), .int x1, .int x2] (wd_X9 cI cL cS cH a v_keptMany v_done v_rowsOf v_columnsOf v_folded v_wronged v_tapeMany v_textMany v_base v_at v_ends v_fault v_opened v_bentMany v_bentWrong v_moreWorn v_planned v_allWrong v_allWorn v_z v_wishedField v_isFound v_bestWrong v_bestWorn v_bestMany v_soughtBy v_sought v_soughtAt v_foundMany v_foundOrder v_isKept v_imageRows v_imageColumns v_imageFolded v_imageWronged v_bodies v_ran v_ownKind v_ownNumber v_limit v_changeWas v_changeIs v_shapeRows v_shapeColumns v_row v_column v_below v_face v_worn v_lastBend v_tape v_text v_names v_bends v_high v_to v_pileSize v_planLine v_planWay v_way1 v_bestWay v_order1 v_placeIn v_bodyKind v_trace v_shelf v_many v_items v_carried) (wd_X9 cI cL cS cH a v_keptMany v_done v_rowsOf v_columnsOf v_folded v_wronged v_tapeMany v_textMany v_base v_at v_ends v_fault v_opened v_bentMany v_bentWrong v_moreWorn v_planned v_allWrong v_allWorn v_z v_wishedField v_isFound v_bestWrong v_bestWorn v_bestMany v_soughtBy v_sought v_soughtAt v_foundMany v_foundOrder v_isKept v_imageRows v_imageColumns v_imageFolded v_imageWronged v_bodies w_ran v_ownKind v_ownNumber v_limit v_changeWas v_changeIs v_shapeRows v_shapeColumns v_row v_column v_below v_face v_worn v_lastBend v_tape v_text v_names v_bends v_high v_to v_pileSize v_planLine v_planWay v_way1 v_bestWay v_order1 v_placeIn v_bodyKind w_trace v_shelf v_many v_items v_carried) (some (.int r))) (hE : 9 ≤ dgo) (hd : dgo + 1 ≤ d) (hf : fX9_laysAso N go x1 x2 v_ran v_ownKind v_ownNumber v_trace = some (r, w_ran, w_trace)) : mm_Ct l yX9_laysAs cX9_laysAs 4 (some .int) d D (mm_T cI cL cS cH) [.ref (a 0), .int x1, .int x2] (wd_X9 cI cL cS cH a v_keptMany v_done v_rowsOf v_columnsOf v_folded v_wronged v_tapeMany v_textMany v_base v_at v_ends v_fault v_opened v_bentMany v_bentWrong v_moreWorn v_planned v_allWrong v_allWorn v_z v_wishedField v_isFound v_bestWrong v_bestWorn v_bestMany v_soughtBy v_sought v_soughtAt v_foundMany v_foundOrder v_isKept v_imageRows v_imageColumns v_imageFolded v_imageWronged v_bodies v_ran v_ownKind v_ownNumber v_limit v_changeWas v_changeIs v_shapeRows v_shapeColumns v_row v_column v_below v_face v_worn v_lastBend v_tape v_text v_names v_bends v_high v_to v_pileSize v_planLine v_planWay v_way1 v_bestWay v_order1 v_placeIn v_bodyKind v_trace v_shelf v_many v_items v_carried) (wd_X9 cI cL cS cH a v_keptMany v_done v_rowsOf v_columnsOf v_folded v_wronged v_tapeMany v_textMany v_base v_at v_ends v_fault v_opened v_bentMany v_bentWrong v_moreWorn v_planned v_allWrong v_allWorn v_z v_wishedField v_isFound v_bestWrong v_bestWorn v_bestMany v_soughtBy v_sought v_soughtAt v_foundMany v_foundOrder v_isKept v_imageRows v_imageColumns v_imageFolded v_imageWronged v_bodies w_ran v_ownKind v_ownNumber v_limit v_changeWas v_changeIs v_shapeRows v_shapeColumns v_row v_column v_below v_face v_worn v_lastBend v_tape v_text v_names v_bends v_high v_to v_pileSize v_planLine v_planWay v_way1 v_bestWay v_order1 v_placeIn v_bodyKind w_trace v_shelf v_many v_items v_carried) (some (.int r)) := by
  refine mm_of (by decide) (Nat.le_of_ble_eq_true rfl) ?_
  intro p e s m args below meth c A H locs ls C0 hP hD hA hS hl
  have C0 : mm_Cx p s m args meth c RX9 cX9_laysAs 4 (some .int) D (mm_T cI cL cS cH) A := C0
  obtain ⟨hx, hb, hml, hown, hts, hr, hlocks, hK, hSt⟩ := id C0
  have hl : lv_has ls 4 [(0, .ref (a 0)), (1, .int x1), (2, .int x2)] := hl
  unfold fX9_laysAso at hf
  refine lv_iload_n hx hb dX9_laysAs_0 rfl (lv_at hl 1 rfl) ?_
  refine lv_iconst (v := 3) hx hb dX9_laysAs_1 (by decide) ?_
  refine lv_icmp_eq (tgt := 10) hx hb dX9_laysAs_2 (by decide) (fun c_1 => ?_) (fun c_1 => ?_)
  · have hf := mm_ip hf c_1
    exact tX9_laysAs_10 hgo hE hd C0 hA N  _ _ _ _ _ H locs ls hf hP hD hS (lv_sub hl [0, 2] rfl)
  · have hf := mm_in hf c_1
    refine lv_iload_n hx hb dX9_laysAs_5 rfl (lv_at hl 1 rfl) ?_
    refine lv_iconst (v := 5) hx hb dX9_laysAs_6 (by decide) ?_
    refine lv_icmp_ne (tgt := 25) hx hb dX9_laysAs_7 (by decide) (fun c_2 => ?_) (fun c_2 => ?_)
    · have hf := mm_in hf c_2
      refine lv_iload_n hx hb dX9_laysAs_25 rfl (lv_at hl 1 rfl) ?_
      refine lv_iconst (v := 2) hx hb dX9_laysAs_26 (by decide) ?_
      refine lv_icmp_ne (tgt := 44) hx hb dX9_laysAs_27 (by decide) (fun c_3 => ?_) (fun c_3 => ?_)
      · have hf := mm_in hf c_3
        refine lv_iload_n hx hb dX9_laysAs_44 rfl (lv_at hl 1 rfl) ?_
        refine lv_bipush (v := 7) hx hb dX9_laysAs_45 (by decide) ?_
        refine lv_icmp_ne (tgt := 75) hx hb dX9_laysAs_47 (by decide) (fun c_4 => ?_) (fun c_4 => ?_)
        · have hf := mm_in hf c_4
          refine lv_aload_n hx hb dX9_laysAs_75 rfl (lv_at hl 0 rfl) ?_
          refine lv_bipush (v := 10) hx hb dX9_laysAs_76 (by decide) ?_
          obtain ⟨w_5, w_6, hc_7, hf⟩ := mm_bd2s hf
          refine mm_callVF (q0 := 0) (ci := 9) (rest := []) C0 lk_X9_401 (ctX9_begins (a := a) (d := d - 1) (by omega) hc_7) (by omega) rfl hl.1 rfl (mm_cat rfl) dX9_laysAs_78 hP hD hA hS rfl rfl (fun H locs hP hD hS => ?_)
          refine W.eq (g2 := F0 m 81 ls []) rfl ?_
          refine lv_aload_n hx hb dX9_laysAs_81 rfl (lv_at hl 0 rfl) ?_
          refine lv_aload_n hx hb dX9_laysAs_82 rfl (lv_at hl 0 rfl) ?_
          refine mm_get C0 hP iw_X9 0 rfl rfl 63 (by decide) fl_X9_413 rfl dX9_laysAs_83 ?_
          refine lv_iload_n hx hb dX9_laysAs_86 rfl (lv_at hl 2 rfl) ?_
          obtain ⟨r_8, w_9, w_10, hc_11, hf⟩ := mm_bd3s hf
          refine mm_callVF (q0 := 0) (ci := 9) (rest := []) C0 lk_X9_404 (ctX9_foldsAs (N := N) 4 (d - 1) (by omega) a _ _ _ _ _ _ _ _ _ _ _ _ _ _ _ _ _ _ _ _ _ _ _ _ _ _ _ _ _ _ _ _ _ _ _ _ _ _ _ _ _ _ _ _ _ _ _ _ _ _ _ _ _ _ _ _ _ _ _ _ _ _ _ _ _ _ _ _ _ _ _ _ _ _ hc_11) (by omega) rfl hl.1 rfl (mm_cat rfl) dX9_laysAs_87 hP hD hA hS rfl rfl (fun H locs hP hD hS => ?_)
          refine W.eq (g2 := F0 m 90 ls [.int r_8]) rfl ?_
          refine lv_iconst (v := 2) hx hb dX9_laysAs_90 (by decide) ?_
          refine lv_imul hx hb dX9_laysAs_91 ?_
          apply mm_sub3 hf
          exact mm_iret C0 hP hD hS dX9_laysAs_92
        · have hf := mm_ip hf c_4
          refine lv_aload_n hx hb dX9_laysAs_50 rfl (lv_at hl 0 rfl) ?_
          refine lv_bipush (v := 80) hx hb dX9_laysAs_51 (by decide) ?_
          obtain ⟨w_12, w_13, hc_14, hf⟩ := mm_bd2s hf
          refine mm_callVF (q0 := 0) (ci := 9) (rest := []) C0 lk_X9_401 (ctX9_begins (a := a) (d := d - 1) (by omega) hc_14) (by omega) rfl hl.1 rfl (mm_cat rfl) dX9_laysAs_53 hP hD hA hS rfl rfl (fun H locs hP hD hS => ?_)
          refine W.eq (g2 := F0 m 56 ls []) rfl ?_
          refine lv_aload_n hx hb dX9_laysAs_56 rfl (lv_at hl 0 rfl) ?_
          refine lv_iconst (v := 4) hx hb dX9_laysAs_57 (by decide) ?_
          refine lv_iload_n hx hb dX9_laysAs_58 rfl (lv_at hl 2 rfl) ?_
          obtain ⟨r_15, w_16, w_17, hc_18, hf⟩ := mm_bd3s hf
          refine mm_callVF (q0 := 0) (ci := 9) (rest := []) C0 lk_X9_410 (hgo a _ _ _ _ _ _ _ _ _ _ _ _ _ _ _ _ _ _ _ _ _ _ _ _ _ _ _ _ _ _ _ _ _ _ _ _ _ _ _ _ _ _ _ _ _ _ _ _ _ _ _ _ _ _ _ _ _ _ _ _ _ _ _ _ _ _ _ _ _ _ _ _ _ _ hc_18) (by omega) rfl hl.1 rfl (mm_cat rfl) dX9_laysAs_59 hP hD hA hS rfl rfl (fun H locs hP hD hS => ?_)
          refine W.eq (g2 := F0 m 62 ls [.int r_15]) rfl ?_
          refine lv_istore_n (lv' := [(3, .int r_15), (0, .ref (a 0)), (1, .int x1), (2, .int x2)]) hx hb dX9_laysAs_62 rfl hl (by decide) rfl (fun ls hl => ?_)
          refine lv_iload_n hx hb dX9_laysAs_63 rfl (lv_at hl 0 rfl) ?_
          refine lv_aload_n hx hb dX9_laysAs_64 rfl (lv_at hl 1 rfl) ?_
          refine lv_aload_n hx hb dX9_laysAs_65 rfl (lv_at hl 1 rfl) ?_
          refine mm_get C0 hP iw_X9 0 rfl rfl 63 (by decide) fl_X9_413 rfl dX9_laysAs_66 ?_
          refine lv_iconst (v := 2) hx hb dX9_laysAs_69 (by decide) ?_
          obtain ⟨r_19, w_20, w_21, hc_22, hf⟩ := mm_bd3s hf
          refine mm_callVF (q0 := 0) (ci := 9) (rest := [.int r_15]) C0 lk_X9_416 (ctX9_wearsAs (N := N) 4 (d - 1) (by omega) a _ _ _ _ _ _ _ _ _ _ _ _ _ _ _ _ _ _ _ _ _ _ _ _ _ _ _ _ _ _ _ _ _ _ _ _ _ _ _ _ _ _ _ _ _ _ _ _ _ _ _ _ _ _ _ _ _ _ _ _ _ _ _ _ _ _ _ _ _ _ _ _ _ _ hc_22) (by omega) rfl hl.1 rfl (mm_cat rfl) dX9_laysAs_70 hP hD hA hS rfl rfl (fun H locs hP hD hS => ?_)
          refine W.eq (g2 := F0 m 73 ls [.int r_19, .int r_15]) rfl ?_
          refine lv_iadd hx hb dX9_laysAs_73 ?_
          apply mm_sub3 hf
          exact mm_iret C0 hP hD hS dX9_laysAs_74
      · have hf := mm_ip hf c_3
        refine lv_aload_n hx hb dX9_laysAs_30 rfl (lv_at hl 0 rfl) ?_
        refine lv_bipush (v := 30) hx hb dX9_laysAs_31 (by decide) ?_
        obtain ⟨w_23, w_24, hc_25, hf⟩ := mm_bd2s hf
        refine mm_callVF (q0 := 0) (ci := 9) (rest := []) C0 lk_X9_401 (ctX9_begins (a := a) (d := d - 1) (by omega) hc_25) (by omega) rfl hl.1 rfl (mm_cat rfl) dX9_laysAs_33 hP hD hA hS rfl rfl (fun H locs hP hD hS => ?_)
        refine W.eq (g2 := F0 m 36 ls []) rfl ?_
        refine lv_aload_n hx hb dX9_laysAs_36 rfl (lv_at hl 0 rfl) ?_
        refine lv_iconst (v := 0) hx hb dX9_laysAs_37 (by decide) ?_
        refine lv_iload_n hx hb dX9_laysAs_38 rfl (lv_at hl 2 rfl) ?_
        obtain ⟨r_26, w_27, w_28, hc_29, hf⟩ := mm_bd3s hf
        refine mm_callVF (q0 := 0) (ci := 9) (rest := []) C0 lk_X9_410 (hgo a _ _ _ _ _ _ _ _ _ _ _ _ _ _ _ _ _ _ _ _ _ _ _ _ _ _ _ _ _ _ _ _ _ _ _ _ _ _ _ _ _ _ _ _ _ _ _ _ _ _ _ _ _ _ _ _ _ _ _ _ _ _ _ _ _ _ _ _ _ _ _ _ _ _ hc_29) (by omega) rfl hl.1 rfl (mm_cat rfl) dX9_laysAs_39 hP hD hA hS rfl rfl (fun H locs hP hD hS => ?_)
        refine W.eq (g2 := F0 m 42 ls [.int r_26]) rfl ?_
        refine lv_ineg hx hb dX9_laysAs_42 ?_
        apply mm_sub3 hf
        exact mm_iret C0 hP hD hS dX9_laysAs_43
    · have hf := mm_ip hf c_2
      exact tX9_laysAs_10 hgo hE hd C0 hA N  _ _ _ _ _ H locs ls hf hP hD hS (lv_sub hl [0, 2] rfl)

def fX9_laysAs (N : Nat) : Nat → Int32 → Int32 → Int32 → Int32 → Int32 → List Int32 → Option (Int32 × Int32 × List Int32)
  | 0 => fun _ _ _ _ _ _ => none
  | M + 1 => fX9_laysAso N (fX9_laysAs N M)
set_option maxHeartbeats 4000000 in
set_option maxRecDepth 100000 in
theorem ctX9_laysAs {l : Launch} {D : va_G} {cI cL cS cH : ClassId} {N : Nat} : ∀ (M d : Nat), 9 + 1 * M ≤ d → ∀ (a : Nat → Nat) (x1 : Int32) (x2 : Int32) (v_keptMany : Int32) (v_done : Int32) (v_rowsOf : Int32) (v_columnsOf : Int32) (v_folded : Int32) (v_wronged : Int32) (v_tapeMany : Int32) (v_textMany : Int32) (v_base : Int32) (v_at : Int32) (v_ends : Int32) (v_fault : Int32) (v_opened : Int32) (v_bentMany : Int32) (v_bentWrong : Int32) (v_moreWorn : Int32) (v_planned : Int32) (v_allWrong : Int32) (v_allWorn : Int32) (v_z : Int32) (v_wishedField : Int32) (v_isFound : Bool) (v_bestWrong : Int32) (v_bestWorn : Int32) (v_bestMany : Int32) (v_soughtBy : Int32) (v_sought : Int32) (v_soughtAt : Int32) (v_foundMany : Int32) (v_foundOrder : Int32) (v_isKept : Bool) (v_imageRows : Int32) (v_imageColumns : Int32) (v_imageFolded : Int32) (v_imageWronged : Int32) (v_bodies : Int32) (v_ran : Int32) (v_ownKind : Int32) (v_ownNumber : Int32) (v_limit : List Int32) (v_changeWas : List Int32) (v_changeIs : List Int32) (v_shapeRows : List Int32) (v_shapeColumns : List Int32) (v_row : List Int32) (v_column : List Int32) (v_below : List Int32) (v_face : List Int32) (v_worn : List Int32) (v_lastBend : List Int32) (v_tape : List Int32) (v_text : List Int32) (v_names : List Int32) (v_bends : List Int32) (v_high : List Int32) (v_to : List Int32) (v_pileSize : List Int32) (v_planLine : List Int32) (v_planWay : List Int32) (v_way1 : List Int32) (v_bestWay : List Int32) (v_order1 : List Int32) (v_placeIn : List Int32) (v_bodyKind : List Int32) (v_trace : List Int32) (v_shelf : List Int32) (v_many : List Int32) (v_items : List Int64) (v_carried : List Int64) (r : Int32) (w_ran : Int32) (w_trace : List Int32), fX9_laysAs N M x1 x2 v_ran v_ownKind v_ownNumber v_trace = some (r, w_ran, w_trace) → mm_Ct l yX9_laysAs cX9_laysAs 4 (some .int) d D (mm_T cI cL cS cH) [.ref (a 0), .int x1, .int x2] (wd_X9 cI cL cS cH a v_keptMany v_done v_rowsOf v_columnsOf v_folded v_wronged v_tapeMany v_textMany v_base v_at v_ends v_fault v_opened v_bentMany v_bentWrong v_moreWorn v_planned v_allWrong v_allWorn v_z v_wishedField v_isFound v_bestWrong v_bestWorn v_bestMany v_soughtBy v_sought v_soughtAt v_foundMany v_foundOrder v_isKept v_imageRows v_imageColumns v_imageFolded v_imageWronged v_bodies v_ran v_ownKind v_ownNumber v_limit v_changeWas v_changeIs v_shapeRows v_shapeColumns v_row v_column v_below v_face v_worn v_lastBend v_tape v_text v_names v_bends v_high v_to v_pileSize v_planLine v_planWay v_way1 v_bestWay v_order1 v_placeIn v_bodyKind v_trace v_shelf v_many v_items v_carried) (wd_X9 cI cL cS cH a v_keptMany v_done v_rowsOf v_columnsOf v_folded v_wronged v_tapeMany v_textMany v_base v_at v_ends v_fault v_opened v_bentMany v_bentWrong v_moreWorn v_planned v_allWrong v_allWorn v_z v_wishedField v_isFound v_bestWrong v_bestWorn v_bestMany v_soughtBy v_sought v_soughtAt v_foundMany v_foundOrder v_isKept v_imageRows v_imageColumns v_imageFolded v_imageWronged v_bodies w_ran v_ownKind v_ownNumber v_limit v_changeWas v_changeIs v_shapeRows v_shapeColumns v_row v_column v_below v_face v_worn v_lastBend v_tape v_text v_names v_bends v_high v_to v_pileSize v_planLine v_planWay v_way1 v_bestWay v_order1 v_placeIn v_bodyKind w_trace v_shelf v_many v_items v_carried) (some (.int r)) := by
  intro M
  induction M with
  | zero =>
    intro d hd a x1 x2 v_keptMany v_done v_rowsOf v_columnsOf v_folded v_wronged v_tapeMany v_textMany v_base v_at v_ends v_fault v_opened v_bentMany v_bentWrong v_moreWorn v_planned v_allWrong v_allWorn v_z v_wishedField v_isFound v_bestWrong v_bestWorn v_bestMany v_soughtBy v_sought v_soughtAt v_foundMany v_foundOrder v_isKept v_imageRows v_imageColumns v_imageFolded v_imageWronged v_bodies v_ran v_ownKind v_ownNumber v_limit v_changeWas v_changeIs v_shapeRows v_shapeColumns v_row v_column v_below v_face v_worn v_lastBend v_tape v_text v_names v_bends v_high v_to v_pileSize v_planLine v_planWay v_way1 v_bestWay v_order1 v_placeIn v_bodyKind v_trace v_shelf v_many v_items v_carried r w_ran w_trace hf
    cases (show none = some _ from hf)
  | succ M ih =>
    intro d hd a x1 x2 v_keptMany v_done v_rowsOf v_columnsOf v_folded v_wronged v_tapeMany v_textMany v_base v_at v_ends v_fault v_opened v_bentMany v_bentWrong v_moreWorn v_planned v_allWrong v_allWorn v_z v_wishedField v_isFound v_bestWrong v_bestWorn v_bestMany v_soughtBy v_sought v_soughtAt v_foundMany v_foundOrder v_isKept v_imageRows v_imageColumns v_imageFolded v_imageWronged v_bodies v_ran v_ownKind v_ownNumber v_limit v_changeWas v_changeIs v_shapeRows v_shapeColumns v_row v_column v_below v_face v_worn v_lastBend v_tape v_text v_names v_bends v_high v_to v_pileSize v_planLine v_planWay v_way1 v_bestWay v_order1 v_placeIn v_bodyKind v_trace v_shelf v_many v_items v_carried r w_ran w_trace hf
    exact ctX9_laysAso (N := N) (ih (9 + 1 * M) (Nat.le_refl _)) (Nat.le_add_right _ _) (by omega) hf

theorem nb_dX9_tellsAs_0 : bls_w cX9_tellsAs [(0, [27]), (1, [8]), (2, [160, 0, 18]), (5, [42]), (6, [16, 60]), (8, [182, 1, 145]), (11, [42]), (12, [6]), (13, [28]), (14, [182, 1, 163]), (17, [8]), (18, [130])] := bls_of (by decide +kernel)
theorem dX9_tellsAs_0 : decode cX9_tellsAs 0 = .ok (.iload_n 1, 1) := op_27 nb_dX9_tellsAs_0.1
theorem dX9_tellsAs_1 : decode cX9_tellsAs 1 = .ok (.iconst 5, 1) := op_8 nb_dX9_tellsAs_0.2.1
set_option maxRecDepth 100000 in
theorem dX9_tellsAs_2 : decode cX9_tellsAs 2 = .ok (.if_icmp .ne 18, 3) := (op_160 nb_dX9_tellsAs_0.2.2.1).trans rfl
theorem dX9_tellsAs_5 : decode cX9_tellsAs 5 = .ok (.aload_n 0, 1) := op_42 nb_dX9_tellsAs_0.2.2.2.1
set_option maxRecDepth 100000 in
theorem dX9_tellsAs_6 : decode cX9_tellsAs 6 = .ok (.bipush 60, 2) := (op_16 nb_dX9_tellsAs_0.2.2.2.2.1).trans rfl
set_option maxRecDepth 100000 in
theorem dX9_tellsAs_8 : decode cX9_tellsAs 8 = .ok (.invokevirtual 401, 3) := (op_182 nb_dX9_tellsAs_0.2.2.2.2.2.1).trans rfl
theorem dX9_tellsAs_11 : decode cX9_tellsAs 11 = .ok (.aload_n 0, 1) := op_42 nb_dX9_tellsAs_0.2.2.2.2.2.2.1
theorem dX9_tellsAs_12 : decode cX9_tellsAs 12 = .ok (.iconst 3, 1) := op_6 nb_dX9_tellsAs_0.2.2.2.2.2.2.2.1
theorem dX9_tellsAs_13 : decode cX9_tellsAs 13 = .ok (.iload_n 2, 1) := op_28 nb_dX9_tellsAs_0.2.2.2.2.2.2.2.2.1
set_option maxRecDepth 100000 in
theorem dX9_tellsAs_14 : decode cX9_tellsAs 14 = .ok (.invokevirtual 419, 3) := (op_182 nb_dX9_tellsAs_0.2.2.2.2.2.2.2.2.2.1).trans rfl
theorem dX9_tellsAs_17 : decode cX9_tellsAs 17 = .ok (.iconst 5, 1) := op_8 nb_dX9_tellsAs_0.2.2.2.2.2.2.2.2.2.2.1
theorem dX9_tellsAs_18 : decode cX9_tellsAs 18 = .ok (.ixor, 1) := op_130 nb_dX9_tellsAs_0.2.2.2.2.2.2.2.2.2.2.2.1
theorem nb_dX9_tellsAs_19 : bls_w cX9_tellsAs [(19, [172]), (20, [27]), (21, [16, 7]), (23, [160, 0, 18]), (26, [42]), (27, [16, 81]), (29, [182, 1, 145]), (32, [42]), (33, [7]), (34, [28]), (35, [182, 1, 163]), (38, [4])] := bls_of (by decide +kernel)
theorem dX9_tellsAs_19 : decode cX9_tellsAs 19 = .ok (.ireturn, 1) := op_172 nb_dX9_tellsAs_19.1
theorem dX9_tellsAs_20 : decode cX9_tellsAs 20 = .ok (.iload_n 1, 1) := op_27 nb_dX9_tellsAs_19.2.1
set_option maxRecDepth 100000 in
theorem dX9_tellsAs_21 : decode cX9_tellsAs 21 = .ok (.bipush 7, 2) := (op_16 nb_dX9_tellsAs_19.2.2.1).trans rfl
set_option maxRecDepth 100000 in
theorem dX9_tellsAs_23 : decode cX9_tellsAs 23 = .ok (.if_icmp .ne 18, 3) := (op_160 nb_dX9_tellsAs_19.2.2.2.1).trans rfl
theorem dX9_tellsAs_26 : decode cX9_tellsAs 26 = .ok (.aload_n 0, 1) := op_42 nb_dX9_tellsAs_19.2.2.2.2.1
set_option maxRecDepth 100000 in
theorem dX9_tellsAs_27 : decode cX9_tellsAs 27 = .ok (.bipush 81, 2) := (op_16 nb_dX9_tellsAs_19.2.2.2.2.2.1).trans rfl
set_option maxRecDepth 100000 in
theorem dX9_tellsAs_29 : decode cX9_tellsAs 29 = .ok (.invokevirtual 401, 3) := (op_182 nb_dX9_tellsAs_19.2.2.2.2.2.2.1).trans rfl
theorem dX9_tellsAs_32 : decode cX9_tellsAs 32 = .ok (.aload_n 0, 1) := op_42 nb_dX9_tellsAs_19.2.2.2.2.2.2.2.1
theorem dX9_tellsAs_33 : decode cX9_tellsAs 33 = .ok (.iconst 4, 1) := op_7 nb_dX9_tellsAs_19.2.2.2.2.2.2.2.2.1
theorem dX9_tellsAs_34 : decode cX9_tellsAs 34 = .ok (.iload_n 2, 1) := op_28 nb_dX9_tellsAs_19.2.2.2.2.2.2.2.2.2.1
set_option maxRecDepth 100000 in
theorem dX9_tellsAs_35 : decode cX9_tellsAs 35 = .ok (.invokevirtual 419, 3) := (op_182 nb_dX9_tellsAs_19.2.2.2.2.2.2.2.2.2.2.1).trans rfl
theorem dX9_tellsAs_38 : decode cX9_tellsAs 38 = .ok (.iconst 1, 1) := op_4 nb_dX9_tellsAs_19.2.2.2.2.2.2.2.2.2.2.2.1
theorem nb_dX9_tellsAs_39 : bls_w cX9_tellsAs [(39, [100]), (40, [172]), (41, [42]), (42, [5]), (43, [182, 1, 145]), (46, [42]), (47, [42]), (48, [180, 1, 157]), (51, [28]), (52, [182, 1, 154]), (55, [62]), (56, [29])] := bls_of (by decide +kernel)
theorem dX9_tellsAs_39 : decode cX9_tellsAs 39 = .ok (.isub, 1) := op_100 nb_dX9_tellsAs_39.1
theorem dX9_tellsAs_40 : decode cX9_tellsAs 40 = .ok (.ireturn, 1) := op_172 nb_dX9_tellsAs_39.2.1
theorem dX9_tellsAs_41 : decode cX9_tellsAs 41 = .ok (.aload_n 0, 1) := op_42 nb_dX9_tellsAs_39.2.2.1
theorem dX9_tellsAs_42 : decode cX9_tellsAs 42 = .ok (.iconst 2, 1) := op_5 nb_dX9_tellsAs_39.2.2.2.1
set_option maxRecDepth 100000 in
theorem dX9_tellsAs_43 : decode cX9_tellsAs 43 = .ok (.invokevirtual 401, 3) := (op_182 nb_dX9_tellsAs_39.2.2.2.2.1).trans rfl
theorem dX9_tellsAs_46 : decode cX9_tellsAs 46 = .ok (.aload_n 0, 1) := op_42 nb_dX9_tellsAs_39.2.2.2.2.2.1
theorem dX9_tellsAs_47 : decode cX9_tellsAs 47 = .ok (.aload_n 0, 1) := op_42 nb_dX9_tellsAs_39.2.2.2.2.2.2.1
set_option maxRecDepth 100000 in
theorem dX9_tellsAs_48 : decode cX9_tellsAs 48 = .ok (.getfield 413, 3) := (op_180 nb_dX9_tellsAs_39.2.2.2.2.2.2.2.1).trans rfl
theorem dX9_tellsAs_51 : decode cX9_tellsAs 51 = .ok (.iload_n 2, 1) := op_28 nb_dX9_tellsAs_39.2.2.2.2.2.2.2.2.1
set_option maxRecDepth 100000 in
theorem dX9_tellsAs_52 : decode cX9_tellsAs 52 = .ok (.invokevirtual 410, 3) := (op_182 nb_dX9_tellsAs_39.2.2.2.2.2.2.2.2.2.1).trans rfl
theorem dX9_tellsAs_55 : decode cX9_tellsAs 55 = .ok (.istore_n 3, 1) := op_62 nb_dX9_tellsAs_39.2.2.2.2.2.2.2.2.2.2.1
theorem dX9_tellsAs_56 : decode cX9_tellsAs 56 = .ok (.iload_n 3, 1) := op_29 nb_dX9_tellsAs_39.2.2.2.2.2.2.2.2.2.2.2.1
theorem nb_dX9_tellsAs_57 : bls_w cX9_tellsAs [(57, [42]), (58, [42]), (59, [180, 1, 157]), (62, [4]), (63, [182, 1, 160]), (66, [100]), (67, [172])] := bls_of (by decide +kernel)
theorem dX9_tellsAs_57 : decode cX9_tellsAs 57 = .ok (.aload_n 0, 1) := op_42 nb_dX9_tellsAs_57.1
theorem dX9_tellsAs_58 : decode cX9_tellsAs 58 = .ok (.aload_n 0, 1) := op_42 nb_dX9_tellsAs_57.2.1
set_option maxRecDepth 100000 in
theorem dX9_tellsAs_59 : decode cX9_tellsAs 59 = .ok (.getfield 413, 3) := (op_180 nb_dX9_tellsAs_57.2.2.1).trans rfl
theorem dX9_tellsAs_62 : decode cX9_tellsAs 62 = .ok (.iconst 1, 1) := op_4 nb_dX9_tellsAs_57.2.2.2.1
set_option maxRecDepth 100000 in
theorem dX9_tellsAs_63 : decode cX9_tellsAs 63 = .ok (.invokevirtual 416, 3) := (op_182 nb_dX9_tellsAs_57.2.2.2.2.1).trans rfl
theorem dX9_tellsAs_66 : decode cX9_tellsAs 66 = .ok (.isub, 1) := op_100 nb_dX9_tellsAs_57.2.2.2.2.2.1
theorem dX9_tellsAs_67 : decode cX9_tellsAs 67 = .ok (.ireturn, 1) := op_172 nb_dX9_tellsAs_57.2.2.2.2.2.2.1
def fX9_tellsAso (N : Nat) (go : Int32 → Int32 → Int32 → Int32 → Int32 → List Int32 → Option (Int32 × Int32 × List Int32)) (x1 : Int32) (x2 : Int32) (v_ran : Int32) (v_ownKind : Int32) (v_ownNumber : Int32) (v_trace : List Int32) : Option (Int32 × Int32 × List Int32) :=
    if x1 = (5 : Int32) then
    (mm_bd2 (fX9_begins N (60 : Int32) v_ran v_trace) (fun (w_21 : Int32) (w_22 : List Int32) =>
    mm_bd3 (go (3 : Int32) x2 w_21 v_ownKind v_ownNumber w_22) (fun (r_24 : Int32) (w_25 : Int32) (w_26 : List Int32) =>
    some ((r_24 ^^^ (5 : Int32)), w_25, w_26))))
    else (if x1 = (7 : Int32) then
    (mm_bd2 (fX9_begins N (81 : Int32) v_ran v_trace) (fun (w_14 : Int32) (w_15 : List Int32) =>
    mm_bd3 (go (4 : Int32) x2 w_14 v_ownKind v_ownNumber w_15) (fun (r_17 : Int32) (w_18 : Int32) (w_19 : List Int32) =>
    some ((r_17 - (1 : Int32)), w_18, w_19))))
    else (mm_bd2 (fX9_begins N (2 : Int32) v_ran v_trace) (fun (w_3 : Int32) (w_4 : List Int32) =>
    mm_bd3 (fX9_laysAs N 5 v_ownKind x2 w_3 v_ownKind v_ownNumber w_4) (fun (r_6 : Int32) (w_7 : Int32) (w_8 : List Int32) =>
    mm_bd3 (fX9_wearsAs N 4 v_ownKind (1 : Int32) w_7 v_ownKind v_ownNumber w_8) (fun (r_10 : Int32) (w_11 : Int32) (w_12 : List Int32) =>
    some ((r_6 - r_10), w_11, w_12))))))

set_option maxHeartbeats 4000000 in
set_option maxRecDepth 100000 in
theorem ctX9_tellsAso {l : Launch} {D : va_G} {cI cL cS cH : ClassId} {a : Nat → Nat} {x1 : Int32} {x2 : Int32} {v_keptMany : Int32} {v_done : Int32} {v_rowsOf : Int32} {v_columnsOf : Int32} {v_folded : Int32} {v_wronged : Int32} {v_tapeMany : Int32} {v_textMany : Int32} {v_base : Int32} {v_at : Int32} {v_ends : Int32} {v_fault : Int32} {v_opened : Int32} {v_bentMany : Int32} {v_bentWrong : Int32} {v_moreWorn : Int32} {v_planned : Int32} {v_allWrong : Int32} {v_allWorn : Int32} {v_z : Int32} {v_wishedField : Int32} {v_isFound : Bool} {v_bestWrong : Int32} {v_bestWorn : Int32} {v_bestMany : Int32} {v_soughtBy : Int32} {v_sought : Int32} {v_soughtAt : Int32} {v_foundMany : Int32} {v_foundOrder : Int32} {v_isKept : Bool} {v_imageRows : Int32} {v_imageColumns : Int32} {v_imageFolded : Int32} {v_imageWronged : Int32} {v_bodies : Int32} {v_ran : Int32} {v_ownKind : Int32} {v_ownNumber : Int32} {v_limit : List Int32} {v_changeWas : List Int32} {v_changeIs : List Int32} {v_shapeRows : List Int32} {v_shapeColumns : List Int32} {v_row : List Int32} {v_column : List Int32} {v_below : List Int32} {v_face : List Int32} {v_worn : List Int32} {v_lastBend : List Int32} {v_tape : List Int32} {v_text : List Int32} {v_names : List Int32} {v_bends : List Int32} {v_high : List Int32} {v_to : List Int32} {v_pileSize : List Int32} {v_planLine : List Int32} {v_planWay : List Int32} {v_way1 : List Int32} {v_bestWay : List Int32} {v_order1 : List Int32} {v_placeIn : List Int32} {v_bodyKind : List Int32} {v_trace : List Int32} {v_shelf : List Int32} {v_many : List Int32} {v_items : List Int64} {v_carried : List Int64} {r : Int32} {w_ran : Int32} {w_trace : List Int32} {N d : Nat} {go : Int32 → Int32 → Int32 → Int32 → Int32 → List Int32 → Option (Int32 × Int32 × List Int32)} {dgo : Nat} (hgo : ∀ (a : Nat → Nat) (x1 : Int32) (x2 : Int32) (v_keptMany : Int32) (v_done : Int32) (v_rowsOf : Int32) (v_columnsOf : Int32) (v_folded : Int32) (v_wronged : Int32) (v_tapeMany : Int32) (v_textMany : Int32) (v_base : Int32) (v_at : Int32) (v_ends : Int32) (v_fault : Int32) (v_opened : Int32) (v_bentMany : Int32) (v_bentWrong : Int32) (v_moreWorn : Int32) (v_planned : Int32) (v_allWrong : Int32) (v_allWorn : Int32) (v_z : Int32) (v_wishedField : Int32) (v_isFound : Bool) (v_bestWrong : Int32) (v_bestWorn : Int32) (v_bestMany : Int32) (v_soughtBy : Int32) (v_sought : Int32) (v_soughtAt : Int32) (v_foundMany : Int32) (v_foundOrder : Int32) (v_isKept : Bool) (v_imageRows : Int32) (v_imageColumns : Int32) (v_imageFolded : Int32) (v_imageWronged : Int32) (v_bodies : Int32) (v_ran : Int32) (v_ownKind : Int32) (v_ownNumber : Int32) (v_limit : List Int32) (v_changeWas : List Int32) (v_changeIs : List Int32) (v_shapeRows : List Int32) (v_shapeColumns : List Int32) (v_row : List Int32) (v_column : List Int32) (v_below : List Int32) (v_face : List Int32) (v_worn : List Int32) (v_lastBend : List Int32) (v_tape : List Int32) (v_text : List Int32) (v_names : List Int32) (v_bends : List Int32) (v_high : List Int32) (v_to : List Int32) (v_pileSize : List Int32) (v_planLine : List Int32) (v_planWay : List Int32) (v_way1 : List Int32) (v_bestWay : List Int32) (v_order1 : List Int32) (v_placeIn : List Int32) (v_bodyKind : List Int32) (v_trace : List Int32) (v_shelf : List Int32) (v_many : List Int32) (v_items : List Int64) (v_carried : List Int64) (r : Int32) (w_ran : Int32) (w_trace : List Int32), go x1 x2 v_ran v_ownKind v_ownNumber v_trace = some (r, w_ran, w_trace) → mm_Ct l yX9_tellsAs cX9_tellsAs 4 (some .int) dgo D (mm_T cI cL cS cH) [.ref (a 0), .int x1, .int x2] (wd_X9 cI cL cS cH a v_keptMany v_done v_rowsOf v_columnsOf v_folded v_wronged v_tapeMany v_textMany v_base v_at v_ends v_fault v_opened v_bentMany v_bentWrong v_moreWorn v_planned v_allWrong v_allWorn v_z v_wishedField v_isFound v_bestWrong v_bestWorn v_bestMany v_soughtBy v_sought v_soughtAt v_foundMany v_foundOrder v_isKept v_imageRows v_imageColumns v_imageFolded v_imageWronged v_bodies v_ran v_ownKind v_ownNumber v_limit v_changeWas v_changeIs v_shapeRows v_shapeColumns v_row v_column v_below v_face v_worn v_lastBend v_tape v_text v_names v_bends v_high v_to v_pileSize v_planLine v_planWay v_way1 v_bestWay v_order1 v_placeIn v_bodyKind v_trace v_shelf v_many v_items v_carried) (wd_X9 cI cL cS cH a v_keptMany v_done v_rowsOf v_columnsOf v_folded v_wronged v_tapeMany v_textMany v_base v_at v_ends v_fault v_opened v_bentMany v_bentWrong v_moreWorn v_planned v_allWrong v_allWorn v_z v_wishedField v_isFound v_bestWrong v_bestWorn v_bestMany v_soughtBy v_sought v_soughtAt v_foundMany v_foundOrder v_isKept v_imageRows v_imageColumns v_imageFolded v_imageWronged v_bodies w_ran v_ownKind v_ownNumber v_limit v_changeWas v_changeIs v_shapeRows v_shapeColumns v_row v_column v_below v_face v_worn v_lastBend v_tape v_text v_names v_bends v_high v_to v_pileSize v_planLine v_planWay v_way1 v_bestWay v_order1 v_placeIn v_bodyKind w_trace v_shelf v_many v_items v_carried) (some (.int r))) (hE : 14 ≤ dgo) (hd : dgo + 1 ≤ d) (hf : fX9_tellsAso N go x1 x2 v_ran v_ownKind v_ownNumber v_trace = some (r, w_ran, w_trace)) : mm_Ct l yX9_tellsAs cX9_tellsAs 4 (some .int) d D (mm_T cI cL cS cH) [.ref (a 0), .int x1, .int x2] (wd_X9 cI cL cS cH a v_keptMany v_done v_rowsOf v_columnsOf v_folded v_wronged v_tapeMany v_textMany v_base v_at v_ends v_fault v_opened v_bentMany v_bentWrong v_moreWorn v_planned v_allWrong v_allWorn v_z v_wishedField v_isFound v_bestWrong v_bestWorn v_bestMany v_soughtBy v_sought v_soughtAt v_foundMany v_foundOrder v_isKept v_imageRows v_imageColumns v_imageFolded v_imageWronged v_bodies v_ran v_ownKind v_ownNumber v_limit v_changeWas v_changeIs v_shapeRows v_shapeColumns v_row v_column v_below v_face v_worn v_lastBend v_tape v_text v_names v_bends v_high v_to v_pileSize v_planLine v_planWay v_way1 v_bestWay v_order1 v_placeIn v_bodyKind v_trace v_shelf v_many v_items v_carried) (wd_X9 cI cL cS cH a v_keptMany v_done v_rowsOf v_columnsOf v_folded v_wronged v_tapeMany v_textMany v_base v_at v_ends v_fault v_opened v_bentMany v_bentWrong v_moreWorn v_planned v_allWrong v_allWorn v_z v_wishedField v_isFound v_bestWrong v_bestWorn v_bestMany v_soughtBy v_sought v_soughtAt v_foundMany v_foundOrder v_isKept v_imageRows v_imageColumns v_imageFolded v_imageWronged v_bodies w_ran v_ownKind v_ownNumber v_limit v_changeWas v_changeIs v_shapeRows v_shapeColumns v_row v_column v_below v_face v_worn v_lastBend v_tape v_text v_names v_bends v_high v_to v_pileSize v_planLine v_planWay v_way1 v_bestWay v_order1 v_placeIn v_bodyKind w_trace v_shelf v_many v_items v_carried) (some (.int r)) := by
  refine mm_of (by decide) (Nat.le_of_ble_eq_true rfl) ?_
  intro p e s m args below meth c A H locs ls C0 hP hD hA hS hl
  have C0 : mm_Cx p s m args meth c RX9 cX9_tellsAs 4 (some .int) D (mm_T cI cL cS cH) A := C0
  obtain ⟨hx, hb, hml, hown, hts, hr, hlocks, hK, hSt⟩ := id C0
  have hl : lv_has ls 4 [(0, .ref (a 0)), (1, .int x1), (2, .int x2)] := hl
  unfold fX9_tellsAso at hf
  refine lv_iload_n hx hb dX9_tellsAs_0 rfl (lv_at hl 1 rfl) ?_
  refine lv_iconst (v := 5) hx hb dX9_tellsAs_1 (by decide) ?_
  refine lv_icmp_ne (tgt := 20) hx hb dX9_tellsAs_2 (by decide) (fun c_1 => ?_) (fun c_1 => ?_)
  · have hf := mm_in hf c_1
    refine lv_iload_n hx hb dX9_tellsAs_20 rfl (lv_at hl 1 rfl) ?_
    refine lv_bipush (v := 7) hx hb dX9_tellsAs_21 (by decide) ?_
    refine lv_icmp_ne (tgt := 41) hx hb dX9_tellsAs_23 (by decide) (fun c_2 => ?_) (fun c_2 => ?_)
    · have hf := mm_in hf c_2
      refine lv_aload_n hx hb dX9_tellsAs_41 rfl (lv_at hl 0 rfl) ?_
      refine lv_iconst (v := 2) hx hb dX9_tellsAs_42 (by decide) ?_
      obtain ⟨w_3, w_4, hc_5, hf⟩ := mm_bd2s hf
      refine mm_callVF (q0 := 0) (ci := 9) (rest := []) C0 lk_X9_401 (ctX9_begins (a := a) (d := d - 1) (by omega) hc_5) (by omega) rfl hl.1 rfl (mm_cat rfl) dX9_tellsAs_43 hP hD hA hS rfl rfl (fun H locs hP hD hS => ?_)
      refine W.eq (g2 := F0 m 46 ls []) rfl ?_
      refine lv_aload_n hx hb dX9_tellsAs_46 rfl (lv_at hl 0 rfl) ?_
      refine lv_aload_n hx hb dX9_tellsAs_47 rfl (lv_at hl 0 rfl) ?_
      refine mm_get C0 hP iw_X9 0 rfl rfl 63 (by decide) fl_X9_413 rfl dX9_tellsAs_48 ?_
      refine lv_iload_n hx hb dX9_tellsAs_51 rfl (lv_at hl 2 rfl) ?_
      obtain ⟨r_6, w_7, w_8, hc_9, hf⟩ := mm_bd3s hf
      refine mm_callVF (q0 := 0) (ci := 9) (rest := []) C0 lk_X9_410 (ctX9_laysAs (N := N) 5 (d - 1) (by omega) a _ _ _ _ _ _ _ _ _ _ _ _ _ _ _ _ _ _ _ _ _ _ _ _ _ _ _ _ _ _ _ _ _ _ _ _ _ _ _ _ _ _ _ _ _ _ _ _ _ _ _ _ _ _ _ _ _ _ _ _ _ _ _ _ _ _ _ _ _ _ _ _ _ _ hc_9) (by omega) rfl hl.1 rfl (mm_cat rfl) dX9_tellsAs_52 hP hD hA hS rfl rfl (fun H locs hP hD hS => ?_)
      refine W.eq (g2 := F0 m 55 ls [.int r_6]) rfl ?_
      refine lv_istore_n (lv' := [(3, .int r_6), (0, .ref (a 0)), (1, .int x1), (2, .int x2)]) hx hb dX9_tellsAs_55 rfl hl (by decide) rfl (fun ls hl => ?_)
      refine lv_iload_n hx hb dX9_tellsAs_56 rfl (lv_at hl 0 rfl) ?_
      refine lv_aload_n hx hb dX9_tellsAs_57 rfl (lv_at hl 1 rfl) ?_
      refine lv_aload_n hx hb dX9_tellsAs_58 rfl (lv_at hl 1 rfl) ?_
      refine mm_get C0 hP iw_X9 0 rfl rfl 63 (by decide) fl_X9_413 rfl dX9_tellsAs_59 ?_
      refine lv_iconst (v := 1) hx hb dX9_tellsAs_62 (by decide) ?_
      obtain ⟨r_10, w_11, w_12, hc_13, hf⟩ := mm_bd3s hf
      refine mm_callVF (q0 := 0) (ci := 9) (rest := [.int r_6]) C0 lk_X9_416 (ctX9_wearsAs (N := N) 4 (d - 1) (by omega) a _ _ _ _ _ _ _ _ _ _ _ _ _ _ _ _ _ _ _ _ _ _ _ _ _ _ _ _ _ _ _ _ _ _ _ _ _ _ _ _ _ _ _ _ _ _ _ _ _ _ _ _ _ _ _ _ _ _ _ _ _ _ _ _ _ _ _ _ _ _ _ _ _ _ hc_13) (by omega) rfl hl.1 rfl (mm_cat rfl) dX9_tellsAs_63 hP hD hA hS rfl rfl (fun H locs hP hD hS => ?_)
      refine W.eq (g2 := F0 m 66 ls [.int r_10, .int r_6]) rfl ?_
      refine lv_isub hx hb dX9_tellsAs_66 ?_
      apply mm_sub3 hf
      exact mm_iret C0 hP hD hS dX9_tellsAs_67
    · have hf := mm_ip hf c_2
      refine lv_aload_n hx hb dX9_tellsAs_26 rfl (lv_at hl 0 rfl) ?_
      refine lv_bipush (v := 81) hx hb dX9_tellsAs_27 (by decide) ?_
      obtain ⟨w_14, w_15, hc_16, hf⟩ := mm_bd2s hf
      refine mm_callVF (q0 := 0) (ci := 9) (rest := []) C0 lk_X9_401 (ctX9_begins (a := a) (d := d - 1) (by omega) hc_16) (by omega) rfl hl.1 rfl (mm_cat rfl) dX9_tellsAs_29 hP hD hA hS rfl rfl (fun H locs hP hD hS => ?_)
      refine W.eq (g2 := F0 m 32 ls []) rfl ?_
      refine lv_aload_n hx hb dX9_tellsAs_32 rfl (lv_at hl 0 rfl) ?_
      refine lv_iconst (v := 4) hx hb dX9_tellsAs_33 (by decide) ?_
      refine lv_iload_n hx hb dX9_tellsAs_34 rfl (lv_at hl 2 rfl) ?_
      obtain ⟨r_17, w_18, w_19, hc_20, hf⟩ := mm_bd3s hf
      refine mm_callVF (q0 := 0) (ci := 9) (rest := []) C0 lk_X9_419 (hgo a _ _ _ _ _ _ _ _ _ _ _ _ _ _ _ _ _ _ _ _ _ _ _ _ _ _ _ _ _ _ _ _ _ _ _ _ _ _ _ _ _ _ _ _ _ _ _ _ _ _ _ _ _ _ _ _ _ _ _ _ _ _ _ _ _ _ _ _ _ _ _ _ _ _ hc_20) (by omega) rfl hl.1 rfl (mm_cat rfl) dX9_tellsAs_35 hP hD hA hS rfl rfl (fun H locs hP hD hS => ?_)
      refine W.eq (g2 := F0 m 38 ls [.int r_17]) rfl ?_
      refine lv_iconst (v := 1) hx hb dX9_tellsAs_38 (by decide) ?_
      refine lv_isub hx hb dX9_tellsAs_39 ?_
      apply mm_sub3 hf
      exact mm_iret C0 hP hD hS dX9_tellsAs_40
  · have hf := mm_ip hf c_1
    refine lv_aload_n hx hb dX9_tellsAs_5 rfl (lv_at hl 0 rfl) ?_
    refine lv_bipush (v := 60) hx hb dX9_tellsAs_6 (by decide) ?_
    obtain ⟨w_21, w_22, hc_23, hf⟩ := mm_bd2s hf
    refine mm_callVF (q0 := 0) (ci := 9) (rest := []) C0 lk_X9_401 (ctX9_begins (a := a) (d := d - 1) (by omega) hc_23) (by omega) rfl hl.1 rfl (mm_cat rfl) dX9_tellsAs_8 hP hD hA hS rfl rfl (fun H locs hP hD hS => ?_)
    refine W.eq (g2 := F0 m 11 ls []) rfl ?_
    refine lv_aload_n hx hb dX9_tellsAs_11 rfl (lv_at hl 0 rfl) ?_
    refine lv_iconst (v := 3) hx hb dX9_tellsAs_12 (by decide) ?_
    refine lv_iload_n hx hb dX9_tellsAs_13 rfl (lv_at hl 2 rfl) ?_
    obtain ⟨r_24, w_25, w_26, hc_27, hf⟩ := mm_bd3s hf
    refine mm_callVF (q0 := 0) (ci := 9) (rest := []) C0 lk_X9_419 (hgo a _ _ _ _ _ _ _ _ _ _ _ _ _ _ _ _ _ _ _ _ _ _ _ _ _ _ _ _ _ _ _ _ _ _ _ _ _ _ _ _ _ _ _ _ _ _ _ _ _ _ _ _ _ _ _ _ _ _ _ _ _ _ _ _ _ _ _ _ _ _ _ _ _ _ hc_27) (by omega) rfl hl.1 rfl (mm_cat rfl) dX9_tellsAs_14 hP hD hA hS rfl rfl (fun H locs hP hD hS => ?_)
    refine W.eq (g2 := F0 m 17 ls [.int r_24]) rfl ?_
    refine lv_iconst (v := 5) hx hb dX9_tellsAs_17 (by decide) ?_
    refine lv_ixor hx hb dX9_tellsAs_18 ?_
    apply mm_sub3 hf
    exact mm_iret C0 hP hD hS dX9_tellsAs_19

def fX9_tellsAs (N : Nat) : Nat → Int32 → Int32 → Int32 → Int32 → Int32 → List Int32 → Option (Int32 × Int32 × List Int32)
  | 0 => fun _ _ _ _ _ _ => none
  | M + 1 => fX9_tellsAso N (fX9_tellsAs N M)
set_option maxHeartbeats 4000000 in
set_option maxRecDepth 100000 in
theorem ctX9_tellsAs {l : Launch} {D : va_G} {cI cL cS cH : ClassId} {N : Nat} : ∀ (M d : Nat), 14 + 1 * M ≤ d → ∀ (a : Nat → Nat) (x1 : Int32) (x2 : Int32) (v_keptMany : Int32) (v_done : Int32) (v_rowsOf : Int32) (v_columnsOf : Int32) (v_folded : Int32) (v_wronged : Int32) (v_tapeMany : Int32) (v_textMany : Int32) (v_base : Int32) (v_at : Int32) (v_ends : Int32) (v_fault : Int32) (v_opened : Int32) (v_bentMany : Int32) (v_bentWrong : Int32) (v_moreWorn : Int32) (v_planned : Int32) (v_allWrong : Int32) (v_allWorn : Int32) (v_z : Int32) (v_wishedField : Int32) (v_isFound : Bool) (v_bestWrong : Int32) (v_bestWorn : Int32) (v_bestMany : Int32) (v_soughtBy : Int32) (v_sought : Int32) (v_soughtAt : Int32) (v_foundMany : Int32) (v_foundOrder : Int32) (v_isKept : Bool) (v_imageRows : Int32) (v_imageColumns : Int32) (v_imageFolded : Int32) (v_imageWronged : Int32) (v_bodies : Int32) (v_ran : Int32) (v_ownKind : Int32) (v_ownNumber : Int32) (v_limit : List Int32) (v_changeWas : List Int32) (v_changeIs : List Int32) (v_shapeRows : List Int32) (v_shapeColumns : List Int32) (v_row : List Int32) (v_column : List Int32) (v_below : List Int32) (v_face : List Int32) (v_worn : List Int32) (v_lastBend : List Int32) (v_tape : List Int32) (v_text : List Int32) (v_names : List Int32) (v_bends : List Int32) (v_high : List Int32) (v_to : List Int32) (v_pileSize : List Int32) (v_planLine : List Int32) (v_planWay : List Int32) (v_way1 : List Int32) (v_bestWay : List Int32) (v_order1 : List Int32) (v_placeIn : List Int32) (v_bodyKind : List Int32) (v_trace : List Int32) (v_shelf : List Int32) (v_many : List Int32) (v_items : List Int64) (v_carried : List Int64) (r : Int32) (w_ran : Int32) (w_trace : List Int32), fX9_tellsAs N M x1 x2 v_ran v_ownKind v_ownNumber v_trace = some (r, w_ran, w_trace) → mm_Ct l yX9_tellsAs cX9_tellsAs 4 (some .int) d D (mm_T cI cL cS cH) [.ref (a 0), .int x1, .int x2] (wd_X9 cI cL cS cH a v_keptMany v_done v_rowsOf v_columnsOf v_folded v_wronged v_tapeMany v_textMany v_base v_at v_ends v_fault v_opened v_bentMany v_bentWrong v_moreWorn v_planned v_allWrong v_allWorn v_z v_wishedField v_isFound v_bestWrong v_bestWorn v_bestMany v_soughtBy v_sought v_soughtAt v_foundMany v_foundOrder v_isKept v_imageRows v_imageColumns v_imageFolded v_imageWronged v_bodies v_ran v_ownKind v_ownNumber v_limit v_changeWas v_changeIs v_shapeRows v_shapeColumns v_row v_column v_below v_face v_worn v_lastBend v_tape v_text v_names v_bends v_high v_to v_pileSize v_planLine v_planWay v_way1 v_bestWay v_order1 v_placeIn v_bodyKind v_trace v_shelf v_many v_items v_carried) (wd_X9 cI cL cS cH a v_keptMany v_done v_rowsOf v_columnsOf v_folded v_wronged v_tapeMany v_textMany v_base v_at v_ends v_fault v_opened v_bentMany v_bentWrong v_moreWorn v_planned v_allWrong v_allWorn v_z v_wishedField v_isFound v_bestWrong v_bestWorn v_bestMany v_soughtBy v_sought v_soughtAt v_foundMany v_foundOrder v_isKept v_imageRows v_imageColumns v_imageFolded v_imageWronged v_bodies w_ran v_ownKind v_ownNumber v_limit v_changeWas v_changeIs v_shapeRows v_shapeColumns v_row v_column v_below v_face v_worn v_lastBend v_tape v_text v_names v_bends v_high v_to v_pileSize v_planLine v_planWay v_way1 v_bestWay v_order1 v_placeIn v_bodyKind w_trace v_shelf v_many v_items v_carried) (some (.int r)) := by
  intro M
  induction M with
  | zero =>
    intro d hd a x1 x2 v_keptMany v_done v_rowsOf v_columnsOf v_folded v_wronged v_tapeMany v_textMany v_base v_at v_ends v_fault v_opened v_bentMany v_bentWrong v_moreWorn v_planned v_allWrong v_allWorn v_z v_wishedField v_isFound v_bestWrong v_bestWorn v_bestMany v_soughtBy v_sought v_soughtAt v_foundMany v_foundOrder v_isKept v_imageRows v_imageColumns v_imageFolded v_imageWronged v_bodies v_ran v_ownKind v_ownNumber v_limit v_changeWas v_changeIs v_shapeRows v_shapeColumns v_row v_column v_below v_face v_worn v_lastBend v_tape v_text v_names v_bends v_high v_to v_pileSize v_planLine v_planWay v_way1 v_bestWay v_order1 v_placeIn v_bodyKind v_trace v_shelf v_many v_items v_carried r w_ran w_trace hf
    cases (show none = some _ from hf)
  | succ M ih =>
    intro d hd a x1 x2 v_keptMany v_done v_rowsOf v_columnsOf v_folded v_wronged v_tapeMany v_textMany v_base v_at v_ends v_fault v_opened v_bentMany v_bentWrong v_moreWorn v_planned v_allWrong v_allWorn v_z v_wishedField v_isFound v_bestWrong v_bestWorn v_bestMany v_soughtBy v_sought v_soughtAt v_foundMany v_foundOrder v_isKept v_imageRows v_imageColumns v_imageFolded v_imageWronged v_bodies v_ran v_ownKind v_ownNumber v_limit v_changeWas v_changeIs v_shapeRows v_shapeColumns v_row v_column v_below v_face v_worn v_lastBend v_tape v_text v_names v_bends v_high v_to v_pileSize v_planLine v_planWay v_way1 v_bestWay v_order1 v_placeIn v_bodyKind v_trace v_shelf v_many v_items v_carried r w_ran w_trace hf
    exact ctX9_tellsAso (N := N) (ih (14 + 1 * M) (Nat.le_refl _)) (Nat.le_add_right _ _) (by omega) hf

theorem nb_dX9_act_0 : bls_w cX9_act [(0, [42]), (1, [3]), (2, [181, 1, 142]), (5, [42]), (6, [27]), (7, [182, 1, 166]), (10, [154, 0, 5]), (13, [3]), (14, [172]), (15, [42]), (16, [42]), (17, [180, 0, 82])] := bls_of (by decide +kernel)
theorem dX9_act_0 : decode cX9_act 0 = .ok (.aload_n 0, 1) := op_42 nb_dX9_act_0.1
theorem dX9_act_1 : decode cX9_act 1 = .ok (.iconst 0, 1) := op_3 nb_dX9_act_0.2.1
set_option maxRecDepth 100000 in
theorem dX9_act_2 : decode cX9_act 2 = .ok (.putfield 398, 3) := (op_181 nb_dX9_act_0.2.2.1).trans rfl
theorem dX9_act_5 : decode cX9_act 5 = .ok (.aload_n 0, 1) := op_42 nb_dX9_act_0.2.2.2.1
theorem dX9_act_6 : decode cX9_act 6 = .ok (.iload_n 1, 1) := op_27 nb_dX9_act_0.2.2.2.2.1
set_option maxRecDepth 100000 in
theorem dX9_act_7 : decode cX9_act 7 = .ok (.invokevirtual 422, 3) := (op_182 nb_dX9_act_0.2.2.2.2.2.1).trans rfl
set_option maxRecDepth 100000 in
theorem dX9_act_10 : decode cX9_act 10 = .ok (.ifCond .ne 5, 3) := (op_154 nb_dX9_act_0.2.2.2.2.2.2.1).trans rfl
theorem dX9_act_13 : decode cX9_act 13 = .ok (.iconst 0, 1) := op_3 nb_dX9_act_0.2.2.2.2.2.2.2.1
theorem dX9_act_14 : decode cX9_act 14 = .ok (.ireturn, 1) := op_172 nb_dX9_act_0.2.2.2.2.2.2.2.2.1
theorem dX9_act_15 : decode cX9_act 15 = .ok (.aload_n 0, 1) := op_42 nb_dX9_act_0.2.2.2.2.2.2.2.2.2.1
theorem dX9_act_16 : decode cX9_act 16 = .ok (.aload_n 0, 1) := op_42 nb_dX9_act_0.2.2.2.2.2.2.2.2.2.2.1
set_option maxRecDepth 100000 in
theorem dX9_act_17 : decode cX9_act 17 = .ok (.getfield 82, 3) := (op_180 nb_dX9_act_0.2.2.2.2.2.2.2.2.2.2.2.1).trans rfl
theorem dX9_act_31 : decode cX9_act 31 = .ok (.tableswitch 69 0 3 #[29, 39, 49, 59], 29) := by decide +kernel
theorem nb_dX9_act_20 : bls_w cX9_act [(20, [27]), (21, [46]), (22, [181, 1, 157]), (25, [42]), (26, [27]), (27, [181, 1, 151]), (30, [28]), (60, [42]), (61, [42]), (62, [180, 1, 157]), (65, [29]), (66, [182, 1, 148])] := bls_of (by decide +kernel)
theorem dX9_act_20 : decode cX9_act 20 = .ok (.iload_n 1, 1) := op_27 nb_dX9_act_20.1
theorem dX9_act_21 : decode cX9_act 21 = .ok (.iaload, 1) := op_46 nb_dX9_act_20.2.1
set_option maxRecDepth 100000 in
theorem dX9_act_22 : decode cX9_act 22 = .ok (.putfield 413, 3) := (op_181 nb_dX9_act_20.2.2.1).trans rfl
theorem dX9_act_25 : decode cX9_act 25 = .ok (.aload_n 0, 1) := op_42 nb_dX9_act_20.2.2.2.1
theorem dX9_act_26 : decode cX9_act 26 = .ok (.iload_n 1, 1) := op_27 nb_dX9_act_20.2.2.2.2.1
set_option maxRecDepth 100000 in
theorem dX9_act_27 : decode cX9_act 27 = .ok (.putfield 407, 3) := (op_181 nb_dX9_act_20.2.2.2.2.2.1).trans rfl
theorem dX9_act_30 : decode cX9_act 30 = .ok (.iload_n 2, 1) := op_28 nb_dX9_act_20.2.2.2.2.2.2.1
theorem dX9_act_60 : decode cX9_act 60 = .ok (.aload_n 0, 1) := op_42 nb_dX9_act_20.2.2.2.2.2.2.2.1
theorem dX9_act_61 : decode cX9_act 61 = .ok (.aload_n 0, 1) := op_42 nb_dX9_act_20.2.2.2.2.2.2.2.2.1
set_option maxRecDepth 100000 in
theorem dX9_act_62 : decode cX9_act 62 = .ok (.getfield 413, 3) := (op_180 nb_dX9_act_20.2.2.2.2.2.2.2.2.2.1).trans rfl
theorem dX9_act_65 : decode cX9_act 65 = .ok (.iload_n 3, 1) := op_29 nb_dX9_act_20.2.2.2.2.2.2.2.2.2.2.1
set_option maxRecDepth 100000 in
theorem dX9_act_66 : decode cX9_act 66 = .ok (.invokevirtual 404, 3) := (op_182 nb_dX9_act_20.2.2.2.2.2.2.2.2.2.2.2.1).trans rfl
theorem nb_dX9_act_69 : bls_w cX9_act [(69, [172]), (70, [42]), (71, [42]), (72, [180, 1, 157]), (75, [29]), (76, [182, 1, 154]), (79, [172]), (80, [42]), (81, [42]), (82, [180, 1, 157]), (85, [29]), (86, [182, 1, 160])] := bls_of (by decide +kernel)
theorem dX9_act_69 : decode cX9_act 69 = .ok (.ireturn, 1) := op_172 nb_dX9_act_69.1
theorem dX9_act_70 : decode cX9_act 70 = .ok (.aload_n 0, 1) := op_42 nb_dX9_act_69.2.1
theorem dX9_act_71 : decode cX9_act 71 = .ok (.aload_n 0, 1) := op_42 nb_dX9_act_69.2.2.1
set_option maxRecDepth 100000 in
theorem dX9_act_72 : decode cX9_act 72 = .ok (.getfield 413, 3) := (op_180 nb_dX9_act_69.2.2.2.1).trans rfl
theorem dX9_act_75 : decode cX9_act 75 = .ok (.iload_n 3, 1) := op_29 nb_dX9_act_69.2.2.2.2.1
set_option maxRecDepth 100000 in
theorem dX9_act_76 : decode cX9_act 76 = .ok (.invokevirtual 410, 3) := (op_182 nb_dX9_act_69.2.2.2.2.2.1).trans rfl
theorem dX9_act_79 : decode cX9_act 79 = .ok (.ireturn, 1) := op_172 nb_dX9_act_69.2.2.2.2.2.2.1
theorem dX9_act_80 : decode cX9_act 80 = .ok (.aload_n 0, 1) := op_42 nb_dX9_act_69.2.2.2.2.2.2.2.1
theorem dX9_act_81 : decode cX9_act 81 = .ok (.aload_n 0, 1) := op_42 nb_dX9_act_69.2.2.2.2.2.2.2.2.1
set_option maxRecDepth 100000 in
theorem dX9_act_82 : decode cX9_act 82 = .ok (.getfield 413, 3) := (op_180 nb_dX9_act_69.2.2.2.2.2.2.2.2.2.1).trans rfl
theorem dX9_act_85 : decode cX9_act 85 = .ok (.iload_n 3, 1) := op_29 nb_dX9_act_69.2.2.2.2.2.2.2.2.2.2.1
set_option maxRecDepth 100000 in
theorem dX9_act_86 : decode cX9_act 86 = .ok (.invokevirtual 416, 3) := (op_182 nb_dX9_act_69.2.2.2.2.2.2.2.2.2.2.2.1).trans rfl
theorem nb_dX9_act_89 : bls_w cX9_act [(89, [172]), (90, [42]), (91, [42]), (92, [180, 1, 157]), (95, [29]), (96, [182, 1, 163]), (99, [172]), (100, [3]), (101, [172])] := bls_of (by decide +kernel)
theorem dX9_act_89 : decode cX9_act 89 = .ok (.ireturn, 1) := op_172 nb_dX9_act_89.1
theorem dX9_act_90 : decode cX9_act 90 = .ok (.aload_n 0, 1) := op_42 nb_dX9_act_89.2.1
theorem dX9_act_91 : decode cX9_act 91 = .ok (.aload_n 0, 1) := op_42 nb_dX9_act_89.2.2.1
set_option maxRecDepth 100000 in
theorem dX9_act_92 : decode cX9_act 92 = .ok (.getfield 413, 3) := (op_180 nb_dX9_act_89.2.2.2.1).trans rfl
theorem dX9_act_95 : decode cX9_act 95 = .ok (.iload_n 3, 1) := op_29 nb_dX9_act_89.2.2.2.2.1
set_option maxRecDepth 100000 in
theorem dX9_act_96 : decode cX9_act 96 = .ok (.invokevirtual 419, 3) := (op_182 nb_dX9_act_89.2.2.2.2.2.1).trans rfl
theorem dX9_act_99 : decode cX9_act 99 = .ok (.ireturn, 1) := op_172 nb_dX9_act_89.2.2.2.2.2.2.1
theorem dX9_act_100 : decode cX9_act 100 = .ok (.iconst 0, 1) := op_3 nb_dX9_act_89.2.2.2.2.2.2.2.1
theorem dX9_act_101 : decode cX9_act 101 = .ok (.ireturn, 1) := op_172 nb_dX9_act_89.2.2.2.2.2.2.2.2.1
def fX9_act (N : Nat) (x1 : Int32) (x2 : Int32) (x3 : Int32) (v_bodies : Int32) (v_ran : Int32) (v_ownKind : Int32) (v_ownNumber : Int32) (v_bodyKind : List Int32) (v_trace : List Int32) : Option (Int32 × Int32 × Int32 × Int32 × List Int32) :=
    mm_bd1 (fX9_isBody N x1 v_bodies) (fun (r_1 : Bool) =>
    if r_1 = false then
    (some ((0 : Int32), (0 : Int32), v_ownKind, v_ownNumber, v_trace))
    else (mm_ck (mm_inb x1 v_bodyKind.length) (mm_nm ((mm_ig v_bodyKind x1)) (fun (y_5 : Int32) =>
    if x2 = (0 : Int32) then
    (mm_bd3 (fX9_foldsAs N 4 y_5 x3 (0 : Int32) x1 v_trace) (fun (r_7 : Int32) (w_8 : Int32) (w_9 : List Int32) =>
    some (r_7, w_8, y_5, x1, w_9)))
    else (if x2 = (1 : Int32) then
    (mm_bd3 (fX9_laysAs N 5 y_5 x3 (0 : Int32) y_5 x1 v_trace) (fun (r_12 : Int32) (w_13 : Int32) (w_14 : List Int32) =>
    some (r_12, w_13, y_5, x1, w_14)))
    else (if x2 = (2 : Int32) then
    (mm_bd3 (fX9_wearsAs N 4 y_5 x3 (0 : Int32) y_5 x1 v_trace) (fun (r_17 : Int32) (w_18 : Int32) (w_19 : List Int32) =>
    some (r_17, w_18, y_5, x1, w_19)))
    else (if x2 = (3 : Int32) then
    (mm_bd3 (fX9_tellsAs N 4 y_5 x3 (0 : Int32) y_5 x1 v_trace) (fun (r_22 : Int32) (w_23 : Int32) (w_24 : List Int32) =>
    some (r_22, w_23, y_5, x1, w_24)))
    else (some ((0 : Int32), (0 : Int32), y_5, x1, v_trace)))))))))

set_option maxHeartbeats 4000000 in
set_option maxRecDepth 100000 in
theorem ctX9_act {l : Launch} {D : va_G} {cI cL cS cH : ClassId} {a : Nat → Nat} {x1 : Int32} {x2 : Int32} {x3 : Int32} {v_keptMany : Int32} {v_done : Int32} {v_rowsOf : Int32} {v_columnsOf : Int32} {v_folded : Int32} {v_wronged : Int32} {v_tapeMany : Int32} {v_textMany : Int32} {v_base : Int32} {v_at : Int32} {v_ends : Int32} {v_fault : Int32} {v_opened : Int32} {v_bentMany : Int32} {v_bentWrong : Int32} {v_moreWorn : Int32} {v_planned : Int32} {v_allWrong : Int32} {v_allWorn : Int32} {v_z : Int32} {v_wishedField : Int32} {v_isFound : Bool} {v_bestWrong : Int32} {v_bestWorn : Int32} {v_bestMany : Int32} {v_soughtBy : Int32} {v_sought : Int32} {v_soughtAt : Int32} {v_foundMany : Int32} {v_foundOrder : Int32} {v_isKept : Bool} {v_imageRows : Int32} {v_imageColumns : Int32} {v_imageFolded : Int32} {v_imageWronged : Int32} {v_bodies : Int32} {v_ran : Int32} {v_ownKind : Int32} {v_ownNumber : Int32} {v_limit : List Int32} {v_changeWas : List Int32} {v_changeIs : List Int32} {v_shapeRows : List Int32} {v_shapeColumns : List Int32} {v_row : List Int32} {v_column : List Int32} {v_below : List Int32} {v_face : List Int32} {v_worn : List Int32} {v_lastBend : List Int32} {v_tape : List Int32} {v_text : List Int32} {v_names : List Int32} {v_bends : List Int32} {v_high : List Int32} {v_to : List Int32} {v_pileSize : List Int32} {v_planLine : List Int32} {v_planWay : List Int32} {v_way1 : List Int32} {v_bestWay : List Int32} {v_order1 : List Int32} {v_placeIn : List Int32} {v_bodyKind : List Int32} {v_trace : List Int32} {v_shelf : List Int32} {v_many : List Int32} {v_items : List Int64} {v_carried : List Int64} {r : Int32} {w_ran : Int32} {w_ownKind : Int32} {w_ownNumber : Int32} {w_trace : List Int32} {N d : Nat} (hd : 19 ≤ d) (hf : fX9_act N x1 x2 x3 v_bodies v_ran v_ownKind v_ownNumber v_bodyKind v_trace = some (r, w_ran, w_ownKind, w_ownNumber, w_trace)) : mm_Ct l yX9_act cX9_act 4 (some .int) d D (mm_T cI cL cS cH) [.ref (a 0), .int x1, .int x2, .int x3] (wd_X9 cI cL cS cH a v_keptMany v_done v_rowsOf v_columnsOf v_folded v_wronged v_tapeMany v_textMany v_base v_at v_ends v_fault v_opened v_bentMany v_bentWrong v_moreWorn v_planned v_allWrong v_allWorn v_z v_wishedField v_isFound v_bestWrong v_bestWorn v_bestMany v_soughtBy v_sought v_soughtAt v_foundMany v_foundOrder v_isKept v_imageRows v_imageColumns v_imageFolded v_imageWronged v_bodies v_ran v_ownKind v_ownNumber v_limit v_changeWas v_changeIs v_shapeRows v_shapeColumns v_row v_column v_below v_face v_worn v_lastBend v_tape v_text v_names v_bends v_high v_to v_pileSize v_planLine v_planWay v_way1 v_bestWay v_order1 v_placeIn v_bodyKind v_trace v_shelf v_many v_items v_carried) (wd_X9 cI cL cS cH a v_keptMany v_done v_rowsOf v_columnsOf v_folded v_wronged v_tapeMany v_textMany v_base v_at v_ends v_fault v_opened v_bentMany v_bentWrong v_moreWorn v_planned v_allWrong v_allWorn v_z v_wishedField v_isFound v_bestWrong v_bestWorn v_bestMany v_soughtBy v_sought v_soughtAt v_foundMany v_foundOrder v_isKept v_imageRows v_imageColumns v_imageFolded v_imageWronged v_bodies w_ran w_ownKind w_ownNumber v_limit v_changeWas v_changeIs v_shapeRows v_shapeColumns v_row v_column v_below v_face v_worn v_lastBend v_tape v_text v_names v_bends v_high v_to v_pileSize v_planLine v_planWay v_way1 v_bestWay v_order1 v_placeIn v_bodyKind w_trace v_shelf v_many v_items v_carried) (some (.int r)) := by
  refine mm_of (by decide) (Nat.le_of_ble_eq_true rfl) ?_
  intro p e s m args below meth c A H locs ls C0 hP hD hA hS hl
  have C0 : mm_Cx p s m args meth c RX9 cX9_act 4 (some .int) D (mm_T cI cL cS cH) A := C0
  obtain ⟨hx, hb, hml, hown, hts, hr, hlocks, hK, hSt⟩ := id C0
  have hl : lv_has ls 4 [(0, .ref (a 0)), (1, .int x1), (2, .int x2), (3, .int x3)] := hl
  unfold fX9_act at hf
  refine lv_aload_n hx hb dX9_act_0 rfl (lv_at hl 0 rfl) ?_
  refine lv_iconst (v := 0) hx hb dX9_act_1 (by decide) ?_
  refine mm_put C0 hP hD hS iw_X9 tyX9 tyX9_ok nmX9 0 rfl rfl 62 (by decide) fl_X9_398 rfl rfl rfl (Nat.le_of_ble_eq_true rfl) dX9_act_2 (w2 := (wd_X9 cI cL cS cH a v_keptMany v_done v_rowsOf v_columnsOf v_folded v_wronged v_tapeMany v_textMany v_base v_at v_ends v_fault v_opened v_bentMany v_bentWrong v_moreWorn v_planned v_allWrong v_allWorn v_z v_wishedField v_isFound v_bestWrong v_bestWorn v_bestMany v_soughtBy v_sought v_soughtAt v_foundMany v_foundOrder v_isKept v_imageRows v_imageColumns v_imageFolded v_imageWronged v_bodies (0 : Int32) v_ownKind v_ownNumber v_limit v_changeWas v_changeIs v_shapeRows v_shapeColumns v_row v_column v_below v_face v_worn v_lastBend v_tape v_text v_names v_bends v_high v_to v_pileSize v_planLine v_planWay v_way1 v_bestWay v_order1 v_placeIn v_bodyKind v_trace v_shelf v_many v_items v_carried)) rfl (fun H locs hP hD hS => ?_)
  refine lv_aload_n hx hb dX9_act_5 rfl (lv_at hl 0 rfl) ?_
  refine lv_iload_n hx hb dX9_act_6 rfl (lv_at hl 1 rfl) ?_
  obtain ⟨r_1, hc_2, hf⟩ := mm_bd1s hf
  refine mm_callVF (q0 := 0) (ci := 9) (rest := []) C0 lk_X9_422 (ctX9_isBody (a := a) (d := d - 1) (by omega) hc_2) (by omega) rfl hl.1 rfl (mm_cat rfl) dX9_act_7 hP hD hA hS rfl rfl (fun H locs hP hD hS => ?_)
  refine W.eq (g2 := F0 m 10 ls [.int (mm_b r_1)]) rfl ?_
  refine lv_if_ne (tgt := 15) hx hb dX9_act_10 (by decide) (fun c_3 => ?_) (fun c_3 => ?_)
  · have hf := mm_in hf (mm_b1 c_3)
    refine lv_aload_n hx hb dX9_act_15 rfl (lv_at hl 0 rfl) ?_
    refine lv_aload_n hx hb dX9_act_16 rfl (lv_at hl 0 rfl) ?_
    refine mm_get C0 hP iw_X9 0 rfl rfl 60 (by decide) fl_X9_82 rfl dX9_act_17 ?_
    refine lv_iload_n hx hb dX9_act_20 rfl (lv_at hl 1 rfl) ?_
    obtain ⟨h_4, hf⟩ := mm_cks hf
    refine mm_iald C0 hP 25 rfl h_4 dX9_act_21 ?_
    refine lv_topi (fun y_5 ey_5 => ?_)
    have hf := mm_nms hf ey_5
    refine mm_put C0 hP hD hS iw_X9 tyX9 tyX9_ok nmX9 0 rfl rfl 63 (by decide) fl_X9_413 rfl rfl rfl (Nat.le_of_ble_eq_true rfl) dX9_act_22 (w2 := (wd_X9 cI cL cS cH a v_keptMany v_done v_rowsOf v_columnsOf v_folded v_wronged v_tapeMany v_textMany v_base v_at v_ends v_fault v_opened v_bentMany v_bentWrong v_moreWorn v_planned v_allWrong v_allWorn v_z v_wishedField v_isFound v_bestWrong v_bestWorn v_bestMany v_soughtBy v_sought v_soughtAt v_foundMany v_foundOrder v_isKept v_imageRows v_imageColumns v_imageFolded v_imageWronged v_bodies (0 : Int32) y_5 v_ownNumber v_limit v_changeWas v_changeIs v_shapeRows v_shapeColumns v_row v_column v_below v_face v_worn v_lastBend v_tape v_text v_names v_bends v_high v_to v_pileSize v_planLine v_planWay v_way1 v_bestWay v_order1 v_placeIn v_bodyKind v_trace v_shelf v_many v_items v_carried)) rfl (fun H locs hP hD hS => ?_)
    refine lv_aload_n hx hb dX9_act_25 rfl (lv_at hl 0 rfl) ?_
    refine lv_iload_n hx hb dX9_act_26 rfl (lv_at hl 1 rfl) ?_
    refine mm_put C0 hP hD hS iw_X9 tyX9 tyX9_ok nmX9 0 rfl rfl 64 (by decide) fl_X9_407 rfl rfl rfl (Nat.le_of_ble_eq_true rfl) dX9_act_27 (w2 := (wd_X9 cI cL cS cH a v_keptMany v_done v_rowsOf v_columnsOf v_folded v_wronged v_tapeMany v_textMany v_base v_at v_ends v_fault v_opened v_bentMany v_bentWrong v_moreWorn v_planned v_allWrong v_allWorn v_z v_wishedField v_isFound v_bestWrong v_bestWorn v_bestMany v_soughtBy v_sought v_soughtAt v_foundMany v_foundOrder v_isKept v_imageRows v_imageColumns v_imageFolded v_imageWronged v_bodies (0 : Int32) y_5 x1 v_limit v_changeWas v_changeIs v_shapeRows v_shapeColumns v_row v_column v_below v_face v_worn v_lastBend v_tape v_text v_names v_bends v_high v_to v_pileSize v_planLine v_planWay v_way1 v_bestWay v_order1 v_placeIn v_bodyKind v_trace v_shelf v_many v_items v_carried)) rfl (fun H locs hP hD hS => ?_)
    refine lv_iload_n hx hb dX9_act_30 rfl (lv_at hl 2 rfl) ?_
    by_cases c_6 : x2 = (0 : Int32)
    · have hf := mm_ip hf c_6
      refine lv_tableIn (off := 29) (tgt := 60) hx hb dX9_act_31 (by rw [c_6]; decide) (by rw [c_6]; decide) (by rw [c_6]; first | done | rfl) (by decide) ?_
      refine lv_aload_n hx hb dX9_act_60 rfl (lv_at hl 0 rfl) ?_
      refine lv_aload_n hx hb dX9_act_61 rfl (lv_at hl 0 rfl) ?_
      refine mm_get C0 hP iw_X9 0 rfl rfl 63 (by decide) fl_X9_413 rfl dX9_act_62 ?_
      refine lv_iload_n hx hb dX9_act_65 rfl (lv_at hl 3 rfl) ?_
      obtain ⟨r_7, w_8, w_9, hc_10, hf⟩ := mm_bd3s hf
      refine mm_callVF (q0 := 0) (ci := 9) (rest := []) C0 lk_X9_404 (ctX9_foldsAs (N := N) 4 (d - 1) (by omega) a _ _ _ _ _ _ _ _ _ _ _ _ _ _ _ _ _ _ _ _ _ _ _ _ _ _ _ _ _ _ _ _ _ _ _ _ _ _ _ _ _ _ _ _ _ _ _ _ _ _ _ _ _ _ _ _ _ _ _ _ _ _ _ _ _ _ _ _ _ _ _ _ _ _ hc_10) (by omega) rfl hl.1 rfl (mm_cat rfl) dX9_act_66 hP hD hA hS rfl rfl (fun H locs hP hD hS => ?_)
      refine W.eq (g2 := F0 m 69 ls [.int r_7]) rfl ?_
      apply mm_sub5 hf
      exact mm_iret C0 hP hD hS dX9_act_69
    · have hf := mm_in hf c_6
      by_cases c_11 : x2 = (1 : Int32)
      · have hf := mm_ip hf c_11
        refine lv_tableIn (off := 39) (tgt := 70) hx hb dX9_act_31 (by rw [c_11]; decide) (by rw [c_11]; decide) (by rw [c_11]; first | done | rfl) (by decide) ?_
        refine lv_aload_n hx hb dX9_act_70 rfl (lv_at hl 0 rfl) ?_
        refine lv_aload_n hx hb dX9_act_71 rfl (lv_at hl 0 rfl) ?_
        refine mm_get C0 hP iw_X9 0 rfl rfl 63 (by decide) fl_X9_413 rfl dX9_act_72 ?_
        refine lv_iload_n hx hb dX9_act_75 rfl (lv_at hl 3 rfl) ?_
        obtain ⟨r_12, w_13, w_14, hc_15, hf⟩ := mm_bd3s hf
        refine mm_callVF (q0 := 0) (ci := 9) (rest := []) C0 lk_X9_410 (ctX9_laysAs (N := N) 5 (d - 1) (by omega) a _ _ _ _ _ _ _ _ _ _ _ _ _ _ _ _ _ _ _ _ _ _ _ _ _ _ _ _ _ _ _ _ _ _ _ _ _ _ _ _ _ _ _ _ _ _ _ _ _ _ _ _ _ _ _ _ _ _ _ _ _ _ _ _ _ _ _ _ _ _ _ _ _ _ hc_15) (by omega) rfl hl.1 rfl (mm_cat rfl) dX9_act_76 hP hD hA hS rfl rfl (fun H locs hP hD hS => ?_)
        refine W.eq (g2 := F0 m 79 ls [.int r_12]) rfl ?_
        apply mm_sub5 hf
        exact mm_iret C0 hP hD hS dX9_act_79
      · have hf := mm_in hf c_11
        by_cases c_16 : x2 = (2 : Int32)
        · have hf := mm_ip hf c_16
          refine lv_tableIn (off := 49) (tgt := 80) hx hb dX9_act_31 (by rw [c_16]; decide) (by rw [c_16]; decide) (by rw [c_16]; first | done | rfl) (by decide) ?_
          refine lv_aload_n hx hb dX9_act_80 rfl (lv_at hl 0 rfl) ?_
          refine lv_aload_n hx hb dX9_act_81 rfl (lv_at hl 0 rfl) ?_
          refine mm_get C0 hP iw_X9 0 rfl rfl 63 (by decide) fl_X9_413 rfl dX9_act_82 ?_
          refine lv_iload_n hx hb dX9_act_85 rfl (lv_at hl 3 rfl) ?_
          obtain ⟨r_17, w_18, w_19, hc_20, hf⟩ := mm_bd3s hf
          refine mm_callVF (q0 := 0) (ci := 9) (rest := []) C0 lk_X9_416 (ctX9_wearsAs (N := N) 4 (d - 1) (by omega) a _ _ _ _ _ _ _ _ _ _ _ _ _ _ _ _ _ _ _ _ _ _ _ _ _ _ _ _ _ _ _ _ _ _ _ _ _ _ _ _ _ _ _ _ _ _ _ _ _ _ _ _ _ _ _ _ _ _ _ _ _ _ _ _ _ _ _ _ _ _ _ _ _ _ hc_20) (by omega) rfl hl.1 rfl (mm_cat rfl) dX9_act_86 hP hD hA hS rfl rfl (fun H locs hP hD hS => ?_)
          refine W.eq (g2 := F0 m 89 ls [.int r_17]) rfl ?_
          apply mm_sub5 hf
          exact mm_iret C0 hP hD hS dX9_act_89
        · have hf := mm_in hf c_16
          by_cases c_21 : x2 = (3 : Int32)
          · have hf := mm_ip hf c_21
            refine lv_tableIn (off := 59) (tgt := 90) hx hb dX9_act_31 (by rw [c_21]; decide) (by rw [c_21]; decide) (by rw [c_21]; first | done | rfl) (by decide) ?_
            refine lv_aload_n hx hb dX9_act_90 rfl (lv_at hl 0 rfl) ?_
            refine lv_aload_n hx hb dX9_act_91 rfl (lv_at hl 0 rfl) ?_
            refine mm_get C0 hP iw_X9 0 rfl rfl 63 (by decide) fl_X9_413 rfl dX9_act_92 ?_
            refine lv_iload_n hx hb dX9_act_95 rfl (lv_at hl 3 rfl) ?_
            obtain ⟨r_22, w_23, w_24, hc_25, hf⟩ := mm_bd3s hf
            refine mm_callVF (q0 := 0) (ci := 9) (rest := []) C0 lk_X9_419 (ctX9_tellsAs (N := N) 4 (d - 1) (by omega) a _ _ _ _ _ _ _ _ _ _ _ _ _ _ _ _ _ _ _ _ _ _ _ _ _ _ _ _ _ _ _ _ _ _ _ _ _ _ _ _ _ _ _ _ _ _ _ _ _ _ _ _ _ _ _ _ _ _ _ _ _ _ _ _ _ _ _ _ _ _ _ _ _ _ hc_25) (by omega) rfl hl.1 rfl (mm_cat rfl) dX9_act_96 hP hD hA hS rfl rfl (fun H locs hP hD hS => ?_)
            refine W.eq (g2 := F0 m 99 ls [.int r_22]) rfl ?_
            apply mm_sub5 hf
            exact mm_iret C0 hP hD hS dX9_act_99
          · have hf := mm_in hf c_21
            refine lv_tableOut (tgt := 100) hx hb dX9_act_31 (by have nc_6 := lv_neT c_6 (a := 0) (by decide); have nc_11 := lv_neT c_11 (a := 1) (by decide); have nc_16 := lv_neT c_16 (a := 2) (by decide); have nc_21 := lv_neT c_21 (a := 3) (by decide); omega) (by decide) ?_
            refine lv_iconst (v := 0) hx hb dX9_act_100 (by decide) ?_
            apply mm_sub5 hf
            exact mm_iret C0 hP hD hS dX9_act_101
  · have hf := mm_ip hf (mm_b0 c_3)
    refine lv_iconst (v := 0) hx hb dX9_act_13 (by decide) ?_
    apply mm_sub5 hf
    exact mm_iret C0 hP hD hS dX9_act_14
end
section
/-! reference: X9_trace, X9_keep, X9_row, X9_refusal, X9_asSort, X9_put, X9_element, X9_shift -/
theorem nb_dX9_trace_0 : bls_w cX9_trace [(0, [27]), (1, [155, 0, 26]), (4, [27]), (5, [42]), (6, [180, 1, 142]), (9, [162, 0, 18]), (12, [27]), (13, [16, 24]), (15, [162, 0, 12]), (18, [42]), (19, [180, 0, 85]), (22, [27])] := bls_of (by decide +kernel)
theorem dX9_trace_0 : decode cX9_trace 0 = .ok (.iload_n 1, 1) := op_27 nb_dX9_trace_0.1
set_option maxRecDepth 100000 in
theorem dX9_trace_1 : decode cX9_trace 1 = .ok (.ifCond .lt 26, 3) := (op_155 nb_dX9_trace_0.2.1).trans rfl
theorem dX9_trace_4 : decode cX9_trace 4 = .ok (.iload_n 1, 1) := op_27 nb_dX9_trace_0.2.2.1
theorem dX9_trace_5 : decode cX9_trace 5 = .ok (.aload_n 0, 1) := op_42 nb_dX9_trace_0.2.2.2.1
set_option maxRecDepth 100000 in
theorem dX9_trace_6 : decode cX9_trace 6 = .ok (.getfield 398, 3) := (op_180 nb_dX9_trace_0.2.2.2.2.1).trans rfl
set_option maxRecDepth 100000 in
theorem dX9_trace_9 : decode cX9_trace 9 = .ok (.if_icmp .ge 18, 3) := (op_162 nb_dX9_trace_0.2.2.2.2.2.1).trans rfl
theorem dX9_trace_12 : decode cX9_trace 12 = .ok (.iload_n 1, 1) := op_27 nb_dX9_trace_0.2.2.2.2.2.2.1
set_option maxRecDepth 100000 in
theorem dX9_trace_13 : decode cX9_trace 13 = .ok (.bipush 24, 2) := (op_16 nb_dX9_trace_0.2.2.2.2.2.2.2.1).trans rfl
set_option maxRecDepth 100000 in
theorem dX9_trace_15 : decode cX9_trace 15 = .ok (.if_icmp .ge 12, 3) := (op_162 nb_dX9_trace_0.2.2.2.2.2.2.2.2.1).trans rfl
theorem dX9_trace_18 : decode cX9_trace 18 = .ok (.aload_n 0, 1) := op_42 nb_dX9_trace_0.2.2.2.2.2.2.2.2.2.1
set_option maxRecDepth 100000 in
theorem dX9_trace_19 : decode cX9_trace 19 = .ok (.getfield 85, 3) := (op_180 nb_dX9_trace_0.2.2.2.2.2.2.2.2.2.2.1).trans rfl
theorem dX9_trace_22 : decode cX9_trace 22 = .ok (.iload_n 1, 1) := op_27 nb_dX9_trace_0.2.2.2.2.2.2.2.2.2.2.2.1
theorem nb_dX9_trace_23 : bls_w cX9_trace [(23, [46]), (24, [167, 0, 4]), (27, [2]), (28, [172])] := bls_of (by decide +kernel)
theorem dX9_trace_23 : decode cX9_trace 23 = .ok (.iaload, 1) := op_46 nb_dX9_trace_23.1
set_option maxRecDepth 100000 in
theorem dX9_trace_24 : decode cX9_trace 24 = .ok (.goto 4, 3) := (op_167 nb_dX9_trace_23.2.1).trans rfl
theorem dX9_trace_27 : decode cX9_trace 27 = .ok (.iconst (-1), 1) := op_2 nb_dX9_trace_23.2.2.1
theorem dX9_trace_28 : decode cX9_trace 28 = .ok (.ireturn, 1) := op_172 nb_dX9_trace_23.2.2.2.1
def fX9_trace (N : Nat) (x1 : Int32) (v_ran : Int32) (v_trace : List Int32) : Option (Int32) :=
    if x1 < 0 then
    (some ((-1 : Int32)))
    else (if v_ran ≤ x1 then
    (some ((-1 : Int32)))
    else (if (24 : Int32) ≤ x1 then
    (some ((-1 : Int32)))
    else (mm_ck (mm_inb x1 v_trace.length) (some ((mm_ig v_trace x1))))))

set_option maxHeartbeats 4000000 in
set_option maxRecDepth 100000 in
theorem ctX9_trace {l : Launch} {D : va_G} {cI cL cS cH : ClassId} {a : Nat → Nat} {x1 : Int32} {v_keptMany : Int32} {v_done : Int32} {v_rowsOf : Int32} {v_columnsOf : Int32} {v_folded : Int32} {v_wronged : Int32} {v_tapeMany : Int32} {v_textMany : Int32} {v_base : Int32} {v_at : Int32} {v_ends : Int32} {v_fault : Int32} {v_opened : Int32} {v_bentMany : Int32} {v_bentWrong : Int32} {v_moreWorn : Int32} {v_planned : Int32} {v_allWrong : Int32} {v_allWorn : Int32} {v_z : Int32} {v_wishedField : Int32} {v_isFound : Bool} {v_bestWrong : Int32} {v_bestWorn : Int32} {v_bestMany : Int32} {v_soughtBy : Int32} {v_sought : Int32} {v_soughtAt : Int32} {v_foundMany : Int32} {v_foundOrder : Int32} {v_isKept : Bool} {v_imageRows : Int32} {v_imageColumns : Int32} {v_imageFolded : Int32} {v_imageWronged : Int32} {v_bodies : Int32} {v_ran : Int32} {v_ownKind : Int32} {v_ownNumber : Int32} {v_limit : List Int32} {v_changeWas : List Int32} {v_changeIs : List Int32} {v_shapeRows : List Int32} {v_shapeColumns : List Int32} {v_row : List Int32} {v_column : List Int32} {v_below : List Int32} {v_face : List Int32} {v_worn : List Int32} {v_lastBend : List Int32} {v_tape : List Int32} {v_text : List Int32} {v_names : List Int32} {v_bends : List Int32} {v_high : List Int32} {v_to : List Int32} {v_pileSize : List Int32} {v_planLine : List Int32} {v_planWay : List Int32} {v_way1 : List Int32} {v_bestWay : List Int32} {v_order1 : List Int32} {v_placeIn : List Int32} {v_bodyKind : List Int32} {v_trace : List Int32} {v_shelf : List Int32} {v_many : List Int32} {v_items : List Int64} {v_carried : List Int64} {r : Int32} {N d : Nat} (hd : 1 ≤ d) (hf : fX9_trace N x1 v_ran v_trace = some r) : mm_Ct l yX9_trace cX9_trace 2 (some .int) d D (mm_T cI cL cS cH) [.ref (a 0), .int x1] (wd_X9 cI cL cS cH a v_keptMany v_done v_rowsOf v_columnsOf v_folded v_wronged v_tapeMany v_textMany v_base v_at v_ends v_fault v_opened v_bentMany v_bentWrong v_moreWorn v_planned v_allWrong v_allWorn v_z v_wishedField v_isFound v_bestWrong v_bestWorn v_bestMany v_soughtBy v_sought v_soughtAt v_foundMany v_foundOrder v_isKept v_imageRows v_imageColumns v_imageFolded v_imageWronged v_bodies v_ran v_ownKind v_ownNumber v_limit v_changeWas v_changeIs v_shapeRows v_shapeColumns v_row v_column v_below v_face v_worn v_lastBend v_tape v_text v_names v_bends v_high v_to v_pileSize v_planLine v_planWay v_way1 v_bestWay v_order1 v_placeIn v_bodyKind v_trace v_shelf v_many v_items v_carried) (wd_X9 cI cL cS cH a v_keptMany v_done v_rowsOf v_columnsOf v_folded v_wronged v_tapeMany v_textMany v_base v_at v_ends v_fault v_opened v_bentMany v_bentWrong v_moreWorn v_planned v_allWrong v_allWorn v_z v_wishedField v_isFound v_bestWrong v_bestWorn v_bestMany v_soughtBy v_sought v_soughtAt v_foundMany v_foundOrder v_isKept v_imageRows v_imageColumns v_imageFolded v_imageWronged v_bodies v_ran v_ownKind v_ownNumber v_limit v_changeWas v_changeIs v_shapeRows v_shapeColumns v_row v_column v_below v_face v_worn v_lastBend v_tape v_text v_names v_bends v_high v_to v_pileSize v_planLine v_planWay v_way1 v_bestWay v_order1 v_placeIn v_bodyKind v_trace v_shelf v_many v_items v_carried) (some (.int r)) := by
  refine mm_of (by decide) (Nat.le_of_ble_eq_true rfl) ?_
  intro p e s m args below meth c A H locs ls C0 hP hD hA hS hl
  have C0 : mm_Cx p s m args meth c RX9 cX9_trace 2 (some .int) D (mm_T cI cL cS cH) A := C0
  obtain ⟨hx, hb, hml, hown, hts, hr, hlocks, hK, hSt⟩ := id C0
  have hl : lv_has ls 2 [(0, .ref (a 0)), (1, .int x1)] := hl
  unfold fX9_trace at hf
  refine lv_iload_n hx hb dX9_trace_0 rfl (lv_at hl 1 rfl) ?_
  refine lv_if_lt (tgt := 27) hx hb dX9_trace_1 (by decide) (fun c_1 => ?_) (fun c_1 => ?_)
  · have hf := mm_ip hf c_1
    refine lv_iconst (v := -1) hx hb dX9_trace_27 (by decide) ?_
    obtain rfl := mm_inj1 hf
    exact mm_iret C0 hP hD hS dX9_trace_28
  · have hf := mm_in hf c_1
    refine lv_iload_n hx hb dX9_trace_4 rfl (lv_at hl 1 rfl) ?_
    refine lv_aload_n hx hb dX9_trace_5 rfl (lv_at hl 0 rfl) ?_
    refine mm_get C0 hP iw_X9 0 rfl rfl 62 (by decide) fl_X9_398 rfl dX9_trace_6 ?_
    refine lv_icmp_ge (tgt := 27) hx hb dX9_trace_9 (by decide) (fun c_2 => ?_) (fun c_2 => ?_)
    · have hf := mm_ip hf c_2
      refine lv_iconst (v := -1) hx hb dX9_trace_27 (by decide) ?_
      obtain rfl := mm_inj1 hf
      exact mm_iret C0 hP hD hS dX9_trace_28
    · have hf := mm_in hf c_2
      refine lv_iload_n hx hb dX9_trace_12 rfl (lv_at hl 1 rfl) ?_
      refine lv_bipush (v := 24) hx hb dX9_trace_13 (by decide) ?_
      refine lv_icmp_ge (tgt := 27) hx hb dX9_trace_15 (by decide) (fun c_3 => ?_) (fun c_3 => ?_)
      · have hf := mm_ip hf c_3
        refine lv_iconst (v := -1) hx hb dX9_trace_27 (by decide) ?_
        obtain rfl := mm_inj1 hf
        exact mm_iret C0 hP hD hS dX9_trace_28
      · have hf := mm_in hf c_3
        refine lv_aload_n hx hb dX9_trace_18 rfl (lv_at hl 0 rfl) ?_
        refine mm_get C0 hP iw_X9 0 rfl rfl 61 (by decide) fl_X9_85 rfl dX9_trace_19 ?_
        refine lv_iload_n hx hb dX9_trace_22 rfl (lv_at hl 1 rfl) ?_
        obtain ⟨h_4, hf⟩ := mm_cks hf
        refine mm_iald C0 hP 26 rfl h_4 dX9_trace_23 ?_
        refine lv_goto (tgt := 28) hx hb dX9_trace_24 (by decide) ?_
        obtain rfl := mm_inj1 hf
        exact mm_iret C0 hP hD hS dX9_trace_28

theorem nb_dX9_keep_0 : bls_w cX9_keep [(0, [27]), (1, [184, 1, 18]), (4, [153, 0, 16]), (7, [28]), (8, [2]), (9, [159, 0, 13]), (12, [42]), (13, [28]), (14, [182, 1, 166]), (17, [154, 0, 5]), (20, [2]), (21, [172])] := bls_of (by decide +kernel)
theorem dX9_keep_0 : decode cX9_keep 0 = .ok (.iload_n 1, 1) := op_27 nb_dX9_keep_0.1
set_option maxRecDepth 100000 in
theorem dX9_keep_1 : decode cX9_keep 1 = .ok (.invokestatic 274, 3) := (op_184 nb_dX9_keep_0.2.1).trans rfl
set_option maxRecDepth 100000 in
theorem dX9_keep_4 : decode cX9_keep 4 = .ok (.ifCond .eq 16, 3) := (op_153 nb_dX9_keep_0.2.2.1).trans rfl
theorem dX9_keep_7 : decode cX9_keep 7 = .ok (.iload_n 2, 1) := op_28 nb_dX9_keep_0.2.2.2.1
theorem dX9_keep_8 : decode cX9_keep 8 = .ok (.iconst (-1), 1) := op_2 nb_dX9_keep_0.2.2.2.2.1
set_option maxRecDepth 100000 in
theorem dX9_keep_9 : decode cX9_keep 9 = .ok (.if_icmp .eq 13, 3) := (op_159 nb_dX9_keep_0.2.2.2.2.2.1).trans rfl
theorem dX9_keep_12 : decode cX9_keep 12 = .ok (.aload_n 0, 1) := op_42 nb_dX9_keep_0.2.2.2.2.2.2.1
theorem dX9_keep_13 : decode cX9_keep 13 = .ok (.iload_n 2, 1) := op_28 nb_dX9_keep_0.2.2.2.2.2.2.2.1
set_option maxRecDepth 100000 in
theorem dX9_keep_14 : decode cX9_keep 14 = .ok (.invokevirtual 422, 3) := (op_182 nb_dX9_keep_0.2.2.2.2.2.2.2.2.1).trans rfl
set_option maxRecDepth 100000 in
theorem dX9_keep_17 : decode cX9_keep 17 = .ok (.ifCond .ne 5, 3) := (op_154 nb_dX9_keep_0.2.2.2.2.2.2.2.2.2.1).trans rfl
theorem dX9_keep_20 : decode cX9_keep 20 = .ok (.iconst (-1), 1) := op_2 nb_dX9_keep_0.2.2.2.2.2.2.2.2.2.2.1
theorem dX9_keep_21 : decode cX9_keep 21 = .ok (.ireturn, 1) := op_172 nb_dX9_keep_0.2.2.2.2.2.2.2.2.2.2.2.1
theorem nb_dX9_keep_22 : bls_w cX9_keep [(22, [42]), (23, [180, 0, 88]), (26, [27]), (27, [28]), (28, [79]), (29, [42]), (30, [180, 0, 91]), (33, [27]), (34, [3]), (35, [79]), (36, [4]), (37, [172])] := bls_of (by decide +kernel)
theorem dX9_keep_22 : decode cX9_keep 22 = .ok (.aload_n 0, 1) := op_42 nb_dX9_keep_22.1
set_option maxRecDepth 100000 in
theorem dX9_keep_23 : decode cX9_keep 23 = .ok (.getfield 88, 3) := (op_180 nb_dX9_keep_22.2.1).trans rfl
theorem dX9_keep_26 : decode cX9_keep 26 = .ok (.iload_n 1, 1) := op_27 nb_dX9_keep_22.2.2.1
theorem dX9_keep_27 : decode cX9_keep 27 = .ok (.iload_n 2, 1) := op_28 nb_dX9_keep_22.2.2.2.1
theorem dX9_keep_28 : decode cX9_keep 28 = .ok (.iastore, 1) := op_79 nb_dX9_keep_22.2.2.2.2.1
theorem dX9_keep_29 : decode cX9_keep 29 = .ok (.aload_n 0, 1) := op_42 nb_dX9_keep_22.2.2.2.2.2.1
set_option maxRecDepth 100000 in
theorem dX9_keep_30 : decode cX9_keep 30 = .ok (.getfield 91, 3) := (op_180 nb_dX9_keep_22.2.2.2.2.2.2.1).trans rfl
theorem dX9_keep_33 : decode cX9_keep 33 = .ok (.iload_n 1, 1) := op_27 nb_dX9_keep_22.2.2.2.2.2.2.2.1
theorem dX9_keep_34 : decode cX9_keep 34 = .ok (.iconst 0, 1) := op_3 nb_dX9_keep_22.2.2.2.2.2.2.2.2.1
theorem dX9_keep_35 : decode cX9_keep 35 = .ok (.iastore, 1) := op_79 nb_dX9_keep_22.2.2.2.2.2.2.2.2.2.1
theorem dX9_keep_36 : decode cX9_keep 36 = .ok (.iconst 1, 1) := op_4 nb_dX9_keep_22.2.2.2.2.2.2.2.2.2.2.1
theorem dX9_keep_37 : decode cX9_keep 37 = .ok (.ireturn, 1) := op_172 nb_dX9_keep_22.2.2.2.2.2.2.2.2.2.2.2.1
def fX9_keep_22 (N : Nat)  (x1 : Int32) (x2 : Int32) (v_bodies : Int32) (v_shelf : List Int32) (v_many : List Int32) : Option (Int32 × List Int32 × List Int32) :=
    mm_ck (mm_inb x1 v_shelf.length) (mm_nm (mm_is v_shelf x1 x2) (fun (l_9 : List Int32) =>
    mm_ck (mm_inb x1 v_many.length) (mm_nm (mm_is v_many x1 (0 : Int32)) (fun (l_11 : List Int32) =>
    some ((1 : Int32), l_9, l_11)))))

set_option maxHeartbeats 4000000 in
set_option maxRecDepth 100000 in
theorem tX9_keep_22 {p : Program} {l : Launch} {e : Env} {s : State} {m : MethodId} {args : Array Value} {below : List Frame} {meth : Method} {c : Code} {D : va_G} {cI cL cS cH : ClassId} {A : Nat → Prop} {d : Nat} {a : Nat → Nat} (hd : 3 ≤ d) (C0 : mm_Cx p s m args meth c RX9 cX9_keep 3 (some .int) D (mm_T cI cL cS cH) A) (hA : ∀ q, s.heap.size ≤ q → A q) {v_keptMany : Int32} {v_done : Int32} {v_rowsOf : Int32} {v_columnsOf : Int32} {v_folded : Int32} {v_wronged : Int32} {v_tapeMany : Int32} {v_textMany : Int32} {v_base : Int32} {v_at : Int32} {v_ends : Int32} {v_fault : Int32} {v_opened : Int32} {v_bentMany : Int32} {v_bentWrong : Int32} {v_moreWorn : Int32} {v_planned : Int32} {v_allWrong : Int32} {v_allWorn : Int32} {v_z : Int32} {v_wishedField : Int32} {v_isFound : Bool} {v_bestWrong : Int32} {v_bestWorn : Int32} {v_bestMany : Int32} {v_soughtBy : Int32} {v_sought : Int32} {v_soughtAt : Int32} {v_foundMany : Int32} {v_foundOrder : Int32} {v_isKept : Bool} {v_imageRows : Int32} {v_imageColumns : Int32} {v_imageFolded : Int32} {v_imageWronged : Int32} {v_ran : Int32} {v_ownKind : Int32} {v_ownNumber : Int32} {v_limit : List Int32} {v_changeWas : List Int32} {v_changeIs : List Int32} {v_shapeRows : List Int32} {v_shapeColumns : List Int32} {v_row : List Int32} {v_column : List Int32} {v_below : List Int32} {v_face : List Int32} {v_worn : List Int32} {v_lastBend : List Int32} {v_tape : List Int32} {v_text : List Int32} {v_names : List Int32} {v_bends : List Int32} {v_high : List Int32} {v_to : List Int32} {v_pileSize : List Int32} {v_planLine : List Int32} {v_planWay : List Int32} {v_way1 : List Int32} {v_bestWay : List Int32} {v_order1 : List Int32} {v_placeIn : List Int32} {v_bodyKind : List Int32} {v_trace : List Int32} {v_items : List Int64} {v_carried : List Int64} {r : Int32} {w_shelf : List Int32} {w_many : List Int32} (N : Nat)  : ∀ (x1 : Int32) (x2 : Int32) (v_bodies : Int32) (v_shelf : List Int32) (v_many : List Int32) (H : Heap) (locs : List Loc) (ls : Array Slot), fX9_keep_22 N x1 x2 v_bodies v_shelf v_many = some (r, w_shelf, w_many) → va_P D mm_cl (wd_X9 cI cL cS cH a v_keptMany v_done v_rowsOf v_columnsOf v_folded v_wronged v_tapeMany v_textMany v_base v_at v_ends v_fault v_opened v_bentMany v_bentWrong v_moreWorn v_planned v_allWrong v_allWorn v_z v_wishedField v_isFound v_bestWrong v_bestWorn v_bestMany v_soughtBy v_sought v_soughtAt v_foundMany v_foundOrder v_isKept v_imageRows v_imageColumns v_imageFolded v_imageWronged v_bodies v_ran v_ownKind v_ownNumber v_limit v_changeWas v_changeIs v_shapeRows v_shapeColumns v_row v_column v_below v_face v_worn v_lastBend v_tape v_text v_names v_bends v_high v_to v_pileSize v_planLine v_planWay v_way1 v_bestWay v_order1 v_placeIn v_bodyKind v_trace v_shelf v_many v_items v_carried) H → va_D A (wd_X9 cI cL cS cH a v_keptMany v_done v_rowsOf v_columnsOf v_folded v_wronged v_tapeMany v_textMany v_base v_at v_ends v_fault v_opened v_bentMany v_bentWrong v_moreWorn v_planned v_allWrong v_allWorn v_z v_wishedField v_isFound v_bestWrong v_bestWorn v_bestMany v_soughtBy v_sought v_soughtAt v_foundMany v_foundOrder v_isKept v_imageRows v_imageColumns v_imageFolded v_imageWronged v_bodies v_ran v_ownKind v_ownNumber v_limit v_changeWas v_changeIs v_shapeRows v_shapeColumns v_row v_column v_below v_face v_worn v_lastBend v_tape v_text v_names v_bends v_high v_to v_pileSize v_planLine v_planWay v_way1 v_bestWay v_order1 v_placeIn v_bodyKind v_trace v_shelf v_many v_items v_carried) → va_S A s.heap H locs → lv_has ls 3 [(0, .ref (a 0)), (1, .int x1), (2, .int x2)] → W p l e (mm_rr d) s m args below meth c H locs 0 0 (mm_Z below D A (wd_X9 cI cL cS cH a v_keptMany v_done v_rowsOf v_columnsOf v_folded v_wronged v_tapeMany v_textMany v_base v_at v_ends v_fault v_opened v_bentMany v_bentWrong v_moreWorn v_planned v_allWrong v_allWorn v_z v_wishedField v_isFound v_bestWrong v_bestWorn v_bestMany v_soughtBy v_sought v_soughtAt v_foundMany v_foundOrder v_isKept v_imageRows v_imageColumns v_imageFolded v_imageWronged v_bodies v_ran v_ownKind v_ownNumber v_limit v_changeWas v_changeIs v_shapeRows v_shapeColumns v_row v_column v_below v_face v_worn v_lastBend v_tape v_text v_names v_bends v_high v_to v_pileSize v_planLine v_planWay v_way1 v_bestWay v_order1 v_placeIn v_bodyKind v_trace w_shelf w_many v_items v_carried) (some (.int r)) args s) (F0 m 22 ls []) := by
  obtain ⟨hx, hb, hml, hown, hts, hr, hlocks, hK, hSt⟩ := id C0
  intro x1 x2 v_bodies v_shelf v_many H locs ls hf hP hD hS hl
  unfold fX9_keep_22 at hf
  refine lv_aload_n hx hb dX9_keep_22 rfl (lv_at hl 0 rfl) ?_
  refine mm_get C0 hP iw_X9 0 rfl rfl 65 (by decide) fl_X9_88 rfl dX9_keep_23 ?_
  refine lv_iload_n hx hb dX9_keep_26 rfl (lv_at hl 1 rfl) ?_
  refine lv_iload_n hx hb dX9_keep_27 rfl (lv_at hl 2 rfl) ?_
  obtain ⟨h_8, hf⟩ := mm_cks hf
  refine mm_iast C0 hP hD hS 27 rfl h_8 dX9_keep_28 (w2 := (wd_X9 cI cL cS cH a v_keptMany v_done v_rowsOf v_columnsOf v_folded v_wronged v_tapeMany v_textMany v_base v_at v_ends v_fault v_opened v_bentMany v_bentWrong v_moreWorn v_planned v_allWrong v_allWorn v_z v_wishedField v_isFound v_bestWrong v_bestWorn v_bestMany v_soughtBy v_sought v_soughtAt v_foundMany v_foundOrder v_isKept v_imageRows v_imageColumns v_imageFolded v_imageWronged v_bodies v_ran v_ownKind v_ownNumber v_limit v_changeWas v_changeIs v_shapeRows v_shapeColumns v_row v_column v_below v_face v_worn v_lastBend v_tape v_text v_names v_bends v_high v_to v_pileSize v_planLine v_planWay v_way1 v_bestWay v_order1 v_placeIn v_bodyKind v_trace (mm_is v_shelf x1 x2) v_many v_items v_carried)) rfl (fun H locs hP hD hS => ?_)
  generalize el_9 : (mm_is v_shelf x1 x2) = l_9 at hP hD
  have hf := mm_nms hf el_9.symm
  refine lv_aload_n hx hb dX9_keep_29 rfl (lv_at hl 0 rfl) ?_
  refine mm_get C0 hP iw_X9 0 rfl rfl 66 (by decide) fl_X9_91 rfl dX9_keep_30 ?_
  refine lv_iload_n hx hb dX9_keep_33 rfl (lv_at hl 1 rfl) ?_
  refine lv_iconst (v := 0) hx hb dX9_keep_34 (by decide) ?_
  obtain ⟨h_10, hf⟩ := mm_cks hf
  refine mm_iast C0 hP hD hS 28 rfl h_10 dX9_keep_35 (w2 := (wd_X9 cI cL cS cH a v_keptMany v_done v_rowsOf v_columnsOf v_folded v_wronged v_tapeMany v_textMany v_base v_at v_ends v_fault v_opened v_bentMany v_bentWrong v_moreWorn v_planned v_allWrong v_allWorn v_z v_wishedField v_isFound v_bestWrong v_bestWorn v_bestMany v_soughtBy v_sought v_soughtAt v_foundMany v_foundOrder v_isKept v_imageRows v_imageColumns v_imageFolded v_imageWronged v_bodies v_ran v_ownKind v_ownNumber v_limit v_changeWas v_changeIs v_shapeRows v_shapeColumns v_row v_column v_below v_face v_worn v_lastBend v_tape v_text v_names v_bends v_high v_to v_pileSize v_planLine v_planWay v_way1 v_bestWay v_order1 v_placeIn v_bodyKind v_trace l_9 (mm_is v_many x1 (0 : Int32)) v_items v_carried)) rfl (fun H locs hP hD hS => ?_)
  generalize el_11 : (mm_is v_many x1 (0 : Int32)) = l_11 at hP hD
  have hf := mm_nms hf el_11.symm
  refine lv_iconst (v := 1) hx hb dX9_keep_36 (by decide) ?_
  apply mm_sub3 hf
  exact mm_iret C0 hP hD hS dX9_keep_37

def fX9_keep (N : Nat) (x1 : Int32) (x2 : Int32) (v_bodies : Int32) (v_shelf : List Int32) (v_many : List Int32) : Option (Int32 × List Int32 × List Int32) :=
    mm_bd1 (fX9_isShelf N x1) (fun (r_1 : Bool) =>
    if r_1 = false then
    (some ((-1 : Int32), v_shelf, v_many))
    else (if x2 = (-1 : Int32) then
    (fX9_keep_22 N x1 x2 v_bodies v_shelf v_many)
    else (mm_bd1 (fX9_isBody N x2 v_bodies) (fun (r_5 : Bool) =>
    if r_5 = false then
    (some ((-1 : Int32), v_shelf, v_many))
    else (fX9_keep_22 N x1 x2 v_bodies v_shelf v_many)))))

set_option maxHeartbeats 4000000 in
set_option maxRecDepth 100000 in
theorem ctX9_keep {l : Launch} {D : va_G} {cI cL cS cH : ClassId} {a : Nat → Nat} {x1 : Int32} {x2 : Int32} {v_keptMany : Int32} {v_done : Int32} {v_rowsOf : Int32} {v_columnsOf : Int32} {v_folded : Int32} {v_wronged : Int32} {v_tapeMany : Int32} {v_textMany : Int32} {v_base : Int32} {v_at : Int32} {v_ends : Int32} {v_fault : Int32} {v_opened : Int32} {v_bentMany : Int32} {v_bentWrong : Int32} {v_moreWorn : Int32} {v_planned : Int32} {v_allWrong : Int32} {v_allWorn : Int32} {v_z : Int32} {v_wishedField : Int32} {v_isFound : Bool} {v_bestWrong : Int32} {v_bestWorn : Int32} {v_bestMany : Int32} {v_soughtBy : Int32} {v_sought : Int32} {v_soughtAt : Int32} {v_foundMany : Int32} {v_foundOrder : Int32} {v_isKept : Bool} {v_imageRows : Int32} {v_imageColumns : Int32} {v_imageFolded : Int32} {v_imageWronged : Int32} {v_bodies : Int32} {v_ran : Int32} {v_ownKind : Int32} {v_ownNumber : Int32} {v_limit : List Int32} {v_changeWas : List Int32} {v_changeIs : List Int32} {v_shapeRows : List Int32} {v_shapeColumns : List Int32} {v_row : List Int32} {v_column : List Int32} {v_below : List Int32} {v_face : List Int32} {v_worn : List Int32} {v_lastBend : List Int32} {v_tape : List Int32} {v_text : List Int32} {v_names : List Int32} {v_bends : List Int32} {v_high : List Int32} {v_to : List Int32} {v_pileSize : List Int32} {v_planLine : List Int32} {v_planWay : List Int32} {v_way1 : List Int32} {v_bestWay : List Int32} {v_order1 : List Int32} {v_placeIn : List Int32} {v_bodyKind : List Int32} {v_trace : List Int32} {v_shelf : List Int32} {v_many : List Int32} {v_items : List Int64} {v_carried : List Int64} {r : Int32} {w_shelf : List Int32} {w_many : List Int32} {N d : Nat} (hd : 3 ≤ d) (hf : fX9_keep N x1 x2 v_bodies v_shelf v_many = some (r, w_shelf, w_many)) : mm_Ct l yX9_keep cX9_keep 3 (some .int) d D (mm_T cI cL cS cH) [.ref (a 0), .int x1, .int x2] (wd_X9 cI cL cS cH a v_keptMany v_done v_rowsOf v_columnsOf v_folded v_wronged v_tapeMany v_textMany v_base v_at v_ends v_fault v_opened v_bentMany v_bentWrong v_moreWorn v_planned v_allWrong v_allWorn v_z v_wishedField v_isFound v_bestWrong v_bestWorn v_bestMany v_soughtBy v_sought v_soughtAt v_foundMany v_foundOrder v_isKept v_imageRows v_imageColumns v_imageFolded v_imageWronged v_bodies v_ran v_ownKind v_ownNumber v_limit v_changeWas v_changeIs v_shapeRows v_shapeColumns v_row v_column v_below v_face v_worn v_lastBend v_tape v_text v_names v_bends v_high v_to v_pileSize v_planLine v_planWay v_way1 v_bestWay v_order1 v_placeIn v_bodyKind v_trace v_shelf v_many v_items v_carried) (wd_X9 cI cL cS cH a v_keptMany v_done v_rowsOf v_columnsOf v_folded v_wronged v_tapeMany v_textMany v_base v_at v_ends v_fault v_opened v_bentMany v_bentWrong v_moreWorn v_planned v_allWrong v_allWorn v_z v_wishedField v_isFound v_bestWrong v_bestWorn v_bestMany v_soughtBy v_sought v_soughtAt v_foundMany v_foundOrder v_isKept v_imageRows v_imageColumns v_imageFolded v_imageWronged v_bodies v_ran v_ownKind v_ownNumber v_limit v_changeWas v_changeIs v_shapeRows v_shapeColumns v_row v_column v_below v_face v_worn v_lastBend v_tape v_text v_names v_bends v_high v_to v_pileSize v_planLine v_planWay v_way1 v_bestWay v_order1 v_placeIn v_bodyKind v_trace w_shelf w_many v_items v_carried) (some (.int r)) := by
  refine mm_of (by decide) (Nat.le_of_ble_eq_true rfl) ?_
  intro p e s m args below meth c A H locs ls C0 hP hD hA hS hl
  have C0 : mm_Cx p s m args meth c RX9 cX9_keep 3 (some .int) D (mm_T cI cL cS cH) A := C0
  obtain ⟨hx, hb, hml, hown, hts, hr, hlocks, hK, hSt⟩ := id C0
  have hl : lv_has ls 3 [(0, .ref (a 0)), (1, .int x1), (2, .int x2)] := hl
  unfold fX9_keep at hf
  refine lv_iload_n hx hb dX9_keep_0 rfl (lv_at hl 1 rfl) ?_
  obtain ⟨r_1, hc_2, hf⟩ := mm_bd1s hf
  refine mm_callS0 (rest := []) C0 lk_X9_274 (ctX9_isShelf (d := d - 1) (by omega) hc_2) (by omega) rfl hl.1 rfl (mm_cat rfl) dX9_keep_1 hP hD hA hS (fun H locs hP hS => ?_)
  refine W.eq (g2 := F0 m 4 ls [.int (mm_b r_1)]) rfl ?_
  refine lv_if_eq (tgt := 20) hx hb dX9_keep_4 (by decide) (fun c_3 => ?_) (fun c_3 => ?_)
  · have hf := mm_ip hf (mm_b0 c_3)
    refine lv_iconst (v := -1) hx hb dX9_keep_20 (by decide) ?_
    apply mm_sub3 hf
    exact mm_iret C0 hP hD hS dX9_keep_21
  · have hf := mm_in hf (mm_b1 c_3)
    refine lv_iload_n hx hb dX9_keep_7 rfl (lv_at hl 2 rfl) ?_
    refine lv_iconst (v := -1) hx hb dX9_keep_8 (by decide) ?_
    refine lv_icmp_eq (tgt := 22) hx hb dX9_keep_9 (by decide) (fun c_4 => ?_) (fun c_4 => ?_)
    · have hf := mm_ip hf c_4
      exact tX9_keep_22 hd C0 hA N  _ _ _ _ _ H locs ls hf hP hD hS (lv_sub hl [0, 1, 2] rfl)
    · have hf := mm_in hf c_4
      refine lv_aload_n hx hb dX9_keep_12 rfl (lv_at hl 0 rfl) ?_
      refine lv_iload_n hx hb dX9_keep_13 rfl (lv_at hl 2 rfl) ?_
      obtain ⟨r_5, hc_6, hf⟩ := mm_bd1s hf
      refine mm_callVF (q0 := 0) (ci := 9) (rest := []) C0 lk_X9_422 (ctX9_isBody (a := a) (d := d - 1) (by omega) hc_6) (by omega) rfl hl.1 rfl (mm_cat rfl) dX9_keep_14 hP hD hA hS rfl rfl (fun H locs hP hD hS => ?_)
      refine W.eq (g2 := F0 m 17 ls [.int (mm_b r_5)]) rfl ?_
      refine lv_if_ne (tgt := 22) hx hb dX9_keep_17 (by decide) (fun c_7 => ?_) (fun c_7 => ?_)
      · have hf := mm_in hf (mm_b1 c_7)
        exact tX9_keep_22 hd C0 hA N  _ _ _ _ _ H locs ls hf hP hD hS (lv_sub hl [0, 1, 2] rfl)
      · have hf := mm_ip hf (mm_b0 c_7)
        refine lv_iconst (v := -1) hx hb dX9_keep_20 (by decide) ?_
        apply mm_sub3 hf
        exact mm_iret C0 hP hD hS dX9_keep_21

theorem nb_dX9_row_0 : bls_w cX9_row [(0, [27]), (1, [184, 1, 18]), (4, [153, 0, 21]), (7, [28]), (8, [133]), (9, [9]), (10, [20, 0, 141]), (13, [184, 0, 111]), (16, [153, 0, 9]), (19, [29]), (20, [16, 60]), (22, [164, 0, 5])] := bls_of (by decide +kernel)
theorem dX9_row_0 : decode cX9_row 0 = .ok (.iload_n 1, 1) := op_27 nb_dX9_row_0.1
set_option maxRecDepth 100000 in
theorem dX9_row_1 : decode cX9_row 1 = .ok (.invokestatic 274, 3) := (op_184 nb_dX9_row_0.2.1).trans rfl
set_option maxRecDepth 100000 in
theorem dX9_row_4 : decode cX9_row 4 = .ok (.ifCond .eq 21, 3) := (op_153 nb_dX9_row_0.2.2.1).trans rfl
theorem dX9_row_7 : decode cX9_row 7 = .ok (.iload_n 2, 1) := op_28 nb_dX9_row_0.2.2.2.1
theorem dX9_row_8 : decode cX9_row 8 = .ok (.i2l, 1) := op_133 nb_dX9_row_0.2.2.2.2.1
theorem dX9_row_9 : decode cX9_row 9 = .ok (.lconst 0, 1) := op_9 nb_dX9_row_0.2.2.2.2.2.1
set_option maxRecDepth 100000 in
theorem dX9_row_10 : decode cX9_row 10 = .ok (.ldc2_w 141, 3) := (op_20 nb_dX9_row_0.2.2.2.2.2.2.1).trans rfl
set_option maxRecDepth 100000 in
theorem dX9_row_13 : decode cX9_row 13 = .ok (.invokestatic 111, 3) := (op_184 nb_dX9_row_0.2.2.2.2.2.2.2.1).trans rfl
set_option maxRecDepth 100000 in
theorem dX9_row_16 : decode cX9_row 16 = .ok (.ifCond .eq 9, 3) := (op_153 nb_dX9_row_0.2.2.2.2.2.2.2.2.1).trans rfl
theorem dX9_row_19 : decode cX9_row 19 = .ok (.iload_n 3, 1) := op_29 nb_dX9_row_0.2.2.2.2.2.2.2.2.2.1
set_option maxRecDepth 100000 in
theorem dX9_row_20 : decode cX9_row 20 = .ok (.bipush 60, 2) := (op_16 nb_dX9_row_0.2.2.2.2.2.2.2.2.2.2.1).trans rfl
set_option maxRecDepth 100000 in
theorem dX9_row_22 : decode cX9_row 22 = .ok (.if_icmp .le 5, 3) := (op_164 nb_dX9_row_0.2.2.2.2.2.2.2.2.2.2.2.1).trans rfl
theorem nb_dX9_row_25 : bls_w cX9_row [(25, [2]), (26, [172]), (27, [29]), (28, [156, 0, 6]), (31, [16, 242]), (33, [172]), (34, [42]), (35, [180, 0, 88]), (38, [27]), (39, [16, 50]), (41, [28]), (42, [96])] := bls_of (by decide +kernel)
theorem dX9_row_25 : decode cX9_row 25 = .ok (.iconst (-1), 1) := op_2 nb_dX9_row_25.1
theorem dX9_row_26 : decode cX9_row 26 = .ok (.ireturn, 1) := op_172 nb_dX9_row_25.2.1
theorem dX9_row_27 : decode cX9_row 27 = .ok (.iload_n 3, 1) := op_29 nb_dX9_row_25.2.2.1
set_option maxRecDepth 100000 in
theorem dX9_row_28 : decode cX9_row 28 = .ok (.ifCond .ge 6, 3) := (op_156 nb_dX9_row_25.2.2.2.1).trans rfl
set_option maxRecDepth 100000 in
theorem dX9_row_31 : decode cX9_row 31 = .ok (.bipush (-14), 2) := (op_16 nb_dX9_row_25.2.2.2.2.1).trans rfl
theorem dX9_row_33 : decode cX9_row 33 = .ok (.ireturn, 1) := op_172 nb_dX9_row_25.2.2.2.2.2.1
theorem dX9_row_34 : decode cX9_row 34 = .ok (.aload_n 0, 1) := op_42 nb_dX9_row_25.2.2.2.2.2.2.1
set_option maxRecDepth 100000 in
theorem dX9_row_35 : decode cX9_row 35 = .ok (.getfield 88, 3) := (op_180 nb_dX9_row_25.2.2.2.2.2.2.2.1).trans rfl
theorem dX9_row_38 : decode cX9_row 38 = .ok (.iload_n 1, 1) := op_27 nb_dX9_row_25.2.2.2.2.2.2.2.2.1
set_option maxRecDepth 100000 in
theorem dX9_row_39 : decode cX9_row 39 = .ok (.bipush 50, 2) := (op_16 nb_dX9_row_25.2.2.2.2.2.2.2.2.2.1).trans rfl
theorem dX9_row_41 : decode cX9_row 41 = .ok (.iload_n 2, 1) := op_28 nb_dX9_row_25.2.2.2.2.2.2.2.2.2.2.1
theorem dX9_row_42 : decode cX9_row 42 = .ok (.iadd, 1) := op_96 nb_dX9_row_25.2.2.2.2.2.2.2.2.2.2.2.1
theorem nb_dX9_row_43 : bls_w cX9_row [(43, [79]), (44, [42]), (45, [180, 0, 91]), (48, [27]), (49, [29]), (50, [79]), (51, [16, 60]), (53, [27]), (54, [104]), (55, [54, 4]), (57, [21, 4]), (59, [16, 60])] := bls_of (by decide +kernel)
theorem dX9_row_43 : decode cX9_row 43 = .ok (.iastore, 1) := op_79 nb_dX9_row_43.1
theorem dX9_row_44 : decode cX9_row 44 = .ok (.aload_n 0, 1) := op_42 nb_dX9_row_43.2.1
set_option maxRecDepth 100000 in
theorem dX9_row_45 : decode cX9_row 45 = .ok (.getfield 91, 3) := (op_180 nb_dX9_row_43.2.2.1).trans rfl
theorem dX9_row_48 : decode cX9_row 48 = .ok (.iload_n 1, 1) := op_27 nb_dX9_row_43.2.2.2.1
theorem dX9_row_49 : decode cX9_row 49 = .ok (.iload_n 3, 1) := op_29 nb_dX9_row_43.2.2.2.2.1
theorem dX9_row_50 : decode cX9_row 50 = .ok (.iastore, 1) := op_79 nb_dX9_row_43.2.2.2.2.2.1
set_option maxRecDepth 100000 in
theorem dX9_row_51 : decode cX9_row 51 = .ok (.bipush 60, 2) := (op_16 nb_dX9_row_43.2.2.2.2.2.2.1).trans rfl
theorem dX9_row_53 : decode cX9_row 53 = .ok (.iload_n 1, 1) := op_27 nb_dX9_row_43.2.2.2.2.2.2.2.1
theorem dX9_row_54 : decode cX9_row 54 = .ok (.imul, 1) := op_104 nb_dX9_row_43.2.2.2.2.2.2.2.2.1
set_option maxRecDepth 100000 in
theorem dX9_row_55 : decode cX9_row 55 = .ok (.istore 4, 2) := (op_54 nb_dX9_row_43.2.2.2.2.2.2.2.2.2.1).trans rfl
set_option maxRecDepth 100000 in
theorem dX9_row_57 : decode cX9_row 57 = .ok (.iload 4, 2) := (op_21 nb_dX9_row_43.2.2.2.2.2.2.2.2.2.2.1).trans rfl
set_option maxRecDepth 100000 in
theorem dX9_row_59 : decode cX9_row 59 = .ok (.bipush 60, 2) := (op_16 nb_dX9_row_43.2.2.2.2.2.2.2.2.2.2.2.1).trans rfl
theorem nb_dX9_row_61 : bls_w cX9_row [(61, [27]), (62, [104]), (63, [16, 60]), (65, [96]), (66, [162, 0, 17]), (69, [42]), (70, [180, 0, 94]), (73, [21, 4]), (75, [9]), (76, [80]), (77, [132, 4, 1]), (80, [167, 255, 233])] := bls_of (by decide +kernel)
theorem dX9_row_61 : decode cX9_row 61 = .ok (.iload_n 1, 1) := op_27 nb_dX9_row_61.1
theorem dX9_row_62 : decode cX9_row 62 = .ok (.imul, 1) := op_104 nb_dX9_row_61.2.1
set_option maxRecDepth 100000 in
theorem dX9_row_63 : decode cX9_row 63 = .ok (.bipush 60, 2) := (op_16 nb_dX9_row_61.2.2.1).trans rfl
theorem dX9_row_65 : decode cX9_row 65 = .ok (.iadd, 1) := op_96 nb_dX9_row_61.2.2.2.1
set_option maxRecDepth 100000 in
theorem dX9_row_66 : decode cX9_row 66 = .ok (.if_icmp .ge 17, 3) := (op_162 nb_dX9_row_61.2.2.2.2.1).trans rfl
theorem dX9_row_69 : decode cX9_row 69 = .ok (.aload_n 0, 1) := op_42 nb_dX9_row_61.2.2.2.2.2.1
set_option maxRecDepth 100000 in
theorem dX9_row_70 : decode cX9_row 70 = .ok (.getfield 94, 3) := (op_180 nb_dX9_row_61.2.2.2.2.2.2.1).trans rfl
set_option maxRecDepth 100000 in
theorem dX9_row_73 : decode cX9_row 73 = .ok (.iload 4, 2) := (op_21 nb_dX9_row_61.2.2.2.2.2.2.2.1).trans rfl
theorem dX9_row_75 : decode cX9_row 75 = .ok (.lconst 0, 1) := op_9 nb_dX9_row_61.2.2.2.2.2.2.2.2.1
theorem dX9_row_76 : decode cX9_row 76 = .ok (.lastore, 1) := op_80 nb_dX9_row_61.2.2.2.2.2.2.2.2.2.1
set_option maxRecDepth 100000 in
theorem dX9_row_77 : decode cX9_row 77 = .ok (.iinc 4 1, 3) := (op_132 nb_dX9_row_61.2.2.2.2.2.2.2.2.2.2.1).trans rfl
set_option maxRecDepth 100000 in
theorem dX9_row_80 : decode cX9_row 80 = .ok (.goto (-23), 3) := (op_167 nb_dX9_row_61.2.2.2.2.2.2.2.2.2.2.2.1).trans rfl
theorem nb_dX9_row_83 : bls_w cX9_row [(83, [4]), (84, [172])] := bls_of (by decide +kernel)
theorem dX9_row_83 : decode cX9_row 83 = .ok (.iconst 1, 1) := op_4 nb_dX9_row_83.1
theorem dX9_row_84 : decode cX9_row 84 = .ok (.ireturn, 1) := op_172 nb_dX9_row_83.2.1
def fX9_row_57 (N : Nat)  : Nat → Int32 → Int32 → List Int32 → List Int32 → List Int64 → Option (Int32 × List Int32 × List Int32 × List Int64)
  | 0 => fun _ _ _ _ _ => none
  | n + 1 => fun x1 x4 v_shelf v_many v_items =>
    if (((60 : Int32) * x1) + (60 : Int32)) ≤ x4 then
    (some ((1 : Int32), v_shelf, v_many, v_items))
    else (mm_ck (mm_inb x4 v_items.length) (mm_nm (mm_ls v_items x4 (0 : Int64)) (fun (l_17 : List Int64) =>
    mm_nm (x4 + (1 : Int32)) (fun (y_18 : Int32) =>
    fX9_row_57 N n x1 y_18 v_shelf v_many l_17))))

set_option maxHeartbeats 4000000 in
set_option maxRecDepth 100000 in
theorem tX9_row_57 {p : Program} {l : Launch} {e : Env} {s : State} {m : MethodId} {args : Array Value} {below : List Frame} {meth : Method} {c : Code} {D : va_G} {cI cL cS cH : ClassId} {A : Nat → Prop} {d : Nat} {a : Nat → Nat} (hd : 3 ≤ d) (C0 : mm_Cx p s m args meth c RX9 cX9_row 5 (some .int) D (mm_T cI cL cS cH) A) (hA : ∀ q, s.heap.size ≤ q → A q) {v_keptMany : Int32} {v_done : Int32} {v_rowsOf : Int32} {v_columnsOf : Int32} {v_folded : Int32} {v_wronged : Int32} {v_tapeMany : Int32} {v_textMany : Int32} {v_base : Int32} {v_at : Int32} {v_ends : Int32} {v_fault : Int32} {v_opened : Int32} {v_bentMany : Int32} {v_bentWrong : Int32} {v_moreWorn : Int32} {v_planned : Int32} {v_allWrong : Int32} {v_allWorn : Int32} {v_z : Int32} {v_wishedField : Int32} {v_isFound : Bool} {v_bestWrong : Int32} {v_bestWorn : Int32} {v_bestMany : Int32} {v_soughtBy : Int32} {v_sought : Int32} {v_soughtAt : Int32} {v_foundMany : Int32} {v_foundOrder : Int32} {v_isKept : Bool} {v_imageRows : Int32} {v_imageColumns : Int32} {v_imageFolded : Int32} {v_imageWronged : Int32} {v_bodies : Int32} {v_ran : Int32} {v_ownKind : Int32} {v_ownNumber : Int32} {v_limit : List Int32} {v_changeWas : List Int32} {v_changeIs : List Int32} {v_shapeRows : List Int32} {v_shapeColumns : List Int32} {v_row : List Int32} {v_column : List Int32} {v_below : List Int32} {v_face : List Int32} {v_worn : List Int32} {v_lastBend : List Int32} {v_tape : List Int32} {v_text : List Int32} {v_names : List Int32} {v_bends : List Int32} {v_high : List Int32} {v_to : List Int32} {v_pileSize : List Int32} {v_planLine : List Int32} {v_planWay : List Int32} {v_way1 : List Int32} {v_bestWay : List Int32} {v_order1 : List Int32} {v_placeIn : List Int32} {v_bodyKind : List Int32} {v_trace : List Int32} {v_carried : List Int64} {r : Int32} {w_shelf : List Int32} {w_many : List Int32} {w_items : List Int64} (N : Nat)  : ∀ (n : Nat), ∀ (x1 : Int32) (x4 : Int32) (v_shelf : List Int32) (v_many : List Int32) (v_items : List Int64) (H : Heap) (locs : List Loc) (ls : Array Slot), fX9_row_57 N n x1 x4 v_shelf v_many v_items = some (r, w_shelf, w_many, w_items) → va_P D mm_cl (wd_X9 cI cL cS cH a v_keptMany v_done v_rowsOf v_columnsOf v_folded v_wronged v_tapeMany v_textMany v_base v_at v_ends v_fault v_opened v_bentMany v_bentWrong v_moreWorn v_planned v_allWrong v_allWorn v_z v_wishedField v_isFound v_bestWrong v_bestWorn v_bestMany v_soughtBy v_sought v_soughtAt v_foundMany v_foundOrder v_isKept v_imageRows v_imageColumns v_imageFolded v_imageWronged v_bodies v_ran v_ownKind v_ownNumber v_limit v_changeWas v_changeIs v_shapeRows v_shapeColumns v_row v_column v_below v_face v_worn v_lastBend v_tape v_text v_names v_bends v_high v_to v_pileSize v_planLine v_planWay v_way1 v_bestWay v_order1 v_placeIn v_bodyKind v_trace v_shelf v_many v_items v_carried) H → va_D A (wd_X9 cI cL cS cH a v_keptMany v_done v_rowsOf v_columnsOf v_folded v_wronged v_tapeMany v_textMany v_base v_at v_ends v_fault v_opened v_bentMany v_bentWrong v_moreWorn v_planned v_allWrong v_allWorn v_z v_wishedField v_isFound v_bestWrong v_bestWorn v_bestMany v_soughtBy v_sought v_soughtAt v_foundMany v_foundOrder v_isKept v_imageRows v_imageColumns v_imageFolded v_imageWronged v_bodies v_ran v_ownKind v_ownNumber v_limit v_changeWas v_changeIs v_shapeRows v_shapeColumns v_row v_column v_below v_face v_worn v_lastBend v_tape v_text v_names v_bends v_high v_to v_pileSize v_planLine v_planWay v_way1 v_bestWay v_order1 v_placeIn v_bodyKind v_trace v_shelf v_many v_items v_carried) → va_S A s.heap H locs → lv_has ls 5 [(0, .ref (a 0)), (1, .int x1), (4, .int x4)] → W p l e (mm_rr d) s m args below meth c H locs 0 0 (mm_Z below D A (wd_X9 cI cL cS cH a v_keptMany v_done v_rowsOf v_columnsOf v_folded v_wronged v_tapeMany v_textMany v_base v_at v_ends v_fault v_opened v_bentMany v_bentWrong v_moreWorn v_planned v_allWrong v_allWorn v_z v_wishedField v_isFound v_bestWrong v_bestWorn v_bestMany v_soughtBy v_sought v_soughtAt v_foundMany v_foundOrder v_isKept v_imageRows v_imageColumns v_imageFolded v_imageWronged v_bodies v_ran v_ownKind v_ownNumber v_limit v_changeWas v_changeIs v_shapeRows v_shapeColumns v_row v_column v_below v_face v_worn v_lastBend v_tape v_text v_names v_bends v_high v_to v_pileSize v_planLine v_planWay v_way1 v_bestWay v_order1 v_placeIn v_bodyKind v_trace w_shelf w_many w_items v_carried) (some (.int r)) args s) (F0 m 57 ls []) := by
  obtain ⟨hx, hb, hml, hown, hts, hr, hlocks, hK, hSt⟩ := id C0
  intro n
  induction n with
  | zero =>
    intro x1 x4 v_shelf v_many v_items H locs ls hf
    cases (show none = some _ from hf)
  | succ n ih =>
    intro x1 x4 v_shelf v_many v_items H locs ls hf hP hD hS hl
    unfold fX9_row_57 at hf
    refine lv_iload hx hb dX9_row_57 (lv_at hl 2 rfl) ?_
    refine lv_bipush (v := 60) hx hb dX9_row_59 (by decide) ?_
    refine lv_iload_n hx hb dX9_row_61 rfl (lv_at hl 1 rfl) ?_
    refine lv_imul hx hb dX9_row_62 ?_
    refine lv_bipush (v := 60) hx hb dX9_row_63 (by decide) ?_
    refine lv_iadd hx hb dX9_row_65 ?_
    refine lv_icmp_ge (tgt := 83) hx hb dX9_row_66 (by decide) (fun c_15 => ?_) (fun c_15 => ?_)
    · have hf := mm_ip hf c_15
      refine lv_iconst (v := 1) hx hb dX9_row_83 (by decide) ?_
      apply mm_sub4 hf
      exact mm_iret C0 hP hD hS dX9_row_84
    · have hf := mm_in hf c_15
      refine lv_aload_n hx hb dX9_row_69 rfl (lv_at hl 0 rfl) ?_
      refine mm_get C0 hP iw_X9 0 rfl rfl 67 (by decide) fl_X9_94 rfl dX9_row_70 ?_
      refine lv_iload hx hb dX9_row_73 (lv_at hl 2 rfl) ?_
      refine lv_lconst (v := 0) hx hb dX9_row_75 (by decide) ?_
      obtain ⟨h_16, hf⟩ := mm_cks hf
      refine mm_last C0 hP hD hS 29 rfl h_16 dX9_row_76 (w2 := (wd_X9 cI cL cS cH a v_keptMany v_done v_rowsOf v_columnsOf v_folded v_wronged v_tapeMany v_textMany v_base v_at v_ends v_fault v_opened v_bentMany v_bentWrong v_moreWorn v_planned v_allWrong v_allWorn v_z v_wishedField v_isFound v_bestWrong v_bestWorn v_bestMany v_soughtBy v_sought v_soughtAt v_foundMany v_foundOrder v_isKept v_imageRows v_imageColumns v_imageFolded v_imageWronged v_bodies v_ran v_ownKind v_ownNumber v_limit v_changeWas v_changeIs v_shapeRows v_shapeColumns v_row v_column v_below v_face v_worn v_lastBend v_tape v_text v_names v_bends v_high v_to v_pileSize v_planLine v_planWay v_way1 v_bestWay v_order1 v_placeIn v_bodyKind v_trace v_shelf v_many (mm_ls v_items x4 (0 : Int64)) v_carried)) rfl (fun H locs hP hD hS => ?_)
      generalize el_17 : (mm_ls v_items x4 (0 : Int64)) = l_17 at hP hD
      have hf := mm_nms hf el_17.symm
      obtain ⟨y_18, ey_18⟩ : ∃ z : Int32, z = x4 + (1 : Int32) := ⟨_, rfl⟩
      have hf := mm_nms hf ey_18
      refine lv_iinc (v := y_18) (lv' := [(4, .int y_18), (0, .ref (a 0)), (1, .int x1)]) hx hb dX9_row_77 hl (k := 2) rfl (by rw [ey_18]; rfl) (by decide) rfl (fun ls hl => ?_)
      refine lv_goto (tgt := 57) hx hb dX9_row_80 (by decide) ?_
      exact ih _ _ _ _ _ H locs ls hf hP hD hS (lv_sub hl [1, 2, 0] rfl)

def fX9_row (N : Nat) (x1 : Int32) (x2 : Int32) (x3 : Int32) (v_shelf : List Int32) (v_many : List Int32) (v_items : List Int64) : Option (Int32 × List Int32 × List Int32 × List Int64) :=
    mm_bd1 (fX9_isShelf N x1) (fun (r_1 : Bool) =>
    if r_1 = false then
    (some ((-1 : Int32), v_shelf, v_many, v_items))
    else (mm_bd1 (fX9_within N ((x2).toInt64) (0 : Int64) (4 : Int64)) (fun (r_4 : Bool) =>
    if r_4 = false then
    (some ((-1 : Int32), v_shelf, v_many, v_items))
    else (if x3 ≤ (60 : Int32) then
    (if 0 ≤ x3 then
    (mm_nm (((50 : Int32) + x2)) (fun (y_9 : Int32) =>
    mm_ck (mm_inb x1 v_shelf.length) (mm_nm (mm_is v_shelf x1 y_9) (fun (l_11 : List Int32) =>
    mm_ck (mm_inb x1 v_many.length) (mm_nm (mm_is v_many x1 x3) (fun (l_13 : List Int32) =>
    mm_nm (((60 : Int32) * x1)) (fun (y_14 : Int32) =>
    fX9_row_57 N N x1 y_14 l_11 l_13 v_items)))))))
    else (some ((-14 : Int32), v_shelf, v_many, v_items)))
    else (some ((-1 : Int32), v_shelf, v_many, v_items))))))

set_option maxHeartbeats 4000000 in
set_option maxRecDepth 100000 in
theorem ctX9_row {l : Launch} {D : va_G} {cI cL cS cH : ClassId} {a : Nat → Nat} {x1 : Int32} {x2 : Int32} {x3 : Int32} {v_keptMany : Int32} {v_done : Int32} {v_rowsOf : Int32} {v_columnsOf : Int32} {v_folded : Int32} {v_wronged : Int32} {v_tapeMany : Int32} {v_textMany : Int32} {v_base : Int32} {v_at : Int32} {v_ends : Int32} {v_fault : Int32} {v_opened : Int32} {v_bentMany : Int32} {v_bentWrong : Int32} {v_moreWorn : Int32} {v_planned : Int32} {v_allWrong : Int32} {v_allWorn : Int32} {v_z : Int32} {v_wishedField : Int32} {v_isFound : Bool} {v_bestWrong : Int32} {v_bestWorn : Int32} {v_bestMany : Int32} {v_soughtBy : Int32} {v_sought : Int32} {v_soughtAt : Int32} {v_foundMany : Int32} {v_foundOrder : Int32} {v_isKept : Bool} {v_imageRows : Int32} {v_imageColumns : Int32} {v_imageFolded : Int32} {v_imageWronged : Int32} {v_bodies : Int32} {v_ran : Int32} {v_ownKind : Int32} {v_ownNumber : Int32} {v_limit : List Int32} {v_changeWas : List Int32} {v_changeIs : List Int32} {v_shapeRows : List Int32} {v_shapeColumns : List Int32} {v_row : List Int32} {v_column : List Int32} {v_below : List Int32} {v_face : List Int32} {v_worn : List Int32} {v_lastBend : List Int32} {v_tape : List Int32} {v_text : List Int32} {v_names : List Int32} {v_bends : List Int32} {v_high : List Int32} {v_to : List Int32} {v_pileSize : List Int32} {v_planLine : List Int32} {v_planWay : List Int32} {v_way1 : List Int32} {v_bestWay : List Int32} {v_order1 : List Int32} {v_placeIn : List Int32} {v_bodyKind : List Int32} {v_trace : List Int32} {v_shelf : List Int32} {v_many : List Int32} {v_items : List Int64} {v_carried : List Int64} {r : Int32} {w_shelf : List Int32} {w_many : List Int32} {w_items : List Int64} {N d : Nat} (hd : 3 ≤ d) (hf : fX9_row N x1 x2 x3 v_shelf v_many v_items = some (r, w_shelf, w_many, w_items)) : mm_Ct l yX9_row cX9_row 5 (some .int) d D (mm_T cI cL cS cH) [.ref (a 0), .int x1, .int x2, .int x3] (wd_X9 cI cL cS cH a v_keptMany v_done v_rowsOf v_columnsOf v_folded v_wronged v_tapeMany v_textMany v_base v_at v_ends v_fault v_opened v_bentMany v_bentWrong v_moreWorn v_planned v_allWrong v_allWorn v_z v_wishedField v_isFound v_bestWrong v_bestWorn v_bestMany v_soughtBy v_sought v_soughtAt v_foundMany v_foundOrder v_isKept v_imageRows v_imageColumns v_imageFolded v_imageWronged v_bodies v_ran v_ownKind v_ownNumber v_limit v_changeWas v_changeIs v_shapeRows v_shapeColumns v_row v_column v_below v_face v_worn v_lastBend v_tape v_text v_names v_bends v_high v_to v_pileSize v_planLine v_planWay v_way1 v_bestWay v_order1 v_placeIn v_bodyKind v_trace v_shelf v_many v_items v_carried) (wd_X9 cI cL cS cH a v_keptMany v_done v_rowsOf v_columnsOf v_folded v_wronged v_tapeMany v_textMany v_base v_at v_ends v_fault v_opened v_bentMany v_bentWrong v_moreWorn v_planned v_allWrong v_allWorn v_z v_wishedField v_isFound v_bestWrong v_bestWorn v_bestMany v_soughtBy v_sought v_soughtAt v_foundMany v_foundOrder v_isKept v_imageRows v_imageColumns v_imageFolded v_imageWronged v_bodies v_ran v_ownKind v_ownNumber v_limit v_changeWas v_changeIs v_shapeRows v_shapeColumns v_row v_column v_below v_face v_worn v_lastBend v_tape v_text v_names v_bends v_high v_to v_pileSize v_planLine v_planWay v_way1 v_bestWay v_order1 v_placeIn v_bodyKind v_trace w_shelf w_many w_items v_carried) (some (.int r)) := by
  refine mm_of (by decide) (Nat.le_of_ble_eq_true rfl) ?_
  intro p e s m args below meth c A H locs ls C0 hP hD hA hS hl
  have C0 : mm_Cx p s m args meth c RX9 cX9_row 5 (some .int) D (mm_T cI cL cS cH) A := C0
  obtain ⟨hx, hb, hml, hown, hts, hr, hlocks, hK, hSt⟩ := id C0
  have hl : lv_has ls 5 [(0, .ref (a 0)), (1, .int x1), (2, .int x2), (3, .int x3)] := hl
  unfold fX9_row at hf
  refine lv_iload_n hx hb dX9_row_0 rfl (lv_at hl 1 rfl) ?_
  obtain ⟨r_1, hc_2, hf⟩ := mm_bd1s hf
  refine mm_callS0 (rest := []) C0 lk_X9_274 (ctX9_isShelf (d := d - 1) (by omega) hc_2) (by omega) rfl hl.1 rfl (mm_cat rfl) dX9_row_1 hP hD hA hS (fun H locs hP hS => ?_)
  refine W.eq (g2 := F0 m 4 ls [.int (mm_b r_1)]) rfl ?_
  refine lv_if_eq (tgt := 25) hx hb dX9_row_4 (by decide) (fun c_3 => ?_) (fun c_3 => ?_)
  · have hf := mm_ip hf (mm_b0 c_3)
    refine lv_iconst (v := -1) hx hb dX9_row_25 (by decide) ?_
    apply mm_sub4 hf
    exact mm_iret C0 hP hD hS dX9_row_26
  · have hf := mm_in hf (mm_b1 c_3)
    refine lv_iload_n hx hb dX9_row_7 rfl (lv_at hl 2 rfl) ?_
    refine lv_i2l hx hb dX9_row_8 rfl ?_
    refine lv_lconst (v := 0) hx hb dX9_row_9 (by decide) ?_
    refine lv_ldc2 hx hb hown (hts _ kc_X9_141) dX9_row_10 ?_
    obtain ⟨r_4, hc_5, hf⟩ := mm_bd1s hf
    refine mm_callS0 (rest := []) C0 lk_X9_111 (ctX9_within (d := d - 1) (by omega) hc_5) (by omega) rfl hl.1 rfl (mm_cat rfl) dX9_row_13 hP hD hA hS (fun H locs hP hS => ?_)
    refine W.eq (g2 := F0 m 16 ls [.int (mm_b r_4)]) rfl ?_
    refine lv_if_eq (tgt := 25) hx hb dX9_row_16 (by decide) (fun c_6 => ?_) (fun c_6 => ?_)
    · have hf := mm_ip hf (mm_b0 c_6)
      refine lv_iconst (v := -1) hx hb dX9_row_25 (by decide) ?_
      apply mm_sub4 hf
      exact mm_iret C0 hP hD hS dX9_row_26
    · have hf := mm_in hf (mm_b1 c_6)
      refine lv_iload_n hx hb dX9_row_19 rfl (lv_at hl 3 rfl) ?_
      refine lv_bipush (v := 60) hx hb dX9_row_20 (by decide) ?_
      refine lv_icmp_le (tgt := 27) hx hb dX9_row_22 (by decide) (fun c_7 => ?_) (fun c_7 => ?_)
      · have hf := mm_ip hf c_7
        refine lv_iload_n hx hb dX9_row_27 rfl (lv_at hl 3 rfl) ?_
        refine lv_if_ge (tgt := 34) hx hb dX9_row_28 (by decide) (fun c_8 => ?_) (fun c_8 => ?_)
        · have hf := mm_ip hf c_8
          refine lv_aload_n hx hb dX9_row_34 rfl (lv_at hl 0 rfl) ?_
          refine mm_get C0 hP iw_X9 0 rfl rfl 65 (by decide) fl_X9_88 rfl dX9_row_35 ?_
          refine lv_iload_n hx hb dX9_row_38 rfl (lv_at hl 1 rfl) ?_
          refine lv_bipush (v := 50) hx hb dX9_row_39 (by decide) ?_
          refine lv_iload_n hx hb dX9_row_41 rfl (lv_at hl 2 rfl) ?_
          refine lv_iadd hx hb dX9_row_42 ?_
          refine lv_topi (fun y_9 ey_9 => ?_)
          have hf := mm_nms hf ey_9
          obtain ⟨h_10, hf⟩ := mm_cks hf
          refine mm_iast C0 hP hD hS 27 rfl h_10 dX9_row_43 (w2 := (wd_X9 cI cL cS cH a v_keptMany v_done v_rowsOf v_columnsOf v_folded v_wronged v_tapeMany v_textMany v_base v_at v_ends v_fault v_opened v_bentMany v_bentWrong v_moreWorn v_planned v_allWrong v_allWorn v_z v_wishedField v_isFound v_bestWrong v_bestWorn v_bestMany v_soughtBy v_sought v_soughtAt v_foundMany v_foundOrder v_isKept v_imageRows v_imageColumns v_imageFolded v_imageWronged v_bodies v_ran v_ownKind v_ownNumber v_limit v_changeWas v_changeIs v_shapeRows v_shapeColumns v_row v_column v_below v_face v_worn v_lastBend v_tape v_text v_names v_bends v_high v_to v_pileSize v_planLine v_planWay v_way1 v_bestWay v_order1 v_placeIn v_bodyKind v_trace (mm_is v_shelf x1 y_9) v_many v_items v_carried)) rfl (fun H locs hP hD hS => ?_)
          generalize el_11 : (mm_is v_shelf x1 y_9) = l_11 at hP hD
          have hf := mm_nms hf el_11.symm
          refine lv_aload_n hx hb dX9_row_44 rfl (lv_at hl 0 rfl) ?_
          refine mm_get C0 hP iw_X9 0 rfl rfl 66 (by decide) fl_X9_91 rfl dX9_row_45 ?_
          refine lv_iload_n hx hb dX9_row_48 rfl (lv_at hl 1 rfl) ?_
          refine lv_iload_n hx hb dX9_row_49 rfl (lv_at hl 3 rfl) ?_
          obtain ⟨h_12, hf⟩ := mm_cks hf
          refine mm_iast C0 hP hD hS 28 rfl h_12 dX9_row_50 (w2 := (wd_X9 cI cL cS cH a v_keptMany v_done v_rowsOf v_columnsOf v_folded v_wronged v_tapeMany v_textMany v_base v_at v_ends v_fault v_opened v_bentMany v_bentWrong v_moreWorn v_planned v_allWrong v_allWorn v_z v_wishedField v_isFound v_bestWrong v_bestWorn v_bestMany v_soughtBy v_sought v_soughtAt v_foundMany v_foundOrder v_isKept v_imageRows v_imageColumns v_imageFolded v_imageWronged v_bodies v_ran v_ownKind v_ownNumber v_limit v_changeWas v_changeIs v_shapeRows v_shapeColumns v_row v_column v_below v_face v_worn v_lastBend v_tape v_text v_names v_bends v_high v_to v_pileSize v_planLine v_planWay v_way1 v_bestWay v_order1 v_placeIn v_bodyKind v_trace l_11 (mm_is v_many x1 x3) v_items v_carried)) rfl (fun H locs hP hD hS => ?_)
          generalize el_13 : (mm_is v_many x1 x3) = l_13 at hP hD
          have hf := mm_nms hf el_13.symm
          refine lv_bipush (v := 60) hx hb dX9_row_51 (by decide) ?_
          refine lv_iload_n hx hb dX9_row_53 rfl (lv_at hl 1 rfl) ?_
          refine lv_imul hx hb dX9_row_54 ?_
          refine lv_topi (fun y_14 ey_14 => ?_)
          have hf := mm_nms hf ey_14
          refine lv_istore (lv' := [(4, .int y_14), (0, .ref (a 0)), (1, .int x1), (2, .int x2), (3, .int x3)]) hx hb dX9_row_55 hl (by decide) rfl (fun ls hl => ?_)
          exact tX9_row_57 hd C0 hA N  N _ _ _ _ _ H locs ls hf hP hD hS (lv_sub hl [1, 2, 0] rfl)
        · have hf := mm_in hf c_8
          refine lv_bipush (v := -14) hx hb dX9_row_31 (by decide) ?_
          apply mm_sub4 hf
          exact mm_iret C0 hP hD hS dX9_row_33
      · have hf := mm_in hf c_7
        refine lv_iconst (v := -1) hx hb dX9_row_25 (by decide) ?_
        apply mm_sub4 hf
        exact mm_iret C0 hP hD hS dX9_row_26

theorem nb_dX9_refusal_0 : bls_w cX9_refusal [(0, [27]), (1, [184, 1, 18]), (4, [154, 0, 5]), (7, [2]), (8, [172]), (9, [42]), (10, [180, 0, 88]), (13, [27]), (14, [46]), (15, [156, 0, 6]), (18, [16, 245]), (20, [172])] := bls_of (by decide +kernel)
theorem dX9_refusal_0 : decode cX9_refusal 0 = .ok (.iload_n 1, 1) := op_27 nb_dX9_refusal_0.1
set_option maxRecDepth 100000 in
theorem dX9_refusal_1 : decode cX9_refusal 1 = .ok (.invokestatic 274, 3) := (op_184 nb_dX9_refusal_0.2.1).trans rfl
set_option maxRecDepth 100000 in
theorem dX9_refusal_4 : decode cX9_refusal 4 = .ok (.ifCond .ne 5, 3) := (op_154 nb_dX9_refusal_0.2.2.1).trans rfl
theorem dX9_refusal_7 : decode cX9_refusal 7 = .ok (.iconst (-1), 1) := op_2 nb_dX9_refusal_0.2.2.2.1
theorem dX9_refusal_8 : decode cX9_refusal 8 = .ok (.ireturn, 1) := op_172 nb_dX9_refusal_0.2.2.2.2.1
theorem dX9_refusal_9 : decode cX9_refusal 9 = .ok (.aload_n 0, 1) := op_42 nb_dX9_refusal_0.2.2.2.2.2.1
set_option maxRecDepth 100000 in
theorem dX9_refusal_10 : decode cX9_refusal 10 = .ok (.getfield 88, 3) := (op_180 nb_dX9_refusal_0.2.2.2.2.2.2.1).trans rfl
theorem dX9_refusal_13 : decode cX9_refusal 13 = .ok (.iload_n 1, 1) := op_27 nb_dX9_refusal_0.2.2.2.2.2.2.2.1
theorem dX9_refusal_14 : decode cX9_refusal 14 = .ok (.iaload, 1) := op_46 nb_dX9_refusal_0.2.2.2.2.2.2.2.2.1
set_option maxRecDepth 100000 in
theorem dX9_refusal_15 : decode cX9_refusal 15 = .ok (.ifCond .ge 6, 3) := (op_156 nb_dX9_refusal_0.2.2.2.2.2.2.2.2.2.1).trans rfl
set_option maxRecDepth 100000 in
theorem dX9_refusal_18 : decode cX9_refusal 18 = .ok (.bipush (-11), 2) := (op_16 nb_dX9_refusal_0.2.2.2.2.2.2.2.2.2.2.1).trans rfl
theorem dX9_refusal_20 : decode cX9_refusal 20 = .ok (.ireturn, 1) := op_172 nb_dX9_refusal_0.2.2.2.2.2.2.2.2.2.2.2.1
theorem nb_dX9_refusal_21 : bls_w cX9_refusal [(21, [42]), (22, [180, 0, 88]), (25, [27]), (26, [46]), (27, [16, 50]), (29, [162, 0, 6]), (32, [16, 244]), (34, [172]), (35, [28]), (36, [155, 0, 17]), (39, [28]), (40, [42])] := bls_of (by decide +kernel)
theorem dX9_refusal_21 : decode cX9_refusal 21 = .ok (.aload_n 0, 1) := op_42 nb_dX9_refusal_21.1
set_option maxRecDepth 100000 in
theorem dX9_refusal_22 : decode cX9_refusal 22 = .ok (.getfield 88, 3) := (op_180 nb_dX9_refusal_21.2.1).trans rfl
theorem dX9_refusal_25 : decode cX9_refusal 25 = .ok (.iload_n 1, 1) := op_27 nb_dX9_refusal_21.2.2.1
theorem dX9_refusal_26 : decode cX9_refusal 26 = .ok (.iaload, 1) := op_46 nb_dX9_refusal_21.2.2.2.1
set_option maxRecDepth 100000 in
theorem dX9_refusal_27 : decode cX9_refusal 27 = .ok (.bipush 50, 2) := (op_16 nb_dX9_refusal_21.2.2.2.2.1).trans rfl
set_option maxRecDepth 100000 in
theorem dX9_refusal_29 : decode cX9_refusal 29 = .ok (.if_icmp .ge 6, 3) := (op_162 nb_dX9_refusal_21.2.2.2.2.2.1).trans rfl
set_option maxRecDepth 100000 in
theorem dX9_refusal_32 : decode cX9_refusal 32 = .ok (.bipush (-12), 2) := (op_16 nb_dX9_refusal_21.2.2.2.2.2.2.1).trans rfl
theorem dX9_refusal_34 : decode cX9_refusal 34 = .ok (.ireturn, 1) := op_172 nb_dX9_refusal_21.2.2.2.2.2.2.2.1
theorem dX9_refusal_35 : decode cX9_refusal 35 = .ok (.iload_n 2, 1) := op_28 nb_dX9_refusal_21.2.2.2.2.2.2.2.2.1
set_option maxRecDepth 100000 in
theorem dX9_refusal_36 : decode cX9_refusal 36 = .ok (.ifCond .lt 17, 3) := (op_155 nb_dX9_refusal_21.2.2.2.2.2.2.2.2.2.1).trans rfl
theorem dX9_refusal_39 : decode cX9_refusal 39 = .ok (.iload_n 2, 1) := op_28 nb_dX9_refusal_21.2.2.2.2.2.2.2.2.2.2.1
theorem dX9_refusal_40 : decode cX9_refusal 40 = .ok (.aload_n 0, 1) := op_42 nb_dX9_refusal_21.2.2.2.2.2.2.2.2.2.2.2.1
theorem nb_dX9_refusal_41 : bls_w cX9_refusal [(41, [180, 0, 91]), (44, [27]), (45, [46]), (46, [162, 0, 7]), (49, [3]), (50, [167, 0, 5]), (53, [16, 243]), (55, [172])] := bls_of (by decide +kernel)
set_option maxRecDepth 100000 in
theorem dX9_refusal_41 : decode cX9_refusal 41 = .ok (.getfield 91, 3) := (op_180 nb_dX9_refusal_41.1).trans rfl
theorem dX9_refusal_44 : decode cX9_refusal 44 = .ok (.iload_n 1, 1) := op_27 nb_dX9_refusal_41.2.1
theorem dX9_refusal_45 : decode cX9_refusal 45 = .ok (.iaload, 1) := op_46 nb_dX9_refusal_41.2.2.1
set_option maxRecDepth 100000 in
theorem dX9_refusal_46 : decode cX9_refusal 46 = .ok (.if_icmp .ge 7, 3) := (op_162 nb_dX9_refusal_41.2.2.2.1).trans rfl
theorem dX9_refusal_49 : decode cX9_refusal 49 = .ok (.iconst 0, 1) := op_3 nb_dX9_refusal_41.2.2.2.2.1
set_option maxRecDepth 100000 in
theorem dX9_refusal_50 : decode cX9_refusal 50 = .ok (.goto 5, 3) := (op_167 nb_dX9_refusal_41.2.2.2.2.2.1).trans rfl
set_option maxRecDepth 100000 in
theorem dX9_refusal_53 : decode cX9_refusal 53 = .ok (.bipush (-13), 2) := (op_16 nb_dX9_refusal_41.2.2.2.2.2.2.1).trans rfl
theorem dX9_refusal_55 : decode cX9_refusal 55 = .ok (.ireturn, 1) := op_172 nb_dX9_refusal_41.2.2.2.2.2.2.2.1
def fX9_refusal (N : Nat) (x1 : Int32) (x2 : Int32) (v_shelf : List Int32) (v_many : List Int32) : Option (Int32) :=
    mm_bd1 (fX9_isShelf N x1) (fun (r_1 : Bool) =>
    if r_1 = false then
    (some ((-1 : Int32)))
    else (mm_ck (mm_inb x1 v_shelf.length) (if 0 ≤ (mm_ig v_shelf x1) then
    (mm_ck (mm_inb x1 v_shelf.length) (if (50 : Int32) ≤ (mm_ig v_shelf x1) then
    (if x2 < 0 then
    (some ((-13 : Int32)))
    else (mm_ck (mm_inb x1 v_many.length) (if (mm_ig v_many x1) ≤ x2 then
    (some ((-13 : Int32)))
    else (some ((0 : Int32))))))
    else (some ((-12 : Int32)))))
    else (some ((-11 : Int32))))))

set_option maxHeartbeats 4000000 in
set_option maxRecDepth 100000 in
theorem ctX9_refusal {l : Launch} {D : va_G} {cI cL cS cH : ClassId} {a : Nat → Nat} {x1 : Int32} {x2 : Int32} {v_keptMany : Int32} {v_done : Int32} {v_rowsOf : Int32} {v_columnsOf : Int32} {v_folded : Int32} {v_wronged : Int32} {v_tapeMany : Int32} {v_textMany : Int32} {v_base : Int32} {v_at : Int32} {v_ends : Int32} {v_fault : Int32} {v_opened : Int32} {v_bentMany : Int32} {v_bentWrong : Int32} {v_moreWorn : Int32} {v_planned : Int32} {v_allWrong : Int32} {v_allWorn : Int32} {v_z : Int32} {v_wishedField : Int32} {v_isFound : Bool} {v_bestWrong : Int32} {v_bestWorn : Int32} {v_bestMany : Int32} {v_soughtBy : Int32} {v_sought : Int32} {v_soughtAt : Int32} {v_foundMany : Int32} {v_foundOrder : Int32} {v_isKept : Bool} {v_imageRows : Int32} {v_imageColumns : Int32} {v_imageFolded : Int32} {v_imageWronged : Int32} {v_bodies : Int32} {v_ran : Int32} {v_ownKind : Int32} {v_ownNumber : Int32} {v_limit : List Int32} {v_changeWas : List Int32} {v_changeIs : List Int32} {v_shapeRows : List Int32} {v_shapeColumns : List Int32} {v_row : List Int32} {v_column : List Int32} {v_below : List Int32} {v_face : List Int32} {v_worn : List Int32} {v_lastBend : List Int32} {v_tape : List Int32} {v_text : List Int32} {v_names : List Int32} {v_bends : List Int32} {v_high : List Int32} {v_to : List Int32} {v_pileSize : List Int32} {v_planLine : List Int32} {v_planWay : List Int32} {v_way1 : List Int32} {v_bestWay : List Int32} {v_order1 : List Int32} {v_placeIn : List Int32} {v_bodyKind : List Int32} {v_trace : List Int32} {v_shelf : List Int32} {v_many : List Int32} {v_items : List Int64} {v_carried : List Int64} {r : Int32} {N d : Nat} (hd : 3 ≤ d) (hf : fX9_refusal N x1 x2 v_shelf v_many = some r) : mm_Ct l yX9_refusal cX9_refusal 3 (some .int) d D (mm_T cI cL cS cH) [.ref (a 0), .int x1, .int x2] (wd_X9 cI cL cS cH a v_keptMany v_done v_rowsOf v_columnsOf v_folded v_wronged v_tapeMany v_textMany v_base v_at v_ends v_fault v_opened v_bentMany v_bentWrong v_moreWorn v_planned v_allWrong v_allWorn v_z v_wishedField v_isFound v_bestWrong v_bestWorn v_bestMany v_soughtBy v_sought v_soughtAt v_foundMany v_foundOrder v_isKept v_imageRows v_imageColumns v_imageFolded v_imageWronged v_bodies v_ran v_ownKind v_ownNumber v_limit v_changeWas v_changeIs v_shapeRows v_shapeColumns v_row v_column v_below v_face v_worn v_lastBend v_tape v_text v_names v_bends v_high v_to v_pileSize v_planLine v_planWay v_way1 v_bestWay v_order1 v_placeIn v_bodyKind v_trace v_shelf v_many v_items v_carried) (wd_X9 cI cL cS cH a v_keptMany v_done v_rowsOf v_columnsOf v_folded v_wronged v_tapeMany v_textMany v_base v_at v_ends v_fault v_opened v_bentMany v_bentWrong v_moreWorn v_planned v_allWrong v_allWorn v_z v_wishedField v_isFound v_bestWrong v_bestWorn v_bestMany v_soughtBy v_sought v_soughtAt v_foundMany v_foundOrder v_isKept v_imageRows v_imageColumns v_imageFolded v_imageWronged v_bodies v_ran v_ownKind v_ownNumber v_limit v_changeWas v_changeIs v_shapeRows v_shapeColumns v_row v_column v_below v_face v_worn v_lastBend v_tape v_text v_names v_bends v_high v_to v_pileSize v_planLine v_planWay v_way1 v_bestWay v_order1 v_placeIn v_bodyKind v_trace v_shelf v_many v_items v_carried) (some (.int r)) := by
  refine mm_of (by decide) (Nat.le_of_ble_eq_true rfl) ?_
  intro p e s m args below meth c A H locs ls C0 hP hD hA hS hl
  have C0 : mm_Cx p s m args meth c RX9 cX9_refusal 3 (some .int) D (mm_T cI cL cS cH) A := C0
  obtain ⟨hx, hb, hml, hown, hts, hr, hlocks, hK, hSt⟩ := id C0
  have hl : lv_has ls 3 [(0, .ref (a 0)), (1, .int x1), (2, .int x2)] := hl
  unfold fX9_refusal at hf
  refine lv_iload_n hx hb dX9_refusal_0 rfl (lv_at hl 1 rfl) ?_
  obtain ⟨r_1, hc_2, hf⟩ := mm_bd1s hf
  refine mm_callS0 (rest := []) C0 lk_X9_274 (ctX9_isShelf (d := d - 1) (by omega) hc_2) (by omega) rfl hl.1 rfl (mm_cat rfl) dX9_refusal_1 hP hD hA hS (fun H locs hP hS => ?_)
  refine W.eq (g2 := F0 m 4 ls [.int (mm_b r_1)]) rfl ?_
  refine lv_if_ne (tgt := 9) hx hb dX9_refusal_4 (by decide) (fun c_3 => ?_) (fun c_3 => ?_)
  · have hf := mm_in hf (mm_b1 c_3)
    refine lv_aload_n hx hb dX9_refusal_9 rfl (lv_at hl 0 rfl) ?_
    refine mm_get C0 hP iw_X9 0 rfl rfl 65 (by decide) fl_X9_88 rfl dX9_refusal_10 ?_
    refine lv_iload_n hx hb dX9_refusal_13 rfl (lv_at hl 1 rfl) ?_
    obtain ⟨h_4, hf⟩ := mm_cks hf
    refine mm_iald C0 hP 27 rfl h_4 dX9_refusal_14 ?_
    refine lv_if_ge (tgt := 21) hx hb dX9_refusal_15 (by decide) (fun c_5 => ?_) (fun c_5 => ?_)
    · have hf := mm_ip hf c_5
      refine lv_aload_n hx hb dX9_refusal_21 rfl (lv_at hl 0 rfl) ?_
      refine mm_get C0 hP iw_X9 0 rfl rfl 65 (by decide) fl_X9_88 rfl dX9_refusal_22 ?_
      refine lv_iload_n hx hb dX9_refusal_25 rfl (lv_at hl 1 rfl) ?_
      obtain ⟨h_6, hf⟩ := mm_cks hf
      refine mm_iald C0 hP 27 rfl h_6 dX9_refusal_26 ?_
      refine lv_bipush (v := 50) hx hb dX9_refusal_27 (by decide) ?_
      refine lv_icmp_ge (tgt := 35) hx hb dX9_refusal_29 (by decide) (fun c_7 => ?_) (fun c_7 => ?_)
      · have hf := mm_ip hf c_7
        refine lv_iload_n hx hb dX9_refusal_35 rfl (lv_at hl 2 rfl) ?_
        refine lv_if_lt (tgt := 53) hx hb dX9_refusal_36 (by decide) (fun c_8 => ?_) (fun c_8 => ?_)
        · have hf := mm_ip hf c_8
          refine lv_bipush (v := -13) hx hb dX9_refusal_53 (by decide) ?_
          obtain rfl := mm_inj1 hf
          exact mm_iret C0 hP hD hS dX9_refusal_55
        · have hf := mm_in hf c_8
          refine lv_iload_n hx hb dX9_refusal_39 rfl (lv_at hl 2 rfl) ?_
          refine lv_aload_n hx hb dX9_refusal_40 rfl (lv_at hl 0 rfl) ?_
          refine mm_get C0 hP iw_X9 0 rfl rfl 66 (by decide) fl_X9_91 rfl dX9_refusal_41 ?_
          refine lv_iload_n hx hb dX9_refusal_44 rfl (lv_at hl 1 rfl) ?_
          obtain ⟨h_9, hf⟩ := mm_cks hf
          refine mm_iald C0 hP 28 rfl h_9 dX9_refusal_45 ?_
          refine lv_icmp_ge (tgt := 53) hx hb dX9_refusal_46 (by decide) (fun c_10 => ?_) (fun c_10 => ?_)
          · have hf := mm_ip hf c_10
            refine lv_bipush (v := -13) hx hb dX9_refusal_53 (by decide) ?_
            obtain rfl := mm_inj1 hf
            exact mm_iret C0 hP hD hS dX9_refusal_55
          · have hf := mm_in hf c_10
            refine lv_iconst (v := 0) hx hb dX9_refusal_49 (by decide) ?_
            refine lv_goto (tgt := 55) hx hb dX9_refusal_50 (by decide) ?_
            obtain rfl := mm_inj1 hf
            exact mm_iret C0 hP hD hS dX9_refusal_55
      · have hf := mm_in hf c_7
        refine lv_bipush (v := -12) hx hb dX9_refusal_32 (by decide) ?_
        obtain rfl := mm_inj1 hf
        exact mm_iret C0 hP hD hS dX9_refusal_34
    · have hf := mm_in hf c_5
      refine lv_bipush (v := -11) hx hb dX9_refusal_18 (by decide) ?_
      obtain rfl := mm_inj1 hf
      exact mm_iret C0 hP hD hS dX9_refusal_20
  · have hf := mm_ip hf (mm_b0 c_3)
    refine lv_iconst (v := -1) hx hb dX9_refusal_7 (by decide) ?_
    obtain rfl := mm_inj1 hf
    exact mm_iret C0 hP hD hS dX9_refusal_8

theorem nb_dX9_asSort_0 : bls_w cX9_asSort [(0, [26]), (1, [154, 0, 10]), (4, [31]), (5, [136]), (6, [145]), (7, [133]), (8, [167, 0, 46]), (11, [26]), (12, [4]), (13, [160, 0, 10]), (16, [31]), (17, [136])] := bls_of (by decide +kernel)
theorem dX9_asSort_0 : decode cX9_asSort 0 = .ok (.iload_n 0, 1) := op_26 nb_dX9_asSort_0.1
set_option maxRecDepth 100000 in
theorem dX9_asSort_1 : decode cX9_asSort 1 = .ok (.ifCond .ne 10, 3) := (op_154 nb_dX9_asSort_0.2.1).trans rfl
theorem dX9_asSort_4 : decode cX9_asSort 4 = .ok (.lload_n 1, 1) := op_31 nb_dX9_asSort_0.2.2.1
theorem dX9_asSort_5 : decode cX9_asSort 5 = .ok (.l2i, 1) := op_136 nb_dX9_asSort_0.2.2.2.1
theorem dX9_asSort_6 : decode cX9_asSort 6 = .ok (.i2b, 1) := op_145 nb_dX9_asSort_0.2.2.2.2.1
theorem dX9_asSort_7 : decode cX9_asSort 7 = .ok (.i2l, 1) := op_133 nb_dX9_asSort_0.2.2.2.2.2.1
set_option maxRecDepth 100000 in
theorem dX9_asSort_8 : decode cX9_asSort 8 = .ok (.goto 46, 3) := (op_167 nb_dX9_asSort_0.2.2.2.2.2.2.1).trans rfl
theorem dX9_asSort_11 : decode cX9_asSort 11 = .ok (.iload_n 0, 1) := op_26 nb_dX9_asSort_0.2.2.2.2.2.2.2.1
theorem dX9_asSort_12 : decode cX9_asSort 12 = .ok (.iconst 1, 1) := op_4 nb_dX9_asSort_0.2.2.2.2.2.2.2.2.1
set_option maxRecDepth 100000 in
theorem dX9_asSort_13 : decode cX9_asSort 13 = .ok (.if_icmp .ne 10, 3) := (op_160 nb_dX9_asSort_0.2.2.2.2.2.2.2.2.2.1).trans rfl
theorem dX9_asSort_16 : decode cX9_asSort 16 = .ok (.lload_n 1, 1) := op_31 nb_dX9_asSort_0.2.2.2.2.2.2.2.2.2.2.1
theorem dX9_asSort_17 : decode cX9_asSort 17 = .ok (.l2i, 1) := op_136 nb_dX9_asSort_0.2.2.2.2.2.2.2.2.2.2.2.1
theorem nb_dX9_asSort_18 : bls_w cX9_asSort [(18, [147]), (19, [133]), (20, [167, 0, 34]), (23, [26]), (24, [5]), (25, [160, 0, 9]), (28, [31]), (29, [136]), (30, [133]), (31, [167, 0, 23]), (34, [26]), (35, [7])] := bls_of (by decide +kernel)
theorem dX9_asSort_18 : decode cX9_asSort 18 = .ok (.i2s, 1) := op_147 nb_dX9_asSort_18.1
theorem dX9_asSort_19 : decode cX9_asSort 19 = .ok (.i2l, 1) := op_133 nb_dX9_asSort_18.2.1
set_option maxRecDepth 100000 in
theorem dX9_asSort_20 : decode cX9_asSort 20 = .ok (.goto 34, 3) := (op_167 nb_dX9_asSort_18.2.2.1).trans rfl
theorem dX9_asSort_23 : decode cX9_asSort 23 = .ok (.iload_n 0, 1) := op_26 nb_dX9_asSort_18.2.2.2.1
theorem dX9_asSort_24 : decode cX9_asSort 24 = .ok (.iconst 2, 1) := op_5 nb_dX9_asSort_18.2.2.2.2.1
set_option maxRecDepth 100000 in
theorem dX9_asSort_25 : decode cX9_asSort 25 = .ok (.if_icmp .ne 9, 3) := (op_160 nb_dX9_asSort_18.2.2.2.2.2.1).trans rfl
theorem dX9_asSort_28 : decode cX9_asSort 28 = .ok (.lload_n 1, 1) := op_31 nb_dX9_asSort_18.2.2.2.2.2.2.1
theorem dX9_asSort_29 : decode cX9_asSort 29 = .ok (.l2i, 1) := op_136 nb_dX9_asSort_18.2.2.2.2.2.2.2.1
theorem dX9_asSort_30 : decode cX9_asSort 30 = .ok (.i2l, 1) := op_133 nb_dX9_asSort_18.2.2.2.2.2.2.2.2.1
set_option maxRecDepth 100000 in
theorem dX9_asSort_31 : decode cX9_asSort 31 = .ok (.goto 23, 3) := (op_167 nb_dX9_asSort_18.2.2.2.2.2.2.2.2.2.1).trans rfl
theorem dX9_asSort_34 : decode cX9_asSort 34 = .ok (.iload_n 0, 1) := op_26 nb_dX9_asSort_18.2.2.2.2.2.2.2.2.2.2.1
theorem dX9_asSort_35 : decode cX9_asSort 35 = .ok (.iconst 4, 1) := op_7 nb_dX9_asSort_18.2.2.2.2.2.2.2.2.2.2.2.1
theorem nb_dX9_asSort_36 : bls_w cX9_asSort [(36, [160, 0, 17]), (39, [31]), (40, [9]), (41, [148]), (42, [153, 0, 7]), (45, [10]), (46, [167, 0, 8]), (49, [9]), (50, [167, 0, 4]), (53, [31]), (54, [173])] := bls_of (by decide +kernel)
set_option maxRecDepth 100000 in
theorem dX9_asSort_36 : decode cX9_asSort 36 = .ok (.if_icmp .ne 17, 3) := (op_160 nb_dX9_asSort_36.1).trans rfl
theorem dX9_asSort_39 : decode cX9_asSort 39 = .ok (.lload_n 1, 1) := op_31 nb_dX9_asSort_36.2.1
theorem dX9_asSort_40 : decode cX9_asSort 40 = .ok (.lconst 0, 1) := op_9 nb_dX9_asSort_36.2.2.1
theorem dX9_asSort_41 : decode cX9_asSort 41 = .ok (.lcmp, 1) := op_148 nb_dX9_asSort_36.2.2.2.1
set_option maxRecDepth 100000 in
theorem dX9_asSort_42 : decode cX9_asSort 42 = .ok (.ifCond .eq 7, 3) := (op_153 nb_dX9_asSort_36.2.2.2.2.1).trans rfl
theorem dX9_asSort_45 : decode cX9_asSort 45 = .ok (.lconst 1, 1) := op_10 nb_dX9_asSort_36.2.2.2.2.2.1
set_option maxRecDepth 100000 in
theorem dX9_asSort_46 : decode cX9_asSort 46 = .ok (.goto 8, 3) := (op_167 nb_dX9_asSort_36.2.2.2.2.2.2.1).trans rfl
theorem dX9_asSort_49 : decode cX9_asSort 49 = .ok (.lconst 0, 1) := op_9 nb_dX9_asSort_36.2.2.2.2.2.2.2.1
set_option maxRecDepth 100000 in
theorem dX9_asSort_50 : decode cX9_asSort 50 = .ok (.goto 4, 3) := (op_167 nb_dX9_asSort_36.2.2.2.2.2.2.2.2.1).trans rfl
theorem dX9_asSort_53 : decode cX9_asSort 53 = .ok (.lload_n 1, 1) := op_31 nb_dX9_asSort_36.2.2.2.2.2.2.2.2.2.1
theorem dX9_asSort_54 : decode cX9_asSort 54 = .ok (.lreturn, 1) := op_173 nb_dX9_asSort_36.2.2.2.2.2.2.2.2.2.2.1
def fX9_asSort (N : Nat) (x0 : Int32) (x1 : Int64) : Option (Int64) :=
    if x0 = 0 then
    (some ((((x1.toInt32).toInt8.toInt32).toInt64)))
    else (if x0 = (1 : Int32) then
    (some ((((x1.toInt32).toInt16.toInt32).toInt64)))
    else (if x0 = (2 : Int32) then
    (some (((x1.toInt32).toInt64)))
    else (if x0 = (4 : Int32) then
    (if (lg_cmp x1 (0 : Int64)) = 0 then
    (some ((0 : Int64)))
    else (some ((1 : Int64))))
    else (some (x1)))))

set_option maxHeartbeats 4000000 in
set_option maxRecDepth 100000 in
theorem ctX9_asSort {l : Launch} {D : va_G} {cI cL cS cH : ClassId} {x0 : Int32} {x1 : Int64}  {r : Int64} {N d : Nat} (hd : 1 ≤ d) (hf : fX9_asSort N x0 x1 = some r) : mm_Ct l yX9_asSort cX9_asSort 3 (some .long) d D (mm_T cI cL cS cH) [.int x0, .long x1] ([] : va_W) ([] : va_W) (some (.long r)) := by
  refine mm_of (by decide) (Nat.le_of_ble_eq_true rfl) ?_
  intro p e s m args below meth c A H locs ls C0 hP hD hA hS hl
  have C0 : mm_Cx p s m args meth c RX9 cX9_asSort 3 (some .long) D (mm_T cI cL cS cH) A := C0
  obtain ⟨hx, hb, hml, hown, hts, hr, hlocks, hK, hSt⟩ := id C0
  have hl : lv_has ls 3 [(0, .int x0), (1, .long x1)] := hl
  unfold fX9_asSort at hf
  refine lv_iload_n hx hb dX9_asSort_0 rfl (lv_at hl 0 rfl) ?_
  refine lv_if_ne (tgt := 11) hx hb dX9_asSort_1 (by decide) (fun c_1 => ?_) (fun c_1 => ?_)
  · have hf := mm_in hf c_1
    refine lv_iload_n hx hb dX9_asSort_11 rfl (lv_at hl 0 rfl) ?_
    refine lv_iconst (v := 1) hx hb dX9_asSort_12 (by decide) ?_
    refine lv_icmp_ne (tgt := 23) hx hb dX9_asSort_13 (by decide) (fun c_2 => ?_) (fun c_2 => ?_)
    · have hf := mm_in hf c_2
      refine lv_iload_n hx hb dX9_asSort_23 rfl (lv_at hl 0 rfl) ?_
      refine lv_iconst (v := 2) hx hb dX9_asSort_24 (by decide) ?_
      refine lv_icmp_ne (tgt := 34) hx hb dX9_asSort_25 (by decide) (fun c_3 => ?_) (fun c_3 => ?_)
      · have hf := mm_in hf c_3
        refine lv_iload_n hx hb dX9_asSort_34 rfl (lv_at hl 0 rfl) ?_
        refine lv_iconst (v := 4) hx hb dX9_asSort_35 (by decide) ?_
        refine lv_icmp_ne (tgt := 53) hx hb dX9_asSort_36 (by decide) (fun c_4 => ?_) (fun c_4 => ?_)
        · have hf := mm_in hf c_4
          refine lv_lload_n hx hb dX9_asSort_53 rfl (lv_at hl 1 rfl) ?_
          obtain rfl := mm_inj1 hf
          exact mm_lret C0 hP hD hS dX9_asSort_54
        · have hf := mm_ip hf c_4
          refine lv_lload_n hx hb dX9_asSort_39 rfl (lv_at hl 1 rfl) ?_
          refine lv_lconst (v := 0) hx hb dX9_asSort_40 (by decide) ?_
          refine W.lcmp hx hb dX9_asSort_41 ?_
          refine lv_if_eq (tgt := 49) hx hb dX9_asSort_42 (by decide) (fun c_5 => ?_) (fun c_5 => ?_)
          · have hf := mm_ip hf c_5
            refine lv_lconst (v := 0) hx hb dX9_asSort_49 (by decide) ?_
            refine lv_goto (tgt := 54) hx hb dX9_asSort_50 (by decide) ?_
            obtain rfl := mm_inj1 hf
            exact mm_lret C0 hP hD hS dX9_asSort_54
          · have hf := mm_in hf c_5
            refine lv_lconst (v := 1) hx hb dX9_asSort_45 (by decide) ?_
            refine lv_goto (tgt := 54) hx hb dX9_asSort_46 (by decide) ?_
            obtain rfl := mm_inj1 hf
            exact mm_lret C0 hP hD hS dX9_asSort_54
      · have hf := mm_ip hf c_3
        refine lv_lload_n hx hb dX9_asSort_28 rfl (lv_at hl 1 rfl) ?_
        refine lv_l2i hx hb dX9_asSort_29 rfl ?_
        refine lv_i2l hx hb dX9_asSort_30 rfl ?_
        refine lv_goto (tgt := 54) hx hb dX9_asSort_31 (by decide) ?_
        obtain rfl := mm_inj1 hf
        exact mm_lret C0 hP hD hS dX9_asSort_54
    · have hf := mm_ip hf c_2
      refine lv_lload_n hx hb dX9_asSort_16 rfl (lv_at hl 1 rfl) ?_
      refine lv_l2i hx hb dX9_asSort_17 rfl ?_
      refine lv_i2s hx hb dX9_asSort_18 rfl ?_
      refine lv_i2l hx hb dX9_asSort_19 rfl ?_
      refine lv_goto (tgt := 54) hx hb dX9_asSort_20 (by decide) ?_
      obtain rfl := mm_inj1 hf
      exact mm_lret C0 hP hD hS dX9_asSort_54
  · have hf := mm_ip hf c_1
    refine lv_lload_n hx hb dX9_asSort_4 rfl (lv_at hl 1 rfl) ?_
    refine lv_l2i hx hb dX9_asSort_5 rfl ?_
    refine lv_i2b hx hb dX9_asSort_6 rfl ?_
    refine lv_i2l hx hb dX9_asSort_7 rfl ?_
    refine lv_goto (tgt := 54) hx hb dX9_asSort_8 (by decide) ?_
    obtain rfl := mm_inj1 hf
    exact mm_lret C0 hP hD hS dX9_asSort_54

theorem nb_dX9_put_0 : bls_w cX9_put [(0, [42]), (1, [27]), (2, [28]), (3, [182, 1, 171]), (6, [54, 5]), (8, [21, 5]), (10, [154, 0, 27]), (13, [42]), (14, [180, 0, 94]), (17, [16, 60]), (19, [27]), (20, [104])] := bls_of (by decide +kernel)
theorem dX9_put_0 : decode cX9_put 0 = .ok (.aload_n 0, 1) := op_42 nb_dX9_put_0.1
theorem dX9_put_1 : decode cX9_put 1 = .ok (.iload_n 1, 1) := op_27 nb_dX9_put_0.2.1
theorem dX9_put_2 : decode cX9_put 2 = .ok (.iload_n 2, 1) := op_28 nb_dX9_put_0.2.2.1
set_option maxRecDepth 100000 in
theorem dX9_put_3 : decode cX9_put 3 = .ok (.invokevirtual 427, 3) := (op_182 nb_dX9_put_0.2.2.2.1).trans rfl
set_option maxRecDepth 100000 in
theorem dX9_put_6 : decode cX9_put 6 = .ok (.istore 5, 2) := (op_54 nb_dX9_put_0.2.2.2.2.1).trans rfl
set_option maxRecDepth 100000 in
theorem dX9_put_8 : decode cX9_put 8 = .ok (.iload 5, 2) := (op_21 nb_dX9_put_0.2.2.2.2.2.1).trans rfl
set_option maxRecDepth 100000 in
theorem dX9_put_10 : decode cX9_put 10 = .ok (.ifCond .ne 27, 3) := (op_154 nb_dX9_put_0.2.2.2.2.2.2.1).trans rfl
theorem dX9_put_13 : decode cX9_put 13 = .ok (.aload_n 0, 1) := op_42 nb_dX9_put_0.2.2.2.2.2.2.2.1
set_option maxRecDepth 100000 in
theorem dX9_put_14 : decode cX9_put 14 = .ok (.getfield 94, 3) := (op_180 nb_dX9_put_0.2.2.2.2.2.2.2.2.1).trans rfl
set_option maxRecDepth 100000 in
theorem dX9_put_17 : decode cX9_put 17 = .ok (.bipush 60, 2) := (op_16 nb_dX9_put_0.2.2.2.2.2.2.2.2.2.1).trans rfl
theorem dX9_put_19 : decode cX9_put 19 = .ok (.iload_n 1, 1) := op_27 nb_dX9_put_0.2.2.2.2.2.2.2.2.2.2.1
theorem dX9_put_20 : decode cX9_put 20 = .ok (.imul, 1) := op_104 nb_dX9_put_0.2.2.2.2.2.2.2.2.2.2.2.1
theorem nb_dX9_put_21 : bls_w cX9_put [(21, [28]), (22, [96]), (23, [42]), (24, [180, 0, 88]), (27, [27]), (28, [46]), (29, [16, 50]), (31, [100]), (32, [33]), (33, [184, 1, 174]), (36, [80]), (37, [21, 5])] := bls_of (by decide +kernel)
theorem dX9_put_21 : decode cX9_put 21 = .ok (.iload_n 2, 1) := op_28 nb_dX9_put_21.1
theorem dX9_put_22 : decode cX9_put 22 = .ok (.iadd, 1) := op_96 nb_dX9_put_21.2.1
theorem dX9_put_23 : decode cX9_put 23 = .ok (.aload_n 0, 1) := op_42 nb_dX9_put_21.2.2.1
set_option maxRecDepth 100000 in
theorem dX9_put_24 : decode cX9_put 24 = .ok (.getfield 88, 3) := (op_180 nb_dX9_put_21.2.2.2.1).trans rfl
theorem dX9_put_27 : decode cX9_put 27 = .ok (.iload_n 1, 1) := op_27 nb_dX9_put_21.2.2.2.2.1
theorem dX9_put_28 : decode cX9_put 28 = .ok (.iaload, 1) := op_46 nb_dX9_put_21.2.2.2.2.2.1
set_option maxRecDepth 100000 in
theorem dX9_put_29 : decode cX9_put 29 = .ok (.bipush 50, 2) := (op_16 nb_dX9_put_21.2.2.2.2.2.2.1).trans rfl
theorem dX9_put_31 : decode cX9_put 31 = .ok (.isub, 1) := op_100 nb_dX9_put_21.2.2.2.2.2.2.2.1
theorem dX9_put_32 : decode cX9_put 32 = .ok (.lload_n 3, 1) := op_33 nb_dX9_put_21.2.2.2.2.2.2.2.2.1
set_option maxRecDepth 100000 in
theorem dX9_put_33 : decode cX9_put 33 = .ok (.invokestatic 430, 3) := (op_184 nb_dX9_put_21.2.2.2.2.2.2.2.2.2.1).trans rfl
theorem dX9_put_36 : decode cX9_put 36 = .ok (.lastore, 1) := op_80 nb_dX9_put_21.2.2.2.2.2.2.2.2.2.2.1
set_option maxRecDepth 100000 in
theorem dX9_put_37 : decode cX9_put 37 = .ok (.iload 5, 2) := (op_21 nb_dX9_put_21.2.2.2.2.2.2.2.2.2.2.2.1).trans rfl
theorem nb_dX9_put_39 : bls_w cX9_put [(39, [154, 0, 7]), (42, [4]), (43, [167, 0, 5]), (46, [21, 5]), (48, [172])] := bls_of (by decide +kernel)
set_option maxRecDepth 100000 in
theorem dX9_put_39 : decode cX9_put 39 = .ok (.ifCond .ne 7, 3) := (op_154 nb_dX9_put_39.1).trans rfl
theorem dX9_put_42 : decode cX9_put 42 = .ok (.iconst 1, 1) := op_4 nb_dX9_put_39.2.1
set_option maxRecDepth 100000 in
theorem dX9_put_43 : decode cX9_put 43 = .ok (.goto 5, 3) := (op_167 nb_dX9_put_39.2.2.1).trans rfl
set_option maxRecDepth 100000 in
theorem dX9_put_46 : decode cX9_put 46 = .ok (.iload 5, 2) := (op_21 nb_dX9_put_39.2.2.2.1).trans rfl
theorem dX9_put_48 : decode cX9_put 48 = .ok (.ireturn, 1) := op_172 nb_dX9_put_39.2.2.2.2.1
def fX9_put_37 (N : Nat)  (x5 : Int32) (v_shelf : List Int32) (v_many : List Int32) (v_items : List Int64) : Option (Int32 × List Int64) :=
    if x5 = 0 then
    (some ((1 : Int32), v_items))
    else (some (x5, v_items))

set_option maxHeartbeats 4000000 in
set_option maxRecDepth 100000 in
theorem tX9_put_37 {p : Program} {l : Launch} {e : Env} {s : State} {m : MethodId} {args : Array Value} {below : List Frame} {meth : Method} {c : Code} {D : va_G} {cI cL cS cH : ClassId} {A : Nat → Prop} {d : Nat} {a : Nat → Nat} (hd : 4 ≤ d) (C0 : mm_Cx p s m args meth c RX9 cX9_put 6 (some .int) D (mm_T cI cL cS cH) A) (hA : ∀ q, s.heap.size ≤ q → A q) {v_keptMany : Int32} {v_done : Int32} {v_rowsOf : Int32} {v_columnsOf : Int32} {v_folded : Int32} {v_wronged : Int32} {v_tapeMany : Int32} {v_textMany : Int32} {v_base : Int32} {v_at : Int32} {v_ends : Int32} {v_fault : Int32} {v_opened : Int32} {v_bentMany : Int32} {v_bentWrong : Int32} {v_moreWorn : Int32} {v_planned : Int32} {v_allWrong : Int32} {v_allWorn : Int32} {v_z : Int32} {v_wishedField : Int32} {v_isFound : Bool} {v_bestWrong : Int32} {v_bestWorn : Int32} {v_bestMany : Int32} {v_soughtBy : Int32} {v_sought : Int32} {v_soughtAt : Int32} {v_foundMany : Int32} {v_foundOrder : Int32} {v_isKept : Bool} {v_imageRows : Int32} {v_imageColumns : Int32} {v_imageFolded : Int32} {v_imageWronged : Int32} {v_bodies : Int32} {v_ran : Int32} {v_ownKind : Int32} {v_ownNumber : Int32} {v_limit : List Int32} {v_changeWas : List Int32} {v_changeIs : List Int32} {v_shapeRows : List Int32} {v_shapeColumns : List Int32} {v_row : List Int32} {v_column : List Int32} {v_below : List Int32} {v_face : List Int32} {v_worn : List Int32} {v_lastBend : List Int32} {v_tape : List Int32} {v_text : List Int32} {v_names : List Int32} {v_bends : List Int32} {v_high : List Int32} {v_to : List Int32} {v_pileSize : List Int32} {v_planLine : List Int32} {v_planWay : List Int32} {v_way1 : List Int32} {v_bestWay : List Int32} {v_order1 : List Int32} {v_placeIn : List Int32} {v_bodyKind : List Int32} {v_trace : List Int32} {v_carried : List Int64} {r : Int32} {w_items : List Int64} (N : Nat)  : ∀ (x5 : Int32) (v_shelf : List Int32) (v_many : List Int32) (v_items : List Int64) (H : Heap) (locs : List Loc) (ls : Array Slot), fX9_put_37 N x5 v_shelf v_many v_items = some (r, w_items) → va_P D mm_cl (wd_X9 cI cL cS cH a v_keptMany v_done v_rowsOf v_columnsOf v_folded v_wronged v_tapeMany v_textMany v_base v_at v_ends v_fault v_opened v_bentMany v_bentWrong v_moreWorn v_planned v_allWrong v_allWorn v_z v_wishedField v_isFound v_bestWrong v_bestWorn v_bestMany v_soughtBy v_sought v_soughtAt v_foundMany v_foundOrder v_isKept v_imageRows v_imageColumns v_imageFolded v_imageWronged v_bodies v_ran v_ownKind v_ownNumber v_limit v_changeWas v_changeIs v_shapeRows v_shapeColumns v_row v_column v_below v_face v_worn v_lastBend v_tape v_text v_names v_bends v_high v_to v_pileSize v_planLine v_planWay v_way1 v_bestWay v_order1 v_placeIn v_bodyKind v_trace v_shelf v_many v_items v_carried) H → va_D A (wd_X9 cI cL cS cH a v_keptMany v_done v_rowsOf v_columnsOf v_folded v_wronged v_tapeMany v_textMany v_base v_at v_ends v_fault v_opened v_bentMany v_bentWrong v_moreWorn v_planned v_allWrong v_allWorn v_z v_wishedField v_isFound v_bestWrong v_bestWorn v_bestMany v_soughtBy v_sought v_soughtAt v_foundMany v_foundOrder v_isKept v_imageRows v_imageColumns v_imageFolded v_imageWronged v_bodies v_ran v_ownKind v_ownNumber v_limit v_changeWas v_changeIs v_shapeRows v_shapeColumns v_row v_column v_below v_face v_worn v_lastBend v_tape v_text v_names v_bends v_high v_to v_pileSize v_planLine v_planWay v_way1 v_bestWay v_order1 v_placeIn v_bodyKind v_trace v_shelf v_many v_items v_carried) → va_S A s.heap H locs → lv_has ls 6 [(5, .int x5)] → W p l e (mm_rr d) s m args below meth c H locs 0 0 (mm_Z below D A (wd_X9 cI cL cS cH a v_keptMany v_done v_rowsOf v_columnsOf v_folded v_wronged v_tapeMany v_textMany v_base v_at v_ends v_fault v_opened v_bentMany v_bentWrong v_moreWorn v_planned v_allWrong v_allWorn v_z v_wishedField v_isFound v_bestWrong v_bestWorn v_bestMany v_soughtBy v_sought v_soughtAt v_foundMany v_foundOrder v_isKept v_imageRows v_imageColumns v_imageFolded v_imageWronged v_bodies v_ran v_ownKind v_ownNumber v_limit v_changeWas v_changeIs v_shapeRows v_shapeColumns v_row v_column v_below v_face v_worn v_lastBend v_tape v_text v_names v_bends v_high v_to v_pileSize v_planLine v_planWay v_way1 v_bestWay v_order1 v_placeIn v_bodyKind v_trace v_shelf v_many w_items v_carried) (some (.int r)) args s) (F0 m 37 ls []) := by
  obtain ⟨hx, hb, hml, hown, hts, hr, hlocks, hK, hSt⟩ := id C0
  intro x5 v_shelf v_many v_items H locs ls hf hP hD hS hl
  unfold fX9_put_37 at hf
  refine lv_iload hx hb dX9_put_37 (lv_at hl 0 rfl) ?_
  refine lv_if_ne (tgt := 46) hx hb dX9_put_39 (by decide) (fun c_9 => ?_) (fun c_9 => ?_)
  · have hf := mm_in hf c_9
    refine lv_iload hx hb dX9_put_46 (lv_at hl 0 rfl) ?_
    apply mm_sub2 hf
    exact mm_iret C0 hP hD hS dX9_put_48
  · have hf := mm_ip hf c_9
    refine lv_iconst (v := 1) hx hb dX9_put_42 (by decide) ?_
    refine lv_goto (tgt := 48) hx hb dX9_put_43 (by decide) ?_
    apply mm_sub2 hf
    exact mm_iret C0 hP hD hS dX9_put_48

def fX9_put (N : Nat) (x1 : Int32) (x2 : Int32) (x3 : Int64) (v_shelf : List Int32) (v_many : List Int32) (v_items : List Int64) : Option (Int32 × List Int64) :=
    mm_bd1 (fX9_refusal N x1 x2 v_shelf v_many) (fun (r_1 : Int32) =>
    if r_1 = 0 then
    (mm_ck (mm_inb x1 v_shelf.length) (mm_bd1 (fX9_asSort N ((mm_ig v_shelf x1) - (50 : Int32)) x3) (fun (r_5 : Int64) =>
    mm_ck (mm_inb (((60 : Int32) * x1) + x2) v_items.length) (mm_nm (mm_ls v_items (((60 : Int32) * x1) + x2) r_5) (fun (l_8 : List Int64) =>
    fX9_put_37 N r_1 v_shelf v_many l_8)))))
    else (fX9_put_37 N r_1 v_shelf v_many v_items))

set_option maxHeartbeats 4000000 in
set_option maxRecDepth 100000 in
theorem ctX9_put {l : Launch} {D : va_G} {cI cL cS cH : ClassId} {a : Nat → Nat} {x1 : Int32} {x2 : Int32} {x3 : Int64} {v_keptMany : Int32} {v_done : Int32} {v_rowsOf : Int32} {v_columnsOf : Int32} {v_folded : Int32} {v_wronged : Int32} {v_tapeMany : Int32} {v_textMany : Int32} {v_base : Int32} {v_at : Int32} {v_ends : Int32} {v_fault : Int32} {v_opened : Int32} {v_bentMany : Int32} {v_bentWrong : Int32} {v_moreWorn : Int32} {v_planned : Int32} {v_allWrong : Int32} {v_allWorn : Int32} {v_z : Int32} {v_wishedField : Int32} {v_isFound : Bool} {v_bestWrong : Int32} {v_bestWorn : Int32} {v_bestMany : Int32} {v_soughtBy : Int32} {v_sought : Int32} {v_soughtAt : Int32} {v_foundMany : Int32} {v_foundOrder : Int32} {v_isKept : Bool} {v_imageRows : Int32} {v_imageColumns : Int32} {v_imageFolded : Int32} {v_imageWronged : Int32} {v_bodies : Int32} {v_ran : Int32} {v_ownKind : Int32} {v_ownNumber : Int32} {v_limit : List Int32} {v_changeWas : List Int32} {v_changeIs : List Int32} {v_shapeRows : List Int32} {v_shapeColumns : List Int32} {v_row : List Int32} {v_column : List Int32} {v_below : List Int32} {v_face : List Int32} {v_worn : List Int32} {v_lastBend : List Int32} {v_tape : List Int32} {v_text : List Int32} {v_names : List Int32} {v_bends : List Int32} {v_high : List Int32} {v_to : List Int32} {v_pileSize : List Int32} {v_planLine : List Int32} {v_planWay : List Int32} {v_way1 : List Int32} {v_bestWay : List Int32} {v_order1 : List Int32} {v_placeIn : List Int32} {v_bodyKind : List Int32} {v_trace : List Int32} {v_shelf : List Int32} {v_many : List Int32} {v_items : List Int64} {v_carried : List Int64} {r : Int32} {w_items : List Int64} {N d : Nat} (hd : 4 ≤ d) (hf : fX9_put N x1 x2 x3 v_shelf v_many v_items = some (r, w_items)) : mm_Ct l yX9_put cX9_put 6 (some .int) d D (mm_T cI cL cS cH) [.ref (a 0), .int x1, .int x2, .long x3] (wd_X9 cI cL cS cH a v_keptMany v_done v_rowsOf v_columnsOf v_folded v_wronged v_tapeMany v_textMany v_base v_at v_ends v_fault v_opened v_bentMany v_bentWrong v_moreWorn v_planned v_allWrong v_allWorn v_z v_wishedField v_isFound v_bestWrong v_bestWorn v_bestMany v_soughtBy v_sought v_soughtAt v_foundMany v_foundOrder v_isKept v_imageRows v_imageColumns v_imageFolded v_imageWronged v_bodies v_ran v_ownKind v_ownNumber v_limit v_changeWas v_changeIs v_shapeRows v_shapeColumns v_row v_column v_below v_face v_worn v_lastBend v_tape v_text v_names v_bends v_high v_to v_pileSize v_planLine v_planWay v_way1 v_bestWay v_order1 v_placeIn v_bodyKind v_trace v_shelf v_many v_items v_carried) (wd_X9 cI cL cS cH a v_keptMany v_done v_rowsOf v_columnsOf v_folded v_wronged v_tapeMany v_textMany v_base v_at v_ends v_fault v_opened v_bentMany v_bentWrong v_moreWorn v_planned v_allWrong v_allWorn v_z v_wishedField v_isFound v_bestWrong v_bestWorn v_bestMany v_soughtBy v_sought v_soughtAt v_foundMany v_foundOrder v_isKept v_imageRows v_imageColumns v_imageFolded v_imageWronged v_bodies v_ran v_ownKind v_ownNumber v_limit v_changeWas v_changeIs v_shapeRows v_shapeColumns v_row v_column v_below v_face v_worn v_lastBend v_tape v_text v_names v_bends v_high v_to v_pileSize v_planLine v_planWay v_way1 v_bestWay v_order1 v_placeIn v_bodyKind v_trace v_shelf v_many w_items v_carried) (some (.int r)) := by
  refine mm_of (by decide) (Nat.le_of_ble_eq_true rfl) ?_
  intro p e s m args below meth c A H locs ls C0 hP hD hA hS hl
  have C0 : mm_Cx p s m args meth c RX9 cX9_put 6 (some .int) D (mm_T cI cL cS cH) A := C0
  obtain ⟨hx, hb, hml, hown, hts, hr, hlocks, hK, hSt⟩ := id C0
  have hl : lv_has ls 6 [(0, .ref (a 0)), (1, .int x1), (2, .int x2), (3, .long x3)] := hl
  unfold fX9_put at hf
  refine lv_aload_n hx hb dX9_put_0 rfl (lv_at hl 0 rfl) ?_
  refine lv_iload_n hx hb dX9_put_1 rfl (lv_at hl 1 rfl) ?_
  refine lv_iload_n hx hb dX9_put_2 rfl (lv_at hl 2 rfl) ?_
  obtain ⟨r_1, hc_2, hf⟩ := mm_bd1s hf
  refine mm_callVF (q0 := 0) (ci := 9) (rest := []) C0 lk_X9_427 (ctX9_refusal (a := a) (d := d - 1) (by omega) hc_2) (by omega) rfl hl.1 rfl (mm_cat rfl) dX9_put_3 hP hD hA hS rfl rfl (fun H locs hP hD hS => ?_)
  refine W.eq (g2 := F0 m 6 ls [.int r_1]) rfl ?_
  refine lv_istore (lv' := [(5, .int r_1), (0, .ref (a 0)), (1, .int x1), (2, .int x2), (3, .long x3)]) hx hb dX9_put_6 hl (by decide) rfl (fun ls hl => ?_)
  refine lv_iload hx hb dX9_put_8 (lv_at hl 0 rfl) ?_
  refine lv_if_ne (tgt := 37) hx hb dX9_put_10 (by decide) (fun c_3 => ?_) (fun c_3 => ?_)
  · have hf := mm_in hf c_3
    exact tX9_put_37 hd C0 hA N  _ _ _ _ H locs ls hf hP hD hS (lv_sub hl [0] rfl)
  · have hf := mm_ip hf c_3
    refine lv_aload_n hx hb dX9_put_13 rfl (lv_at hl 1 rfl) ?_
    refine mm_get C0 hP iw_X9 0 rfl rfl 67 (by decide) fl_X9_94 rfl dX9_put_14 ?_
    refine lv_bipush (v := 60) hx hb dX9_put_17 (by decide) ?_
    refine lv_iload_n hx hb dX9_put_19 rfl (lv_at hl 2 rfl) ?_
    refine lv_imul hx hb dX9_put_20 ?_
    refine lv_iload_n hx hb dX9_put_21 rfl (lv_at hl 3 rfl) ?_
    refine lv_iadd hx hb dX9_put_22 ?_
    refine lv_aload_n hx hb dX9_put_23 rfl (lv_at hl 1 rfl) ?_
    refine mm_get C0 hP iw_X9 0 rfl rfl 65 (by decide) fl_X9_88 rfl dX9_put_24 ?_
    refine lv_iload_n hx hb dX9_put_27 rfl (lv_at hl 2 rfl) ?_
    obtain ⟨h_4, hf⟩ := mm_cks hf
    refine mm_iald C0 hP 27 rfl h_4 dX9_put_28 ?_
    refine lv_bipush (v := 50) hx hb dX9_put_29 (by decide) ?_
    refine lv_isub hx hb dX9_put_31 ?_
    refine lv_lload_n hx hb dX9_put_32 rfl (lv_at hl 4 rfl) ?_
    obtain ⟨r_5, hc_6, hf⟩ := mm_bd1s hf
    refine mm_callS0 (rest := [.int (((60 : Int32) * x1) + x2), .ref (a 29)]) C0 lk_X9_430 (ctX9_asSort (d := d - 1) (by omega) hc_6) (by omega) rfl hl.1 rfl (mm_cat rfl) dX9_put_33 hP hD hA hS (fun H locs hP hS => ?_)
    refine W.eq (g2 := F0 m 36 ls [.long r_5, .int (((60 : Int32) * x1) + x2), .ref (a 29)]) rfl ?_
    obtain ⟨h_7, hf⟩ := mm_cks hf
    refine mm_last C0 hP hD hS 29 rfl h_7 dX9_put_36 (w2 := (wd_X9 cI cL cS cH a v_keptMany v_done v_rowsOf v_columnsOf v_folded v_wronged v_tapeMany v_textMany v_base v_at v_ends v_fault v_opened v_bentMany v_bentWrong v_moreWorn v_planned v_allWrong v_allWorn v_z v_wishedField v_isFound v_bestWrong v_bestWorn v_bestMany v_soughtBy v_sought v_soughtAt v_foundMany v_foundOrder v_isKept v_imageRows v_imageColumns v_imageFolded v_imageWronged v_bodies v_ran v_ownKind v_ownNumber v_limit v_changeWas v_changeIs v_shapeRows v_shapeColumns v_row v_column v_below v_face v_worn v_lastBend v_tape v_text v_names v_bends v_high v_to v_pileSize v_planLine v_planWay v_way1 v_bestWay v_order1 v_placeIn v_bodyKind v_trace v_shelf v_many (mm_ls v_items (((60 : Int32) * x1) + x2) r_5) v_carried)) rfl (fun H locs hP hD hS => ?_)
    generalize el_8 : (mm_ls v_items (((60 : Int32) * x1) + x2) r_5) = l_8 at hP hD
    have hf := mm_nms hf el_8.symm
    exact tX9_put_37 hd C0 hA N  _ _ _ _ H locs ls hf hP hD hS (lv_sub hl [0] rfl)

theorem nb_dX9_element_0 : bls_w cX9_element [(0, [42]), (1, [27]), (2, [28]), (3, [182, 1, 171]), (6, [153, 0, 9]), (9, [20, 1, 180]), (12, [167, 0, 14]), (15, [42]), (16, [180, 0, 94]), (19, [16, 60]), (21, [27]), (22, [104])] := bls_of (by decide +kernel)
theorem dX9_element_0 : decode cX9_element 0 = .ok (.aload_n 0, 1) := op_42 nb_dX9_element_0.1
theorem dX9_element_1 : decode cX9_element 1 = .ok (.iload_n 1, 1) := op_27 nb_dX9_element_0.2.1
theorem dX9_element_2 : decode cX9_element 2 = .ok (.iload_n 2, 1) := op_28 nb_dX9_element_0.2.2.1
set_option maxRecDepth 100000 in
theorem dX9_element_3 : decode cX9_element 3 = .ok (.invokevirtual 427, 3) := (op_182 nb_dX9_element_0.2.2.2.1).trans rfl
set_option maxRecDepth 100000 in
theorem dX9_element_6 : decode cX9_element 6 = .ok (.ifCond .eq 9, 3) := (op_153 nb_dX9_element_0.2.2.2.2.1).trans rfl
set_option maxRecDepth 100000 in
theorem dX9_element_9 : decode cX9_element 9 = .ok (.ldc2_w 436, 3) := (op_20 nb_dX9_element_0.2.2.2.2.2.1).trans rfl
set_option maxRecDepth 100000 in
theorem dX9_element_12 : decode cX9_element 12 = .ok (.goto 14, 3) := (op_167 nb_dX9_element_0.2.2.2.2.2.2.1).trans rfl
theorem dX9_element_15 : decode cX9_element 15 = .ok (.aload_n 0, 1) := op_42 nb_dX9_element_0.2.2.2.2.2.2.2.1
set_option maxRecDepth 100000 in
theorem dX9_element_16 : decode cX9_element 16 = .ok (.getfield 94, 3) := (op_180 nb_dX9_element_0.2.2.2.2.2.2.2.2.1).trans rfl
set_option maxRecDepth 100000 in
theorem dX9_element_19 : decode cX9_element 19 = .ok (.bipush 60, 2) := (op_16 nb_dX9_element_0.2.2.2.2.2.2.2.2.2.1).trans rfl
theorem dX9_element_21 : decode cX9_element 21 = .ok (.iload_n 1, 1) := op_27 nb_dX9_element_0.2.2.2.2.2.2.2.2.2.2.1
theorem dX9_element_22 : decode cX9_element 22 = .ok (.imul, 1) := op_104 nb_dX9_element_0.2.2.2.2.2.2.2.2.2.2.2.1
theorem nb_dX9_element_23 : bls_w cX9_element [(23, [28]), (24, [96]), (25, [47]), (26, [173])] := bls_of (by decide +kernel)
theorem dX9_element_23 : decode cX9_element 23 = .ok (.iload_n 2, 1) := op_28 nb_dX9_element_23.1
theorem dX9_element_24 : decode cX9_element 24 = .ok (.iadd, 1) := op_96 nb_dX9_element_23.2.1
theorem dX9_element_25 : decode cX9_element 25 = .ok (.laload, 1) := op_47 nb_dX9_element_23.2.2.1
theorem dX9_element_26 : decode cX9_element 26 = .ok (.lreturn, 1) := op_173 nb_dX9_element_23.2.2.2.1
def fX9_element (N : Nat) (x1 : Int32) (x2 : Int32) (v_shelf : List Int32) (v_many : List Int32) (v_items : List Int64) : Option (Int64) :=
    mm_bd1 (fX9_refusal N x1 x2 v_shelf v_many) (fun (r_1 : Int32) =>
    if r_1 = 0 then
    (mm_ck (mm_inb (((60 : Int32) * x1) + x2) v_items.length) (some ((mm_lg v_items (((60 : Int32) * x1) + x2)))))
    else (some ((-9223372036854775808 : Int64))))

set_option maxHeartbeats 4000000 in
set_option maxRecDepth 100000 in
theorem ctX9_element {l : Launch} {D : va_G} {cI cL cS cH : ClassId} {a : Nat → Nat} {x1 : Int32} {x2 : Int32} {v_keptMany : Int32} {v_done : Int32} {v_rowsOf : Int32} {v_columnsOf : Int32} {v_folded : Int32} {v_wronged : Int32} {v_tapeMany : Int32} {v_textMany : Int32} {v_base : Int32} {v_at : Int32} {v_ends : Int32} {v_fault : Int32} {v_opened : Int32} {v_bentMany : Int32} {v_bentWrong : Int32} {v_moreWorn : Int32} {v_planned : Int32} {v_allWrong : Int32} {v_allWorn : Int32} {v_z : Int32} {v_wishedField : Int32} {v_isFound : Bool} {v_bestWrong : Int32} {v_bestWorn : Int32} {v_bestMany : Int32} {v_soughtBy : Int32} {v_sought : Int32} {v_soughtAt : Int32} {v_foundMany : Int32} {v_foundOrder : Int32} {v_isKept : Bool} {v_imageRows : Int32} {v_imageColumns : Int32} {v_imageFolded : Int32} {v_imageWronged : Int32} {v_bodies : Int32} {v_ran : Int32} {v_ownKind : Int32} {v_ownNumber : Int32} {v_limit : List Int32} {v_changeWas : List Int32} {v_changeIs : List Int32} {v_shapeRows : List Int32} {v_shapeColumns : List Int32} {v_row : List Int32} {v_column : List Int32} {v_below : List Int32} {v_face : List Int32} {v_worn : List Int32} {v_lastBend : List Int32} {v_tape : List Int32} {v_text : List Int32} {v_names : List Int32} {v_bends : List Int32} {v_high : List Int32} {v_to : List Int32} {v_pileSize : List Int32} {v_planLine : List Int32} {v_planWay : List Int32} {v_way1 : List Int32} {v_bestWay : List Int32} {v_order1 : List Int32} {v_placeIn : List Int32} {v_bodyKind : List Int32} {v_trace : List Int32} {v_shelf : List Int32} {v_many : List Int32} {v_items : List Int64} {v_carried : List Int64} {r : Int64} {N d : Nat} (hd : 4 ≤ d) (hf : fX9_element N x1 x2 v_shelf v_many v_items = some r) : mm_Ct l yX9_element cX9_element 3 (some .long) d D (mm_T cI cL cS cH) [.ref (a 0), .int x1, .int x2] (wd_X9 cI cL cS cH a v_keptMany v_done v_rowsOf v_columnsOf v_folded v_wronged v_tapeMany v_textMany v_base v_at v_ends v_fault v_opened v_bentMany v_bentWrong v_moreWorn v_planned v_allWrong v_allWorn v_z v_wishedField v_isFound v_bestWrong v_bestWorn v_bestMany v_soughtBy v_sought v_soughtAt v_foundMany v_foundOrder v_isKept v_imageRows v_imageColumns v_imageFolded v_imageWronged v_bodies v_ran v_ownKind v_ownNumber v_limit v_changeWas v_changeIs v_shapeRows v_shapeColumns v_row v_column v_below v_face v_worn v_lastBend v_tape v_text v_names v_bends v_high v_to v_pileSize v_planLine v_planWay v_way1 v_bestWay v_order1 v_placeIn v_bodyKind v_trace v_shelf v_many v_items v_carried) (wd_X9 cI cL cS cH a v_keptMany v_done v_rowsOf v_columnsOf v_folded v_wronged v_tapeMany v_textMany v_base v_at v_ends v_fault v_opened v_bentMany v_bentWrong v_moreWorn v_planned v_allWrong v_allWorn v_z v_wishedField v_isFound v_bestWrong v_bestWorn v_bestMany v_soughtBy v_sought v_soughtAt v_foundMany v_foundOrder v_isKept v_imageRows v_imageColumns v_imageFolded v_imageWronged v_bodies v_ran v_ownKind v_ownNumber v_limit v_changeWas v_changeIs v_shapeRows v_shapeColumns v_row v_column v_below v_face v_worn v_lastBend v_tape v_text v_names v_bends v_high v_to v_pileSize v_planLine v_planWay v_way1 v_bestWay v_order1 v_placeIn v_bodyKind v_trace v_shelf v_many v_items v_carried) (some (.long r)) := by
  refine mm_of (by decide) (Nat.le_of_ble_eq_true rfl) ?_
  intro p e s m args below meth c A H locs ls C0 hP hD hA hS hl
  have C0 : mm_Cx p s m args meth c RX9 cX9_element 3 (some .long) D (mm_T cI cL cS cH) A := C0
  obtain ⟨hx, hb, hml, hown, hts, hr, hlocks, hK, hSt⟩ := id C0
  have hl : lv_has ls 3 [(0, .ref (a 0)), (1, .int x1), (2, .int x2)] := hl
  unfold fX9_element at hf
  refine lv_aload_n hx hb dX9_element_0 rfl (lv_at hl 0 rfl) ?_
  refine lv_iload_n hx hb dX9_element_1 rfl (lv_at hl 1 rfl) ?_
  refine lv_iload_n hx hb dX9_element_2 rfl (lv_at hl 2 rfl) ?_
  obtain ⟨r_1, hc_2, hf⟩ := mm_bd1s hf
  refine mm_callVF (q0 := 0) (ci := 9) (rest := []) C0 lk_X9_427 (ctX9_refusal (a := a) (d := d - 1) (by omega) hc_2) (by omega) rfl hl.1 rfl (mm_cat rfl) dX9_element_3 hP hD hA hS rfl rfl (fun H locs hP hD hS => ?_)
  refine W.eq (g2 := F0 m 6 ls [.int r_1]) rfl ?_
  refine lv_if_eq (tgt := 15) hx hb dX9_element_6 (by decide) (fun c_3 => ?_) (fun c_3 => ?_)
  · have hf := mm_ip hf c_3
    refine lv_aload_n hx hb dX9_element_15 rfl (lv_at hl 0 rfl) ?_
    refine mm_get C0 hP iw_X9 0 rfl rfl 67 (by decide) fl_X9_94 rfl dX9_element_16 ?_
    refine lv_bipush (v := 60) hx hb dX9_element_19 (by decide) ?_
    refine lv_iload_n hx hb dX9_element_21 rfl (lv_at hl 1 rfl) ?_
    refine lv_imul hx hb dX9_element_22 ?_
    refine lv_iload_n hx hb dX9_element_23 rfl (lv_at hl 2 rfl) ?_
    refine lv_iadd hx hb dX9_element_24 ?_
    obtain ⟨h_4, hf⟩ := mm_cks hf
    refine mm_lald C0 hP 29 rfl h_4 dX9_element_25 ?_
    obtain rfl := mm_inj1 hf
    exact mm_lret C0 hP hD hS dX9_element_26
  · have hf := mm_in hf c_3
    refine lv_ldc2 hx hb hown (hts _ kc_X9_436) dX9_element_9 ?_
    refine lv_goto (tgt := 26) hx hb dX9_element_12 (by decide) ?_
    obtain rfl := mm_inj1 hf
    exact mm_lret C0 hP hD hS dX9_element_26

theorem nb_dX9_shift_0 : bls_w cX9_shift [(0, [27]), (1, [184, 1, 18]), (4, [153, 0, 10]), (7, [29]), (8, [184, 1, 18]), (11, [154, 0, 5]), (14, [2]), (15, [172]), (16, [42]), (17, [180, 0, 88]), (20, [27]), (21, [46])] := bls_of (by decide +kernel)
theorem dX9_shift_0 : decode cX9_shift 0 = .ok (.iload_n 1, 1) := op_27 nb_dX9_shift_0.1
set_option maxRecDepth 100000 in
theorem dX9_shift_1 : decode cX9_shift 1 = .ok (.invokestatic 274, 3) := (op_184 nb_dX9_shift_0.2.1).trans rfl
set_option maxRecDepth 100000 in
theorem dX9_shift_4 : decode cX9_shift 4 = .ok (.ifCond .eq 10, 3) := (op_153 nb_dX9_shift_0.2.2.1).trans rfl
theorem dX9_shift_7 : decode cX9_shift 7 = .ok (.iload_n 3, 1) := op_29 nb_dX9_shift_0.2.2.2.1
set_option maxRecDepth 100000 in
theorem dX9_shift_8 : decode cX9_shift 8 = .ok (.invokestatic 274, 3) := (op_184 nb_dX9_shift_0.2.2.2.2.1).trans rfl
set_option maxRecDepth 100000 in
theorem dX9_shift_11 : decode cX9_shift 11 = .ok (.ifCond .ne 5, 3) := (op_154 nb_dX9_shift_0.2.2.2.2.2.1).trans rfl
theorem dX9_shift_14 : decode cX9_shift 14 = .ok (.iconst (-1), 1) := op_2 nb_dX9_shift_0.2.2.2.2.2.2.1
theorem dX9_shift_15 : decode cX9_shift 15 = .ok (.ireturn, 1) := op_172 nb_dX9_shift_0.2.2.2.2.2.2.2.1
theorem dX9_shift_16 : decode cX9_shift 16 = .ok (.aload_n 0, 1) := op_42 nb_dX9_shift_0.2.2.2.2.2.2.2.2.1
set_option maxRecDepth 100000 in
theorem dX9_shift_17 : decode cX9_shift 17 = .ok (.getfield 88, 3) := (op_180 nb_dX9_shift_0.2.2.2.2.2.2.2.2.2.1).trans rfl
theorem dX9_shift_20 : decode cX9_shift 20 = .ok (.iload_n 1, 1) := op_27 nb_dX9_shift_0.2.2.2.2.2.2.2.2.2.2.1
theorem dX9_shift_21 : decode cX9_shift 21 = .ok (.iaload, 1) := op_46 nb_dX9_shift_0.2.2.2.2.2.2.2.2.2.2.2.1
theorem nb_dX9_shift_22 : bls_w cX9_shift [(22, [155, 0, 12]), (25, [42]), (26, [180, 0, 88]), (29, [29]), (30, [46]), (31, [156, 0, 6]), (34, [16, 245]), (36, [172]), (37, [42]), (38, [180, 0, 88]), (41, [27]), (42, [46])] := bls_of (by decide +kernel)
set_option maxRecDepth 100000 in
theorem dX9_shift_22 : decode cX9_shift 22 = .ok (.ifCond .lt 12, 3) := (op_155 nb_dX9_shift_22.1).trans rfl
theorem dX9_shift_25 : decode cX9_shift 25 = .ok (.aload_n 0, 1) := op_42 nb_dX9_shift_22.2.1
set_option maxRecDepth 100000 in
theorem dX9_shift_26 : decode cX9_shift 26 = .ok (.getfield 88, 3) := (op_180 nb_dX9_shift_22.2.2.1).trans rfl
theorem dX9_shift_29 : decode cX9_shift 29 = .ok (.iload_n 3, 1) := op_29 nb_dX9_shift_22.2.2.2.1
theorem dX9_shift_30 : decode cX9_shift 30 = .ok (.iaload, 1) := op_46 nb_dX9_shift_22.2.2.2.2.1
set_option maxRecDepth 100000 in
theorem dX9_shift_31 : decode cX9_shift 31 = .ok (.ifCond .ge 6, 3) := (op_156 nb_dX9_shift_22.2.2.2.2.2.1).trans rfl
set_option maxRecDepth 100000 in
theorem dX9_shift_34 : decode cX9_shift 34 = .ok (.bipush (-11), 2) := (op_16 nb_dX9_shift_22.2.2.2.2.2.2.1).trans rfl
theorem dX9_shift_36 : decode cX9_shift 36 = .ok (.ireturn, 1) := op_172 nb_dX9_shift_22.2.2.2.2.2.2.2.1
theorem dX9_shift_37 : decode cX9_shift 37 = .ok (.aload_n 0, 1) := op_42 nb_dX9_shift_22.2.2.2.2.2.2.2.2.1
set_option maxRecDepth 100000 in
theorem dX9_shift_38 : decode cX9_shift 38 = .ok (.getfield 88, 3) := (op_180 nb_dX9_shift_22.2.2.2.2.2.2.2.2.2.1).trans rfl
theorem dX9_shift_41 : decode cX9_shift 41 = .ok (.iload_n 1, 1) := op_27 nb_dX9_shift_22.2.2.2.2.2.2.2.2.2.2.1
theorem dX9_shift_42 : decode cX9_shift 42 = .ok (.iaload, 1) := op_46 nb_dX9_shift_22.2.2.2.2.2.2.2.2.2.2.2.1
theorem nb_dX9_shift_43 : bls_w cX9_shift [(43, [16, 50]), (45, [161, 0, 18]), (48, [42]), (49, [180, 0, 88]), (52, [27]), (53, [46]), (54, [42]), (55, [180, 0, 88]), (58, [29]), (59, [46]), (60, [159, 0, 6]), (63, [16, 244])] := bls_of (by decide +kernel)
set_option maxRecDepth 100000 in
theorem dX9_shift_43 : decode cX9_shift 43 = .ok (.bipush 50, 2) := (op_16 nb_dX9_shift_43.1).trans rfl
set_option maxRecDepth 100000 in
theorem dX9_shift_45 : decode cX9_shift 45 = .ok (.if_icmp .lt 18, 3) := (op_161 nb_dX9_shift_43.2.1).trans rfl
theorem dX9_shift_48 : decode cX9_shift 48 = .ok (.aload_n 0, 1) := op_42 nb_dX9_shift_43.2.2.1
set_option maxRecDepth 100000 in
theorem dX9_shift_49 : decode cX9_shift 49 = .ok (.getfield 88, 3) := (op_180 nb_dX9_shift_43.2.2.2.1).trans rfl
theorem dX9_shift_52 : decode cX9_shift 52 = .ok (.iload_n 1, 1) := op_27 nb_dX9_shift_43.2.2.2.2.1
theorem dX9_shift_53 : decode cX9_shift 53 = .ok (.iaload, 1) := op_46 nb_dX9_shift_43.2.2.2.2.2.1
theorem dX9_shift_54 : decode cX9_shift 54 = .ok (.aload_n 0, 1) := op_42 nb_dX9_shift_43.2.2.2.2.2.2.1
set_option maxRecDepth 100000 in
theorem dX9_shift_55 : decode cX9_shift 55 = .ok (.getfield 88, 3) := (op_180 nb_dX9_shift_43.2.2.2.2.2.2.2.1).trans rfl
theorem dX9_shift_58 : decode cX9_shift 58 = .ok (.iload_n 3, 1) := op_29 nb_dX9_shift_43.2.2.2.2.2.2.2.2.1
theorem dX9_shift_59 : decode cX9_shift 59 = .ok (.iaload, 1) := op_46 nb_dX9_shift_43.2.2.2.2.2.2.2.2.2.1
set_option maxRecDepth 100000 in
theorem dX9_shift_60 : decode cX9_shift 60 = .ok (.if_icmp .eq 6, 3) := (op_159 nb_dX9_shift_43.2.2.2.2.2.2.2.2.2.2.1).trans rfl
set_option maxRecDepth 100000 in
theorem dX9_shift_63 : decode cX9_shift 63 = .ok (.bipush (-12), 2) := (op_16 nb_dX9_shift_43.2.2.2.2.2.2.2.2.2.2.2.1).trans rfl
theorem nb_dX9_shift_65 : bls_w cX9_shift [(65, [172]), (66, [21, 5]), (68, [155, 0, 39]), (71, [28]), (72, [155, 0, 35]), (75, [21, 4]), (77, [155, 0, 30]), (80, [28]), (81, [42]), (82, [180, 0, 91]), (85, [27]), (86, [46])] := bls_of (by decide +kernel)
theorem dX9_shift_65 : decode cX9_shift 65 = .ok (.ireturn, 1) := op_172 nb_dX9_shift_65.1
set_option maxRecDepth 100000 in
theorem dX9_shift_66 : decode cX9_shift 66 = .ok (.iload 5, 2) := (op_21 nb_dX9_shift_65.2.1).trans rfl
set_option maxRecDepth 100000 in
theorem dX9_shift_68 : decode cX9_shift 68 = .ok (.ifCond .lt 39, 3) := (op_155 nb_dX9_shift_65.2.2.1).trans rfl
theorem dX9_shift_71 : decode cX9_shift 71 = .ok (.iload_n 2, 1) := op_28 nb_dX9_shift_65.2.2.2.1
set_option maxRecDepth 100000 in
theorem dX9_shift_72 : decode cX9_shift 72 = .ok (.ifCond .lt 35, 3) := (op_155 nb_dX9_shift_65.2.2.2.2.1).trans rfl
set_option maxRecDepth 100000 in
theorem dX9_shift_75 : decode cX9_shift 75 = .ok (.iload 4, 2) := (op_21 nb_dX9_shift_65.2.2.2.2.2.1).trans rfl
set_option maxRecDepth 100000 in
theorem dX9_shift_77 : decode cX9_shift 77 = .ok (.ifCond .lt 30, 3) := (op_155 nb_dX9_shift_65.2.2.2.2.2.2.1).trans rfl
theorem dX9_shift_80 : decode cX9_shift 80 = .ok (.iload_n 2, 1) := op_28 nb_dX9_shift_65.2.2.2.2.2.2.2.1
theorem dX9_shift_81 : decode cX9_shift 81 = .ok (.aload_n 0, 1) := op_42 nb_dX9_shift_65.2.2.2.2.2.2.2.2.1
set_option maxRecDepth 100000 in
theorem dX9_shift_82 : decode cX9_shift 82 = .ok (.getfield 91, 3) := (op_180 nb_dX9_shift_65.2.2.2.2.2.2.2.2.2.1).trans rfl
theorem dX9_shift_85 : decode cX9_shift 85 = .ok (.iload_n 1, 1) := op_27 nb_dX9_shift_65.2.2.2.2.2.2.2.2.2.2.1
theorem dX9_shift_86 : decode cX9_shift 86 = .ok (.iaload, 1) := op_46 nb_dX9_shift_65.2.2.2.2.2.2.2.2.2.2.2.1
theorem nb_dX9_shift_87 : bls_w cX9_shift [(87, [21, 5]), (89, [100]), (90, [163, 0, 17]), (93, [21, 4]), (95, [42]), (96, [180, 0, 91]), (99, [29]), (100, [46]), (101, [21, 5]), (103, [100]), (104, [164, 0, 6]), (107, [16, 243])] := bls_of (by decide +kernel)
set_option maxRecDepth 100000 in
theorem dX9_shift_87 : decode cX9_shift 87 = .ok (.iload 5, 2) := (op_21 nb_dX9_shift_87.1).trans rfl
theorem dX9_shift_89 : decode cX9_shift 89 = .ok (.isub, 1) := op_100 nb_dX9_shift_87.2.1
set_option maxRecDepth 100000 in
theorem dX9_shift_90 : decode cX9_shift 90 = .ok (.if_icmp .gt 17, 3) := (op_163 nb_dX9_shift_87.2.2.1).trans rfl
set_option maxRecDepth 100000 in
theorem dX9_shift_93 : decode cX9_shift 93 = .ok (.iload 4, 2) := (op_21 nb_dX9_shift_87.2.2.2.1).trans rfl
theorem dX9_shift_95 : decode cX9_shift 95 = .ok (.aload_n 0, 1) := op_42 nb_dX9_shift_87.2.2.2.2.1
set_option maxRecDepth 100000 in
theorem dX9_shift_96 : decode cX9_shift 96 = .ok (.getfield 91, 3) := (op_180 nb_dX9_shift_87.2.2.2.2.2.1).trans rfl
theorem dX9_shift_99 : decode cX9_shift 99 = .ok (.iload_n 3, 1) := op_29 nb_dX9_shift_87.2.2.2.2.2.2.1
theorem dX9_shift_100 : decode cX9_shift 100 = .ok (.iaload, 1) := op_46 nb_dX9_shift_87.2.2.2.2.2.2.2.1
set_option maxRecDepth 100000 in
theorem dX9_shift_101 : decode cX9_shift 101 = .ok (.iload 5, 2) := (op_21 nb_dX9_shift_87.2.2.2.2.2.2.2.2.1).trans rfl
theorem dX9_shift_103 : decode cX9_shift 103 = .ok (.isub, 1) := op_100 nb_dX9_shift_87.2.2.2.2.2.2.2.2.2.1
set_option maxRecDepth 100000 in
theorem dX9_shift_104 : decode cX9_shift 104 = .ok (.if_icmp .le 6, 3) := (op_164 nb_dX9_shift_87.2.2.2.2.2.2.2.2.2.2.1).trans rfl
set_option maxRecDepth 100000 in
theorem dX9_shift_107 : decode cX9_shift 107 = .ok (.bipush (-13), 2) := (op_16 nb_dX9_shift_87.2.2.2.2.2.2.2.2.2.2.2.1).trans rfl
theorem nb_dX9_shift_109 : bls_w cX9_shift [(109, [172]), (110, [3]), (111, [54, 6]), (113, [21, 6]), (115, [21, 5]), (117, [162, 0, 30]), (120, [42]), (121, [180, 0, 98]), (124, [21, 6]), (126, [42]), (127, [180, 0, 94]), (130, [16, 60])] := bls_of (by decide +kernel)
theorem dX9_shift_109 : decode cX9_shift 109 = .ok (.ireturn, 1) := op_172 nb_dX9_shift_109.1
theorem dX9_shift_110 : decode cX9_shift 110 = .ok (.iconst 0, 1) := op_3 nb_dX9_shift_109.2.1
set_option maxRecDepth 100000 in
theorem dX9_shift_111 : decode cX9_shift 111 = .ok (.istore 6, 2) := (op_54 nb_dX9_shift_109.2.2.1).trans rfl
set_option maxRecDepth 100000 in
theorem dX9_shift_113 : decode cX9_shift 113 = .ok (.iload 6, 2) := (op_21 nb_dX9_shift_109.2.2.2.1).trans rfl
set_option maxRecDepth 100000 in
theorem dX9_shift_115 : decode cX9_shift 115 = .ok (.iload 5, 2) := (op_21 nb_dX9_shift_109.2.2.2.2.1).trans rfl
set_option maxRecDepth 100000 in
theorem dX9_shift_117 : decode cX9_shift 117 = .ok (.if_icmp .ge 30, 3) := (op_162 nb_dX9_shift_109.2.2.2.2.2.1).trans rfl
theorem dX9_shift_120 : decode cX9_shift 120 = .ok (.aload_n 0, 1) := op_42 nb_dX9_shift_109.2.2.2.2.2.2.1
set_option maxRecDepth 100000 in
theorem dX9_shift_121 : decode cX9_shift 121 = .ok (.getfield 98, 3) := (op_180 nb_dX9_shift_109.2.2.2.2.2.2.2.1).trans rfl
set_option maxRecDepth 100000 in
theorem dX9_shift_124 : decode cX9_shift 124 = .ok (.iload 6, 2) := (op_21 nb_dX9_shift_109.2.2.2.2.2.2.2.2.1).trans rfl
theorem dX9_shift_126 : decode cX9_shift 126 = .ok (.aload_n 0, 1) := op_42 nb_dX9_shift_109.2.2.2.2.2.2.2.2.2.1
set_option maxRecDepth 100000 in
theorem dX9_shift_127 : decode cX9_shift 127 = .ok (.getfield 94, 3) := (op_180 nb_dX9_shift_109.2.2.2.2.2.2.2.2.2.2.1).trans rfl
set_option maxRecDepth 100000 in
theorem dX9_shift_130 : decode cX9_shift 130 = .ok (.bipush 60, 2) := (op_16 nb_dX9_shift_109.2.2.2.2.2.2.2.2.2.2.2.1).trans rfl
theorem nb_dX9_shift_132 : bls_w cX9_shift [(132, [27]), (133, [104]), (134, [28]), (135, [96]), (136, [21, 6]), (138, [96]), (139, [47]), (140, [80]), (141, [132, 6, 1]), (144, [167, 255, 225]), (147, [3]), (148, [54, 6])] := bls_of (by decide +kernel)
theorem dX9_shift_132 : decode cX9_shift 132 = .ok (.iload_n 1, 1) := op_27 nb_dX9_shift_132.1
theorem dX9_shift_133 : decode cX9_shift 133 = .ok (.imul, 1) := op_104 nb_dX9_shift_132.2.1
theorem dX9_shift_134 : decode cX9_shift 134 = .ok (.iload_n 2, 1) := op_28 nb_dX9_shift_132.2.2.1
theorem dX9_shift_135 : decode cX9_shift 135 = .ok (.iadd, 1) := op_96 nb_dX9_shift_132.2.2.2.1
set_option maxRecDepth 100000 in
theorem dX9_shift_136 : decode cX9_shift 136 = .ok (.iload 6, 2) := (op_21 nb_dX9_shift_132.2.2.2.2.1).trans rfl
theorem dX9_shift_138 : decode cX9_shift 138 = .ok (.iadd, 1) := op_96 nb_dX9_shift_132.2.2.2.2.2.1
theorem dX9_shift_139 : decode cX9_shift 139 = .ok (.laload, 1) := op_47 nb_dX9_shift_132.2.2.2.2.2.2.1
theorem dX9_shift_140 : decode cX9_shift 140 = .ok (.lastore, 1) := op_80 nb_dX9_shift_132.2.2.2.2.2.2.2.1
set_option maxRecDepth 100000 in
theorem dX9_shift_141 : decode cX9_shift 141 = .ok (.iinc 6 1, 3) := (op_132 nb_dX9_shift_132.2.2.2.2.2.2.2.2.1).trans rfl
set_option maxRecDepth 100000 in
theorem dX9_shift_144 : decode cX9_shift 144 = .ok (.goto (-31), 3) := (op_167 nb_dX9_shift_132.2.2.2.2.2.2.2.2.2.1).trans rfl
theorem dX9_shift_147 : decode cX9_shift 147 = .ok (.iconst 0, 1) := op_3 nb_dX9_shift_132.2.2.2.2.2.2.2.2.2.2.1
set_option maxRecDepth 100000 in
theorem dX9_shift_148 : decode cX9_shift 148 = .ok (.istore 6, 2) := (op_54 nb_dX9_shift_132.2.2.2.2.2.2.2.2.2.2.2.1).trans rfl
theorem nb_dX9_shift_150 : bls_w cX9_shift [(150, [21, 6]), (152, [21, 5]), (154, [162, 0, 31]), (157, [42]), (158, [180, 0, 94]), (161, [16, 60]), (163, [29]), (164, [104]), (165, [21, 4]), (167, [96]), (168, [21, 6]), (170, [96])] := bls_of (by decide +kernel)
set_option maxRecDepth 100000 in
theorem dX9_shift_150 : decode cX9_shift 150 = .ok (.iload 6, 2) := (op_21 nb_dX9_shift_150.1).trans rfl
set_option maxRecDepth 100000 in
theorem dX9_shift_152 : decode cX9_shift 152 = .ok (.iload 5, 2) := (op_21 nb_dX9_shift_150.2.1).trans rfl
set_option maxRecDepth 100000 in
theorem dX9_shift_154 : decode cX9_shift 154 = .ok (.if_icmp .ge 31, 3) := (op_162 nb_dX9_shift_150.2.2.1).trans rfl
theorem dX9_shift_157 : decode cX9_shift 157 = .ok (.aload_n 0, 1) := op_42 nb_dX9_shift_150.2.2.2.1
set_option maxRecDepth 100000 in
theorem dX9_shift_158 : decode cX9_shift 158 = .ok (.getfield 94, 3) := (op_180 nb_dX9_shift_150.2.2.2.2.1).trans rfl
set_option maxRecDepth 100000 in
theorem dX9_shift_161 : decode cX9_shift 161 = .ok (.bipush 60, 2) := (op_16 nb_dX9_shift_150.2.2.2.2.2.1).trans rfl
theorem dX9_shift_163 : decode cX9_shift 163 = .ok (.iload_n 3, 1) := op_29 nb_dX9_shift_150.2.2.2.2.2.2.1
theorem dX9_shift_164 : decode cX9_shift 164 = .ok (.imul, 1) := op_104 nb_dX9_shift_150.2.2.2.2.2.2.2.1
set_option maxRecDepth 100000 in
theorem dX9_shift_165 : decode cX9_shift 165 = .ok (.iload 4, 2) := (op_21 nb_dX9_shift_150.2.2.2.2.2.2.2.2.1).trans rfl
theorem dX9_shift_167 : decode cX9_shift 167 = .ok (.iadd, 1) := op_96 nb_dX9_shift_150.2.2.2.2.2.2.2.2.2.1
set_option maxRecDepth 100000 in
theorem dX9_shift_168 : decode cX9_shift 168 = .ok (.iload 6, 2) := (op_21 nb_dX9_shift_150.2.2.2.2.2.2.2.2.2.2.1).trans rfl
theorem dX9_shift_170 : decode cX9_shift 170 = .ok (.iadd, 1) := op_96 nb_dX9_shift_150.2.2.2.2.2.2.2.2.2.2.2.1
theorem nb_dX9_shift_171 : bls_w cX9_shift [(171, [42]), (172, [180, 0, 98]), (175, [21, 6]), (177, [47]), (178, [80]), (179, [132, 6, 1]), (182, [167, 255, 224]), (185, [21, 5]), (187, [172])] := bls_of (by decide +kernel)
theorem dX9_shift_171 : decode cX9_shift 171 = .ok (.aload_n 0, 1) := op_42 nb_dX9_shift_171.1
set_option maxRecDepth 100000 in
theorem dX9_shift_172 : decode cX9_shift 172 = .ok (.getfield 98, 3) := (op_180 nb_dX9_shift_171.2.1).trans rfl
set_option maxRecDepth 100000 in
theorem dX9_shift_175 : decode cX9_shift 175 = .ok (.iload 6, 2) := (op_21 nb_dX9_shift_171.2.2.1).trans rfl
theorem dX9_shift_177 : decode cX9_shift 177 = .ok (.laload, 1) := op_47 nb_dX9_shift_171.2.2.2.1
theorem dX9_shift_178 : decode cX9_shift 178 = .ok (.lastore, 1) := op_80 nb_dX9_shift_171.2.2.2.2.1
set_option maxRecDepth 100000 in
theorem dX9_shift_179 : decode cX9_shift 179 = .ok (.iinc 6 1, 3) := (op_132 nb_dX9_shift_171.2.2.2.2.2.1).trans rfl
set_option maxRecDepth 100000 in
theorem dX9_shift_182 : decode cX9_shift 182 = .ok (.goto (-32), 3) := (op_167 nb_dX9_shift_171.2.2.2.2.2.2.1).trans rfl
set_option maxRecDepth 100000 in
theorem dX9_shift_185 : decode cX9_shift 185 = .ok (.iload 5, 2) := (op_21 nb_dX9_shift_171.2.2.2.2.2.2.2.1).trans rfl
theorem dX9_shift_187 : decode cX9_shift 187 = .ok (.ireturn, 1) := op_172 nb_dX9_shift_171.2.2.2.2.2.2.2.2.1
def fX9_shift_150 (N : Nat)  : Nat → Int32 → Int32 → Int32 → Int32 → List Int32 → List Int32 → List Int64 → List Int64 → Option (Int32 × List Int64 × List Int64)
  | 0 => fun _ _ _ _ _ _ _ _ => none
  | n + 1 => fun x3 x4 x5 x6 v_shelf v_many v_items v_carried =>
    if x5 ≤ x6 then
    (some (x5, v_items, v_carried))
    else (mm_ck (mm_inb x6 v_carried.length) (mm_nm ((mm_lg v_carried x6)) (fun (y_31 : Int64) =>
    mm_ck (mm_inb ((((60 : Int32) * x3) + x4) + x6) v_items.length) (mm_nm (mm_ls v_items ((((60 : Int32) * x3) + x4) + x6) y_31) (fun (l_33 : List Int64) =>
    mm_nm (x6 + (1 : Int32)) (fun (y_34 : Int32) =>
    fX9_shift_150 N n x3 x4 x5 y_34 v_shelf v_many l_33 v_carried))))))

set_option maxHeartbeats 4000000 in
set_option maxRecDepth 100000 in
theorem tX9_shift_150 {p : Program} {l : Launch} {e : Env} {s : State} {m : MethodId} {args : Array Value} {below : List Frame} {meth : Method} {c : Code} {D : va_G} {cI cL cS cH : ClassId} {A : Nat → Prop} {d : Nat} {a : Nat → Nat} (hd : 3 ≤ d) (C0 : mm_Cx p s m args meth c RX9 cX9_shift 7 (some .int) D (mm_T cI cL cS cH) A) (hA : ∀ q, s.heap.size ≤ q → A q) {v_keptMany : Int32} {v_done : Int32} {v_rowsOf : Int32} {v_columnsOf : Int32} {v_folded : Int32} {v_wronged : Int32} {v_tapeMany : Int32} {v_textMany : Int32} {v_base : Int32} {v_at : Int32} {v_ends : Int32} {v_fault : Int32} {v_opened : Int32} {v_bentMany : Int32} {v_bentWrong : Int32} {v_moreWorn : Int32} {v_planned : Int32} {v_allWrong : Int32} {v_allWorn : Int32} {v_z : Int32} {v_wishedField : Int32} {v_isFound : Bool} {v_bestWrong : Int32} {v_bestWorn : Int32} {v_bestMany : Int32} {v_soughtBy : Int32} {v_sought : Int32} {v_soughtAt : Int32} {v_foundMany : Int32} {v_foundOrder : Int32} {v_isKept : Bool} {v_imageRows : Int32} {v_imageColumns : Int32} {v_imageFolded : Int32} {v_imageWronged : Int32} {v_bodies : Int32} {v_ran : Int32} {v_ownKind : Int32} {v_ownNumber : Int32} {v_limit : List Int32} {v_changeWas : List Int32} {v_changeIs : List Int32} {v_shapeRows : List Int32} {v_shapeColumns : List Int32} {v_row : List Int32} {v_column : List Int32} {v_below : List Int32} {v_face : List Int32} {v_worn : List Int32} {v_lastBend : List Int32} {v_tape : List Int32} {v_text : List Int32} {v_names : List Int32} {v_bends : List Int32} {v_high : List Int32} {v_to : List Int32} {v_pileSize : List Int32} {v_planLine : List Int32} {v_planWay : List Int32} {v_way1 : List Int32} {v_bestWay : List Int32} {v_order1 : List Int32} {v_placeIn : List Int32} {v_bodyKind : List Int32} {v_trace : List Int32} {r : Int32} {w_items : List Int64} {w_carried : List Int64} (N : Nat)  : ∀ (n : Nat), ∀ (x3 : Int32) (x4 : Int32) (x5 : Int32) (x6 : Int32) (v_shelf : List Int32) (v_many : List Int32) (v_items : List Int64) (v_carried : List Int64) (H : Heap) (locs : List Loc) (ls : Array Slot), fX9_shift_150 N n x3 x4 x5 x6 v_shelf v_many v_items v_carried = some (r, w_items, w_carried) → va_P D mm_cl (wd_X9 cI cL cS cH a v_keptMany v_done v_rowsOf v_columnsOf v_folded v_wronged v_tapeMany v_textMany v_base v_at v_ends v_fault v_opened v_bentMany v_bentWrong v_moreWorn v_planned v_allWrong v_allWorn v_z v_wishedField v_isFound v_bestWrong v_bestWorn v_bestMany v_soughtBy v_sought v_soughtAt v_foundMany v_foundOrder v_isKept v_imageRows v_imageColumns v_imageFolded v_imageWronged v_bodies v_ran v_ownKind v_ownNumber v_limit v_changeWas v_changeIs v_shapeRows v_shapeColumns v_row v_column v_below v_face v_worn v_lastBend v_tape v_text v_names v_bends v_high v_to v_pileSize v_planLine v_planWay v_way1 v_bestWay v_order1 v_placeIn v_bodyKind v_trace v_shelf v_many v_items v_carried) H → va_D A (wd_X9 cI cL cS cH a v_keptMany v_done v_rowsOf v_columnsOf v_folded v_wronged v_tapeMany v_textMany v_base v_at v_ends v_fault v_opened v_bentMany v_bentWrong v_moreWorn v_planned v_allWrong v_allWorn v_z v_wishedField v_isFound v_bestWrong v_bestWorn v_bestMany v_soughtBy v_sought v_soughtAt v_foundMany v_foundOrder v_isKept v_imageRows v_imageColumns v_imageFolded v_imageWronged v_bodies v_ran v_ownKind v_ownNumber v_limit v_changeWas v_changeIs v_shapeRows v_shapeColumns v_row v_column v_below v_face v_worn v_lastBend v_tape v_text v_names v_bends v_high v_to v_pileSize v_planLine v_planWay v_way1 v_bestWay v_order1 v_placeIn v_bodyKind v_trace v_shelf v_many v_items v_carried) → va_S A s.heap H locs → lv_has ls 7 [(0, .ref (a 0)), (3, .int x3), (4, .int x4), (5, .int x5), (6, .int x6)] → W p l e (mm_rr d) s m args below meth c H locs 0 0 (mm_Z below D A (wd_X9 cI cL cS cH a v_keptMany v_done v_rowsOf v_columnsOf v_folded v_wronged v_tapeMany v_textMany v_base v_at v_ends v_fault v_opened v_bentMany v_bentWrong v_moreWorn v_planned v_allWrong v_allWorn v_z v_wishedField v_isFound v_bestWrong v_bestWorn v_bestMany v_soughtBy v_sought v_soughtAt v_foundMany v_foundOrder v_isKept v_imageRows v_imageColumns v_imageFolded v_imageWronged v_bodies v_ran v_ownKind v_ownNumber v_limit v_changeWas v_changeIs v_shapeRows v_shapeColumns v_row v_column v_below v_face v_worn v_lastBend v_tape v_text v_names v_bends v_high v_to v_pileSize v_planLine v_planWay v_way1 v_bestWay v_order1 v_placeIn v_bodyKind v_trace v_shelf v_many w_items w_carried) (some (.int r)) args s) (F0 m 150 ls []) := by
  obtain ⟨hx, hb, hml, hown, hts, hr, hlocks, hK, hSt⟩ := id C0
  intro n
  induction n with
  | zero =>
    intro x3 x4 x5 x6 v_shelf v_many v_items v_carried H locs ls hf
    cases (show none = some _ from hf)
  | succ n ih =>
    intro x3 x4 x5 x6 v_shelf v_many v_items v_carried H locs ls hf hP hD hS hl
    unfold fX9_shift_150 at hf
    refine lv_iload hx hb dX9_shift_150 (lv_at hl 4 rfl) ?_
    refine lv_iload hx hb dX9_shift_152 (lv_at hl 3 rfl) ?_
    refine lv_icmp_ge (tgt := 185) hx hb dX9_shift_154 (by decide) (fun c_29 => ?_) (fun c_29 => ?_)
    · have hf := mm_ip hf c_29
      refine lv_iload hx hb dX9_shift_185 (lv_at hl 3 rfl) ?_
      apply mm_sub3 hf
      exact mm_iret C0 hP hD hS dX9_shift_187
    · have hf := mm_in hf c_29
      refine lv_aload_n hx hb dX9_shift_157 rfl (lv_at hl 0 rfl) ?_
      refine mm_get C0 hP iw_X9 0 rfl rfl 67 (by decide) fl_X9_94 rfl dX9_shift_158 ?_
      refine lv_bipush (v := 60) hx hb dX9_shift_161 (by decide) ?_
      refine lv_iload_n hx hb dX9_shift_163 rfl (lv_at hl 1 rfl) ?_
      refine lv_imul hx hb dX9_shift_164 ?_
      refine lv_iload hx hb dX9_shift_165 (lv_at hl 2 rfl) ?_
      refine lv_iadd hx hb dX9_shift_167 ?_
      refine lv_iload hx hb dX9_shift_168 (lv_at hl 4 rfl) ?_
      refine lv_iadd hx hb dX9_shift_170 ?_
      refine lv_aload_n hx hb dX9_shift_171 rfl (lv_at hl 0 rfl) ?_
      refine mm_get C0 hP iw_X9 0 rfl rfl 68 (by decide) fl_X9_98 rfl dX9_shift_172 ?_
      refine lv_iload hx hb dX9_shift_175 (lv_at hl 4 rfl) ?_
      obtain ⟨h_30, hf⟩ := mm_cks hf
      refine mm_lald C0 hP 30 rfl h_30 dX9_shift_177 ?_
      refine lv_topl (fun y_31 ey_31 => ?_)
      have hf := mm_nms hf ey_31
      obtain ⟨h_32, hf⟩ := mm_cks hf
      refine mm_last C0 hP hD hS 29 rfl h_32 dX9_shift_178 (w2 := (wd_X9 cI cL cS cH a v_keptMany v_done v_rowsOf v_columnsOf v_folded v_wronged v_tapeMany v_textMany v_base v_at v_ends v_fault v_opened v_bentMany v_bentWrong v_moreWorn v_planned v_allWrong v_allWorn v_z v_wishedField v_isFound v_bestWrong v_bestWorn v_bestMany v_soughtBy v_sought v_soughtAt v_foundMany v_foundOrder v_isKept v_imageRows v_imageColumns v_imageFolded v_imageWronged v_bodies v_ran v_ownKind v_ownNumber v_limit v_changeWas v_changeIs v_shapeRows v_shapeColumns v_row v_column v_below v_face v_worn v_lastBend v_tape v_text v_names v_bends v_high v_to v_pileSize v_planLine v_planWay v_way1 v_bestWay v_order1 v_placeIn v_bodyKind v_trace v_shelf v_many (mm_ls v_items ((((60 : Int32) * x3) + x4) + x6) y_31) v_carried)) rfl (fun H locs hP hD hS => ?_)
      generalize el_33 : (mm_ls v_items ((((60 : Int32) * x3) + x4) + x6) y_31) = l_33 at hP hD
      have hf := mm_nms hf el_33.symm
      obtain ⟨y_34, ey_34⟩ : ∃ z : Int32, z = x6 + (1 : Int32) := ⟨_, rfl⟩
      have hf := mm_nms hf ey_34
      refine lv_iinc (v := y_34) (lv' := [(6, .int y_34), (0, .ref (a 0)), (3, .int x3), (4, .int x4), (5, .int x5)]) hx hb dX9_shift_179 hl (k := 4) rfl (by rw [ey_34]; rfl) (by decide) rfl (fun ls hl => ?_)
      refine lv_goto (tgt := 150) hx hb dX9_shift_182 (by decide) ?_
      exact ih _ _ _ _ _ _ _ _ H locs ls hf hP hD hS (lv_sub hl [1, 2, 3, 4, 0] rfl)

def fX9_shift_113 (N : Nat)  : Nat → Int32 → Int32 → Int32 → Int32 → Int32 → Int32 → List Int32 → List Int32 → List Int64 → List Int64 → Option (Int32 × List Int64 × List Int64)
  | 0 => fun _ _ _ _ _ _ _ _ _ _ => none
  | n + 1 => fun x1 x2 x3 x4 x5 x6 v_shelf v_many v_items v_carried =>
    if x5 ≤ x6 then
    (fX9_shift_150 N N x3 x4 x5 (0 : Int32) v_shelf v_many v_items v_carried)
    else (mm_ck (mm_inb ((((60 : Int32) * x1) + x2) + x6) v_items.length) (mm_nm ((mm_lg v_items ((((60 : Int32) * x1) + x2) + x6))) (fun (y_25 : Int64) =>
    mm_ck (mm_inb x6 v_carried.length) (mm_nm (mm_ls v_carried x6 y_25) (fun (l_27 : List Int64) =>
    mm_nm (x6 + (1 : Int32)) (fun (y_28 : Int32) =>
    fX9_shift_113 N n x1 x2 x3 x4 x5 y_28 v_shelf v_many v_items l_27))))))

set_option maxHeartbeats 4000000 in
set_option maxRecDepth 100000 in
theorem tX9_shift_113 {p : Program} {l : Launch} {e : Env} {s : State} {m : MethodId} {args : Array Value} {below : List Frame} {meth : Method} {c : Code} {D : va_G} {cI cL cS cH : ClassId} {A : Nat → Prop} {d : Nat} {a : Nat → Nat} (hd : 3 ≤ d) (C0 : mm_Cx p s m args meth c RX9 cX9_shift 7 (some .int) D (mm_T cI cL cS cH) A) (hA : ∀ q, s.heap.size ≤ q → A q) {v_keptMany : Int32} {v_done : Int32} {v_rowsOf : Int32} {v_columnsOf : Int32} {v_folded : Int32} {v_wronged : Int32} {v_tapeMany : Int32} {v_textMany : Int32} {v_base : Int32} {v_at : Int32} {v_ends : Int32} {v_fault : Int32} {v_opened : Int32} {v_bentMany : Int32} {v_bentWrong : Int32} {v_moreWorn : Int32} {v_planned : Int32} {v_allWrong : Int32} {v_allWorn : Int32} {v_z : Int32} {v_wishedField : Int32} {v_isFound : Bool} {v_bestWrong : Int32} {v_bestWorn : Int32} {v_bestMany : Int32} {v_soughtBy : Int32} {v_sought : Int32} {v_soughtAt : Int32} {v_foundMany : Int32} {v_foundOrder : Int32} {v_isKept : Bool} {v_imageRows : Int32} {v_imageColumns : Int32} {v_imageFolded : Int32} {v_imageWronged : Int32} {v_bodies : Int32} {v_ran : Int32} {v_ownKind : Int32} {v_ownNumber : Int32} {v_limit : List Int32} {v_changeWas : List Int32} {v_changeIs : List Int32} {v_shapeRows : List Int32} {v_shapeColumns : List Int32} {v_row : List Int32} {v_column : List Int32} {v_below : List Int32} {v_face : List Int32} {v_worn : List Int32} {v_lastBend : List Int32} {v_tape : List Int32} {v_text : List Int32} {v_names : List Int32} {v_bends : List Int32} {v_high : List Int32} {v_to : List Int32} {v_pileSize : List Int32} {v_planLine : List Int32} {v_planWay : List Int32} {v_way1 : List Int32} {v_bestWay : List Int32} {v_order1 : List Int32} {v_placeIn : List Int32} {v_bodyKind : List Int32} {v_trace : List Int32} {r : Int32} {w_items : List Int64} {w_carried : List Int64} (N : Nat)  : ∀ (n : Nat), ∀ (x1 : Int32) (x2 : Int32) (x3 : Int32) (x4 : Int32) (x5 : Int32) (x6 : Int32) (v_shelf : List Int32) (v_many : List Int32) (v_items : List Int64) (v_carried : List Int64) (H : Heap) (locs : List Loc) (ls : Array Slot), fX9_shift_113 N n x1 x2 x3 x4 x5 x6 v_shelf v_many v_items v_carried = some (r, w_items, w_carried) → va_P D mm_cl (wd_X9 cI cL cS cH a v_keptMany v_done v_rowsOf v_columnsOf v_folded v_wronged v_tapeMany v_textMany v_base v_at v_ends v_fault v_opened v_bentMany v_bentWrong v_moreWorn v_planned v_allWrong v_allWorn v_z v_wishedField v_isFound v_bestWrong v_bestWorn v_bestMany v_soughtBy v_sought v_soughtAt v_foundMany v_foundOrder v_isKept v_imageRows v_imageColumns v_imageFolded v_imageWronged v_bodies v_ran v_ownKind v_ownNumber v_limit v_changeWas v_changeIs v_shapeRows v_shapeColumns v_row v_column v_below v_face v_worn v_lastBend v_tape v_text v_names v_bends v_high v_to v_pileSize v_planLine v_planWay v_way1 v_bestWay v_order1 v_placeIn v_bodyKind v_trace v_shelf v_many v_items v_carried) H → va_D A (wd_X9 cI cL cS cH a v_keptMany v_done v_rowsOf v_columnsOf v_folded v_wronged v_tapeMany v_textMany v_base v_at v_ends v_fault v_opened v_bentMany v_bentWrong v_moreWorn v_planned v_allWrong v_allWorn v_z v_wishedField v_isFound v_bestWrong v_bestWorn v_bestMany v_soughtBy v_sought v_soughtAt v_foundMany v_foundOrder v_isKept v_imageRows v_imageColumns v_imageFolded v_imageWronged v_bodies v_ran v_ownKind v_ownNumber v_limit v_changeWas v_changeIs v_shapeRows v_shapeColumns v_row v_column v_below v_face v_worn v_lastBend v_tape v_text v_names v_bends v_high v_to v_pileSize v_planLine v_planWay v_way1 v_bestWay v_order1 v_placeIn v_bodyKind v_trace v_shelf v_many v_items v_carried) → va_S A s.heap H locs → lv_has ls 7 [(0, .ref (a 0)), (1, .int x1), (2, .int x2), (3, .int x3), (4, .int x4), (5, .int x5), (6, .int x6)] → W p l e (mm_rr d) s m args below meth c H locs 0 0 (mm_Z below D A (wd_X9 cI cL cS cH a v_keptMany v_done v_rowsOf v_columnsOf v_folded v_wronged v_tapeMany v_textMany v_base v_at v_ends v_fault v_opened v_bentMany v_bentWrong v_moreWorn v_planned v_allWrong v_allWorn v_z v_wishedField v_isFound v_bestWrong v_bestWorn v_bestMany v_soughtBy v_sought v_soughtAt v_foundMany v_foundOrder v_isKept v_imageRows v_imageColumns v_imageFolded v_imageWronged v_bodies v_ran v_ownKind v_ownNumber v_limit v_changeWas v_changeIs v_shapeRows v_shapeColumns v_row v_column v_below v_face v_worn v_lastBend v_tape v_text v_names v_bends v_high v_to v_pileSize v_planLine v_planWay v_way1 v_bestWay v_order1 v_placeIn v_bodyKind v_trace v_shelf v_many w_items w_carried) (some (.int r)) args s) (F0 m 113 ls []) := by
  obtain ⟨hx, hb, hml, hown, hts, hr, hlocks, hK, hSt⟩ := id C0
  intro n
  induction n with
  | zero =>
    intro x1 x2 x3 x4 x5 x6 v_shelf v_many v_items v_carried H locs ls hf
    cases (show none = some _ from hf)
  | succ n ih =>
    intro x1 x2 x3 x4 x5 x6 v_shelf v_many v_items v_carried H locs ls hf hP hD hS hl
    unfold fX9_shift_113 at hf
    refine lv_iload hx hb dX9_shift_113 (lv_at hl 6 rfl) ?_
    refine lv_iload hx hb dX9_shift_115 (lv_at hl 5 rfl) ?_
    refine lv_icmp_ge (tgt := 147) hx hb dX9_shift_117 (by decide) (fun c_23 => ?_) (fun c_23 => ?_)
    · have hf := mm_ip hf c_23
      refine lv_iconst (v := 0) hx hb dX9_shift_147 (by decide) ?_
      refine lv_istore (lv' := [(6, .int (0 : Int32)), (0, .ref (a 0)), (1, .int x1), (2, .int x2), (3, .int x3), (4, .int x4), (5, .int x5)]) hx hb dX9_shift_148 hl (by decide) rfl (fun ls hl => ?_)
      exact tX9_shift_150 hd C0 hA N  N _ _ _ _ _ _ _ _ H locs ls hf hP hD hS (lv_sub hl [1, 4, 5, 6, 0] rfl)
    · have hf := mm_in hf c_23
      refine lv_aload_n hx hb dX9_shift_120 rfl (lv_at hl 0 rfl) ?_
      refine mm_get C0 hP iw_X9 0 rfl rfl 68 (by decide) fl_X9_98 rfl dX9_shift_121 ?_
      refine lv_iload hx hb dX9_shift_124 (lv_at hl 6 rfl) ?_
      refine lv_aload_n hx hb dX9_shift_126 rfl (lv_at hl 0 rfl) ?_
      refine mm_get C0 hP iw_X9 0 rfl rfl 67 (by decide) fl_X9_94 rfl dX9_shift_127 ?_
      refine lv_bipush (v := 60) hx hb dX9_shift_130 (by decide) ?_
      refine lv_iload_n hx hb dX9_shift_132 rfl (lv_at hl 1 rfl) ?_
      refine lv_imul hx hb dX9_shift_133 ?_
      refine lv_iload_n hx hb dX9_shift_134 rfl (lv_at hl 2 rfl) ?_
      refine lv_iadd hx hb dX9_shift_135 ?_
      refine lv_iload hx hb dX9_shift_136 (lv_at hl 6 rfl) ?_
      refine lv_iadd hx hb dX9_shift_138 ?_
      obtain ⟨h_24, hf⟩ := mm_cks hf
      refine mm_lald C0 hP 29 rfl h_24 dX9_shift_139 ?_
      refine lv_topl (fun y_25 ey_25 => ?_)
      have hf := mm_nms hf ey_25
      obtain ⟨h_26, hf⟩ := mm_cks hf
      refine mm_last C0 hP hD hS 30 rfl h_26 dX9_shift_140 (w2 := (wd_X9 cI cL cS cH a v_keptMany v_done v_rowsOf v_columnsOf v_folded v_wronged v_tapeMany v_textMany v_base v_at v_ends v_fault v_opened v_bentMany v_bentWrong v_moreWorn v_planned v_allWrong v_allWorn v_z v_wishedField v_isFound v_bestWrong v_bestWorn v_bestMany v_soughtBy v_sought v_soughtAt v_foundMany v_foundOrder v_isKept v_imageRows v_imageColumns v_imageFolded v_imageWronged v_bodies v_ran v_ownKind v_ownNumber v_limit v_changeWas v_changeIs v_shapeRows v_shapeColumns v_row v_column v_below v_face v_worn v_lastBend v_tape v_text v_names v_bends v_high v_to v_pileSize v_planLine v_planWay v_way1 v_bestWay v_order1 v_placeIn v_bodyKind v_trace v_shelf v_many v_items (mm_ls v_carried x6 y_25))) rfl (fun H locs hP hD hS => ?_)
      generalize el_27 : (mm_ls v_carried x6 y_25) = l_27 at hP hD
      have hf := mm_nms hf el_27.symm
      obtain ⟨y_28, ey_28⟩ : ∃ z : Int32, z = x6 + (1 : Int32) := ⟨_, rfl⟩
      have hf := mm_nms hf ey_28
      refine lv_iinc (v := y_28) (lv' := [(6, .int y_28), (0, .ref (a 0)), (1, .int x1), (2, .int x2), (3, .int x3), (4, .int x4), (5, .int x5)]) hx hb dX9_shift_141 hl (k := 6) rfl (by rw [ey_28]; rfl) (by decide) rfl (fun ls hl => ?_)
      refine lv_goto (tgt := 113) hx hb dX9_shift_144 (by decide) ?_
      exact ih _ _ _ _ _ _ _ _ _ _ H locs ls hf hP hD hS (lv_sub hl [1, 2, 3, 4, 5, 6, 0] rfl)

def fX9_shift (N : Nat) (x1 : Int32) (x2 : Int32) (x3 : Int32) (x4 : Int32) (x5 : Int32) (v_shelf : List Int32) (v_many : List Int32) (v_items : List Int64) (v_carried : List Int64) : Option (Int32 × List Int64 × List Int64) :=
    mm_bd1 (fX9_isShelf N x1) (fun (r_1 : Bool) =>
    if r_1 = false then
    (some ((-1 : Int32), v_items, v_carried))
    else (mm_bd1 (fX9_isShelf N x3) (fun (r_4 : Bool) =>
    if r_4 = false then
    (some ((-1 : Int32), v_items, v_carried))
    else (mm_ck (mm_inb x1 v_shelf.length) (if (mm_ig v_shelf x1) < 0 then
    (some ((-11 : Int32), v_items, v_carried))
    else (mm_ck (mm_inb x3 v_shelf.length) (if 0 ≤ (mm_ig v_shelf x3) then
    (mm_ck (mm_inb x1 v_shelf.length) (if (mm_ig v_shelf x1) < (50 : Int32) then
    (some ((-12 : Int32), v_items, v_carried))
    else (mm_ck (mm_inb x1 v_shelf.length) (mm_ck (mm_inb x3 v_shelf.length) (if (mm_ig v_shelf x1) = (mm_ig v_shelf x3) then
    (if x5 < 0 then
    (some ((-13 : Int32), v_items, v_carried))
    else (if x2 < 0 then
    (some ((-13 : Int32), v_items, v_carried))
    else (if x4 < 0 then
    (some ((-13 : Int32), v_items, v_carried))
    else (mm_ck (mm_inb x1 v_many.length) (if ((mm_ig v_many x1) - x5) < x2 then
    (some ((-13 : Int32), v_items, v_carried))
    else (mm_ck (mm_inb x3 v_many.length) (if x4 ≤ ((mm_ig v_many x3) - x5) then
    (fX9_shift_113 N N x1 x2 x3 x4 x5 (0 : Int32) v_shelf v_many v_items v_carried)
    else (some ((-13 : Int32), v_items, v_carried)))))))))
    else (some ((-12 : Int32), v_items, v_carried)))))))
    else (some ((-11 : Int32), v_items, v_carried)))))))))

set_option maxHeartbeats 4000000 in
set_option maxRecDepth 100000 in
theorem ctX9_shift {l : Launch} {D : va_G} {cI cL cS cH : ClassId} {a : Nat → Nat} {x1 : Int32} {x2 : Int32} {x3 : Int32} {x4 : Int32} {x5 : Int32} {v_keptMany : Int32} {v_done : Int32} {v_rowsOf : Int32} {v_columnsOf : Int32} {v_folded : Int32} {v_wronged : Int32} {v_tapeMany : Int32} {v_textMany : Int32} {v_base : Int32} {v_at : Int32} {v_ends : Int32} {v_fault : Int32} {v_opened : Int32} {v_bentMany : Int32} {v_bentWrong : Int32} {v_moreWorn : Int32} {v_planned : Int32} {v_allWrong : Int32} {v_allWorn : Int32} {v_z : Int32} {v_wishedField : Int32} {v_isFound : Bool} {v_bestWrong : Int32} {v_bestWorn : Int32} {v_bestMany : Int32} {v_soughtBy : Int32} {v_sought : Int32} {v_soughtAt : Int32} {v_foundMany : Int32} {v_foundOrder : Int32} {v_isKept : Bool} {v_imageRows : Int32} {v_imageColumns : Int32} {v_imageFolded : Int32} {v_imageWronged : Int32} {v_bodies : Int32} {v_ran : Int32} {v_ownKind : Int32} {v_ownNumber : Int32} {v_limit : List Int32} {v_changeWas : List Int32} {v_changeIs : List Int32} {v_shapeRows : List Int32} {v_shapeColumns : List Int32} {v_row : List Int32} {v_column : List Int32} {v_below : List Int32} {v_face : List Int32} {v_worn : List Int32} {v_lastBend : List Int32} {v_tape : List Int32} {v_text : List Int32} {v_names : List Int32} {v_bends : List Int32} {v_high : List Int32} {v_to : List Int32} {v_pileSize : List Int32} {v_planLine : List Int32} {v_planWay : List Int32} {v_way1 : List Int32} {v_bestWay : List Int32} {v_order1 : List Int32} {v_placeIn : List Int32} {v_bodyKind : List Int32} {v_trace : List Int32} {v_shelf : List Int32} {v_many : List Int32} {v_items : List Int64} {v_carried : List Int64} {r : Int32} {w_items : List Int64} {w_carried : List Int64} {N d : Nat} (hd : 3 ≤ d) (hf : fX9_shift N x1 x2 x3 x4 x5 v_shelf v_many v_items v_carried = some (r, w_items, w_carried)) : mm_Ct l yX9_shift cX9_shift 7 (some .int) d D (mm_T cI cL cS cH) [.ref (a 0), .int x1, .int x2, .int x3, .int x4, .int x5] (wd_X9 cI cL cS cH a v_keptMany v_done v_rowsOf v_columnsOf v_folded v_wronged v_tapeMany v_textMany v_base v_at v_ends v_fault v_opened v_bentMany v_bentWrong v_moreWorn v_planned v_allWrong v_allWorn v_z v_wishedField v_isFound v_bestWrong v_bestWorn v_bestMany v_soughtBy v_sought v_soughtAt v_foundMany v_foundOrder v_isKept v_imageRows v_imageColumns v_imageFolded v_imageWronged v_bodies v_ran v_ownKind v_ownNumber v_limit v_changeWas v_changeIs v_shapeRows v_shapeColumns v_row v_column v_below v_face v_worn v_lastBend v_tape v_text v_names v_bends v_high v_to v_pileSize v_planLine v_planWay v_way1 v_bestWay v_order1 v_placeIn v_bodyKind v_trace v_shelf v_many v_items v_carried) (wd_X9 cI cL cS cH a v_keptMany v_done v_rowsOf v_columnsOf v_folded v_wronged v_tapeMany v_textMany v_base v_at v_ends v_fault v_opened v_bentMany v_bentWrong v_moreWorn v_planned v_allWrong v_allWorn v_z v_wishedField v_isFound v_bestWrong v_bestWorn v_bestMany v_soughtBy v_sought v_soughtAt v_foundMany v_foundOrder v_isKept v_imageRows v_imageColumns v_imageFolded v_imageWronged v_bodies v_ran v_ownKind v_ownNumber v_limit v_changeWas v_changeIs v_shapeRows v_shapeColumns v_row v_column v_below v_face v_worn v_lastBend v_tape v_text v_names v_bends v_high v_to v_pileSize v_planLine v_planWay v_way1 v_bestWay v_order1 v_placeIn v_bodyKind v_trace v_shelf v_many w_items w_carried) (some (.int r)) := by
  refine mm_of (by decide) (Nat.le_of_ble_eq_true rfl) ?_
  intro p e s m args below meth c A H locs ls C0 hP hD hA hS hl
  have C0 : mm_Cx p s m args meth c RX9 cX9_shift 7 (some .int) D (mm_T cI cL cS cH) A := C0
  obtain ⟨hx, hb, hml, hown, hts, hr, hlocks, hK, hSt⟩ := id C0
  have hl : lv_has ls 7 [(0, .ref (a 0)), (1, .int x1), (2, .int x2), (3, .int x3), (4, .int x4), (5, .int x5)] := hl
  unfold fX9_shift at hf
  refine lv_iload_n hx hb dX9_shift_0 rfl (lv_at hl 1 rfl) ?_
  obtain ⟨r_1, hc_2, hf⟩ := mm_bd1s hf
  refine mm_callS0 (rest := []) C0 lk_X9_274 (ctX9_isShelf (d := d - 1) (by omega) hc_2) (by omega) rfl hl.1 rfl (mm_cat rfl) dX9_shift_1 hP hD hA hS (fun H locs hP hS => ?_)
  refine W.eq (g2 := F0 m 4 ls [.int (mm_b r_1)]) rfl ?_
  refine lv_if_eq (tgt := 14) hx hb dX9_shift_4 (by decide) (fun c_3 => ?_) (fun c_3 => ?_)
  · have hf := mm_ip hf (mm_b0 c_3)
    refine lv_iconst (v := -1) hx hb dX9_shift_14 (by decide) ?_
    apply mm_sub3 hf
    exact mm_iret C0 hP hD hS dX9_shift_15
  · have hf := mm_in hf (mm_b1 c_3)
    refine lv_iload_n hx hb dX9_shift_7 rfl (lv_at hl 3 rfl) ?_
    obtain ⟨r_4, hc_5, hf⟩ := mm_bd1s hf
    refine mm_callS0 (rest := []) C0 lk_X9_274 (ctX9_isShelf (d := d - 1) (by omega) hc_5) (by omega) rfl hl.1 rfl (mm_cat rfl) dX9_shift_8 hP hD hA hS (fun H locs hP hS => ?_)
    refine W.eq (g2 := F0 m 11 ls [.int (mm_b r_4)]) rfl ?_
    refine lv_if_ne (tgt := 16) hx hb dX9_shift_11 (by decide) (fun c_6 => ?_) (fun c_6 => ?_)
    · have hf := mm_in hf (mm_b1 c_6)
      refine lv_aload_n hx hb dX9_shift_16 rfl (lv_at hl 0 rfl) ?_
      refine mm_get C0 hP iw_X9 0 rfl rfl 65 (by decide) fl_X9_88 rfl dX9_shift_17 ?_
      refine lv_iload_n hx hb dX9_shift_20 rfl (lv_at hl 1 rfl) ?_
      obtain ⟨h_7, hf⟩ := mm_cks hf
      refine mm_iald C0 hP 27 rfl h_7 dX9_shift_21 ?_
      refine lv_if_lt (tgt := 34) hx hb dX9_shift_22 (by decide) (fun c_8 => ?_) (fun c_8 => ?_)
      · have hf := mm_ip hf c_8
        refine lv_bipush (v := -11) hx hb dX9_shift_34 (by decide) ?_
        apply mm_sub3 hf
        exact mm_iret C0 hP hD hS dX9_shift_36
      · have hf := mm_in hf c_8
        refine lv_aload_n hx hb dX9_shift_25 rfl (lv_at hl 0 rfl) ?_
        refine mm_get C0 hP iw_X9 0 rfl rfl 65 (by decide) fl_X9_88 rfl dX9_shift_26 ?_
        refine lv_iload_n hx hb dX9_shift_29 rfl (lv_at hl 3 rfl) ?_
        obtain ⟨h_9, hf⟩ := mm_cks hf
        refine mm_iald C0 hP 27 rfl h_9 dX9_shift_30 ?_
        refine lv_if_ge (tgt := 37) hx hb dX9_shift_31 (by decide) (fun c_10 => ?_) (fun c_10 => ?_)
        · have hf := mm_ip hf c_10
          refine lv_aload_n hx hb dX9_shift_37 rfl (lv_at hl 0 rfl) ?_
          refine mm_get C0 hP iw_X9 0 rfl rfl 65 (by decide) fl_X9_88 rfl dX9_shift_38 ?_
          refine lv_iload_n hx hb dX9_shift_41 rfl (lv_at hl 1 rfl) ?_
          obtain ⟨h_11, hf⟩ := mm_cks hf
          refine mm_iald C0 hP 27 rfl h_11 dX9_shift_42 ?_
          refine lv_bipush (v := 50) hx hb dX9_shift_43 (by decide) ?_
          refine lv_icmp_lt (tgt := 63) hx hb dX9_shift_45 (by decide) (fun c_12 => ?_) (fun c_12 => ?_)
          · have hf := mm_ip hf c_12
            refine lv_bipush (v := -12) hx hb dX9_shift_63 (by decide) ?_
            apply mm_sub3 hf
            exact mm_iret C0 hP hD hS dX9_shift_65
          · have hf := mm_in hf c_12
            refine lv_aload_n hx hb dX9_shift_48 rfl (lv_at hl 0 rfl) ?_
            refine mm_get C0 hP iw_X9 0 rfl rfl 65 (by decide) fl_X9_88 rfl dX9_shift_49 ?_
            refine lv_iload_n hx hb dX9_shift_52 rfl (lv_at hl 1 rfl) ?_
            obtain ⟨h_13, hf⟩ := mm_cks hf
            refine mm_iald C0 hP 27 rfl h_13 dX9_shift_53 ?_
            refine lv_aload_n hx hb dX9_shift_54 rfl (lv_at hl 0 rfl) ?_
            refine mm_get C0 hP iw_X9 0 rfl rfl 65 (by decide) fl_X9_88 rfl dX9_shift_55 ?_
            refine lv_iload_n hx hb dX9_shift_58 rfl (lv_at hl 3 rfl) ?_
            obtain ⟨h_14, hf⟩ := mm_cks hf
            refine mm_iald C0 hP 27 rfl h_14 dX9_shift_59 ?_
            refine lv_icmp_eq (tgt := 66) hx hb dX9_shift_60 (by decide) (fun c_15 => ?_) (fun c_15 => ?_)
            · have hf := mm_ip hf c_15
              refine lv_iload hx hb dX9_shift_66 (lv_at hl 5 rfl) ?_
              refine lv_if_lt (tgt := 107) hx hb dX9_shift_68 (by decide) (fun c_16 => ?_) (fun c_16 => ?_)
              · have hf := mm_ip hf c_16
                refine lv_bipush (v := -13) hx hb dX9_shift_107 (by decide) ?_
                apply mm_sub3 hf
                exact mm_iret C0 hP hD hS dX9_shift_109
              · have hf := mm_in hf c_16
                refine lv_iload_n hx hb dX9_shift_71 rfl (lv_at hl 2 rfl) ?_
                refine lv_if_lt (tgt := 107) hx hb dX9_shift_72 (by decide) (fun c_17 => ?_) (fun c_17 => ?_)
                · have hf := mm_ip hf c_17
                  refine lv_bipush (v := -13) hx hb dX9_shift_107 (by decide) ?_
                  apply mm_sub3 hf
                  exact mm_iret C0 hP hD hS dX9_shift_109
                · have hf := mm_in hf c_17
                  refine lv_iload hx hb dX9_shift_75 (lv_at hl 4 rfl) ?_
                  refine lv_if_lt (tgt := 107) hx hb dX9_shift_77 (by decide) (fun c_18 => ?_) (fun c_18 => ?_)
                  · have hf := mm_ip hf c_18
                    refine lv_bipush (v := -13) hx hb dX9_shift_107 (by decide) ?_
                    apply mm_sub3 hf
                    exact mm_iret C0 hP hD hS dX9_shift_109
                  · have hf := mm_in hf c_18
                    refine lv_iload_n hx hb dX9_shift_80 rfl (lv_at hl 2 rfl) ?_
                    refine lv_aload_n hx hb dX9_shift_81 rfl (lv_at hl 0 rfl) ?_
                    refine mm_get C0 hP iw_X9 0 rfl rfl 66 (by decide) fl_X9_91 rfl dX9_shift_82 ?_
                    refine lv_iload_n hx hb dX9_shift_85 rfl (lv_at hl 1 rfl) ?_
                    obtain ⟨h_19, hf⟩ := mm_cks hf
                    refine mm_iald C0 hP 28 rfl h_19 dX9_shift_86 ?_
                    refine lv_iload hx hb dX9_shift_87 (lv_at hl 5 rfl) ?_
                    refine lv_isub hx hb dX9_shift_89 ?_
                    refine lv_icmp_gt (tgt := 107) hx hb dX9_shift_90 (by decide) (fun c_20 => ?_) (fun c_20 => ?_)
                    · have hf := mm_ip hf c_20
                      refine lv_bipush (v := -13) hx hb dX9_shift_107 (by decide) ?_
                      apply mm_sub3 hf
                      exact mm_iret C0 hP hD hS dX9_shift_109
                    · have hf := mm_in hf c_20
                      refine lv_iload hx hb dX9_shift_93 (lv_at hl 4 rfl) ?_
                      refine lv_aload_n hx hb dX9_shift_95 rfl (lv_at hl 0 rfl) ?_
                      refine mm_get C0 hP iw_X9 0 rfl rfl 66 (by decide) fl_X9_91 rfl dX9_shift_96 ?_
                      refine lv_iload_n hx hb dX9_shift_99 rfl (lv_at hl 3 rfl) ?_
                      obtain ⟨h_21, hf⟩ := mm_cks hf
                      refine mm_iald C0 hP 28 rfl h_21 dX9_shift_100 ?_
                      refine lv_iload hx hb dX9_shift_101 (lv_at hl 5 rfl) ?_
                      refine lv_isub hx hb dX9_shift_103 ?_
                      refine lv_icmp_le (tgt := 110) hx hb dX9_shift_104 (by decide) (fun c_22 => ?_) (fun c_22 => ?_)
                      · have hf := mm_ip hf c_22
                        refine lv_iconst (v := 0) hx hb dX9_shift_110 (by decide) ?_
                        refine lv_istore (lv' := [(6, .int (0 : Int32)), (0, .ref (a 0)), (1, .int x1), (2, .int x2), (3, .int x3), (4, .int x4), (5, .int x5)]) hx hb dX9_shift_111 hl (by decide) rfl (fun ls hl => ?_)
                        exact tX9_shift_113 hd C0 hA N  N _ _ _ _ _ _ _ _ _ _ H locs ls hf hP hD hS (lv_sub hl [1, 2, 3, 4, 5, 6, 0] rfl)
                      · have hf := mm_in hf c_22
                        refine lv_bipush (v := -13) hx hb dX9_shift_107 (by decide) ?_
                        apply mm_sub3 hf
                        exact mm_iret C0 hP hD hS dX9_shift_109
            · have hf := mm_in hf c_15
              refine lv_bipush (v := -12) hx hb dX9_shift_63 (by decide) ?_
              apply mm_sub3 hf
              exact mm_iret C0 hP hD hS dX9_shift_65
        · have hf := mm_in hf c_10
          refine lv_bipush (v := -11) hx hb dX9_shift_34 (by decide) ?_
          apply mm_sub3 hf
          exact mm_iret C0 hP hD hS dX9_shift_36
    · have hf := mm_ip hf (mm_b0 c_6)
      refine lv_iconst (v := -1) hx hb dX9_shift_14 (by decide) ?_
      apply mm_sub3 hf
      exact mm_iret C0 hP hD hS dX9_shift_15
end
section
/-! reference: X9_taken, X9_count -/
theorem nb_dX9_taken_0 : bls_w cX9_taken [(0, [27]), (1, [184, 1, 18]), (4, [153, 0, 15]), (7, [28]), (8, [133]), (9, [9]), (10, [20, 0, 238]), (13, [184, 0, 111]), (16, [154, 0, 5]), (19, [2]), (20, [172]), (21, [42])] := bls_of (by decide +kernel)
theorem dX9_taken_0 : decode cX9_taken 0 = .ok (.iload_n 1, 1) := op_27 nb_dX9_taken_0.1
set_option maxRecDepth 100000 in
theorem dX9_taken_1 : decode cX9_taken 1 = .ok (.invokestatic 274, 3) := (op_184 nb_dX9_taken_0.2.1).trans rfl
set_option maxRecDepth 100000 in
theorem dX9_taken_4 : decode cX9_taken 4 = .ok (.ifCond .eq 15, 3) := (op_153 nb_dX9_taken_0.2.2.1).trans rfl
theorem dX9_taken_7 : decode cX9_taken 7 = .ok (.iload_n 2, 1) := op_28 nb_dX9_taken_0.2.2.2.1
theorem dX9_taken_8 : decode cX9_taken 8 = .ok (.i2l, 1) := op_133 nb_dX9_taken_0.2.2.2.2.1
theorem dX9_taken_9 : decode cX9_taken 9 = .ok (.lconst 0, 1) := op_9 nb_dX9_taken_0.2.2.2.2.2.1
set_option maxRecDepth 100000 in
theorem dX9_taken_10 : decode cX9_taken 10 = .ok (.ldc2_w 238, 3) := (op_20 nb_dX9_taken_0.2.2.2.2.2.2.1).trans rfl
set_option maxRecDepth 100000 in
theorem dX9_taken_13 : decode cX9_taken 13 = .ok (.invokestatic 111, 3) := (op_184 nb_dX9_taken_0.2.2.2.2.2.2.2.1).trans rfl
set_option maxRecDepth 100000 in
theorem dX9_taken_16 : decode cX9_taken 16 = .ok (.ifCond .ne 5, 3) := (op_154 nb_dX9_taken_0.2.2.2.2.2.2.2.2.1).trans rfl
theorem dX9_taken_19 : decode cX9_taken 19 = .ok (.iconst (-1), 1) := op_2 nb_dX9_taken_0.2.2.2.2.2.2.2.2.2.1
theorem dX9_taken_20 : decode cX9_taken 20 = .ok (.ireturn, 1) := op_172 nb_dX9_taken_0.2.2.2.2.2.2.2.2.2.2.1
theorem dX9_taken_21 : decode cX9_taken 21 = .ok (.aload_n 0, 1) := op_42 nb_dX9_taken_0.2.2.2.2.2.2.2.2.2.2.2.1
theorem nb_dX9_taken_22 : bls_w cX9_taken [(22, [180, 0, 88]), (25, [27]), (26, [46]), (27, [156, 0, 6]), (30, [16, 245]), (32, [172]), (33, [42]), (34, [180, 0, 88]), (37, [27]), (38, [46]), (39, [16, 50]), (41, [161, 0, 6])] := bls_of (by decide +kernel)
set_option maxRecDepth 100000 in
theorem dX9_taken_22 : decode cX9_taken 22 = .ok (.getfield 88, 3) := (op_180 nb_dX9_taken_22.1).trans rfl
theorem dX9_taken_25 : decode cX9_taken 25 = .ok (.iload_n 1, 1) := op_27 nb_dX9_taken_22.2.1
theorem dX9_taken_26 : decode cX9_taken 26 = .ok (.iaload, 1) := op_46 nb_dX9_taken_22.2.2.1
set_option maxRecDepth 100000 in
theorem dX9_taken_27 : decode cX9_taken 27 = .ok (.ifCond .ge 6, 3) := (op_156 nb_dX9_taken_22.2.2.2.1).trans rfl
set_option maxRecDepth 100000 in
theorem dX9_taken_30 : decode cX9_taken 30 = .ok (.bipush (-11), 2) := (op_16 nb_dX9_taken_22.2.2.2.2.1).trans rfl
theorem dX9_taken_32 : decode cX9_taken 32 = .ok (.ireturn, 1) := op_172 nb_dX9_taken_22.2.2.2.2.2.1
theorem dX9_taken_33 : decode cX9_taken 33 = .ok (.aload_n 0, 1) := op_42 nb_dX9_taken_22.2.2.2.2.2.2.1
set_option maxRecDepth 100000 in
theorem dX9_taken_34 : decode cX9_taken 34 = .ok (.getfield 88, 3) := (op_180 nb_dX9_taken_22.2.2.2.2.2.2.2.1).trans rfl
theorem dX9_taken_37 : decode cX9_taken 37 = .ok (.iload_n 1, 1) := op_27 nb_dX9_taken_22.2.2.2.2.2.2.2.2.1
theorem dX9_taken_38 : decode cX9_taken 38 = .ok (.iaload, 1) := op_46 nb_dX9_taken_22.2.2.2.2.2.2.2.2.2.1
set_option maxRecDepth 100000 in
theorem dX9_taken_39 : decode cX9_taken 39 = .ok (.bipush 50, 2) := (op_16 nb_dX9_taken_22.2.2.2.2.2.2.2.2.2.2.1).trans rfl
set_option maxRecDepth 100000 in
theorem dX9_taken_41 : decode cX9_taken 41 = .ok (.if_icmp .lt 6, 3) := (op_161 nb_dX9_taken_22.2.2.2.2.2.2.2.2.2.2.2.1).trans rfl
theorem nb_dX9_taken_44 : bls_w cX9_taken [(44, [16, 244]), (46, [172]), (47, [42]), (48, [42]), (49, [180, 0, 88]), (52, [27]), (53, [46]), (54, [182, 1, 182]), (57, [62]), (58, [29]), (59, [28]), (60, [159, 0, 15])] := bls_of (by decide +kernel)
set_option maxRecDepth 100000 in
theorem dX9_taken_44 : decode cX9_taken 44 = .ok (.bipush (-12), 2) := (op_16 nb_dX9_taken_44.1).trans rfl
theorem dX9_taken_46 : decode cX9_taken 46 = .ok (.ireturn, 1) := op_172 nb_dX9_taken_44.2.1
theorem dX9_taken_47 : decode cX9_taken 47 = .ok (.aload_n 0, 1) := op_42 nb_dX9_taken_44.2.2.1
theorem dX9_taken_48 : decode cX9_taken 48 = .ok (.aload_n 0, 1) := op_42 nb_dX9_taken_44.2.2.2.1
set_option maxRecDepth 100000 in
theorem dX9_taken_49 : decode cX9_taken 49 = .ok (.getfield 88, 3) := (op_180 nb_dX9_taken_44.2.2.2.2.1).trans rfl
theorem dX9_taken_52 : decode cX9_taken 52 = .ok (.iload_n 1, 1) := op_27 nb_dX9_taken_44.2.2.2.2.2.1
theorem dX9_taken_53 : decode cX9_taken 53 = .ok (.iaload, 1) := op_46 nb_dX9_taken_44.2.2.2.2.2.2.1
set_option maxRecDepth 100000 in
theorem dX9_taken_54 : decode cX9_taken 54 = .ok (.invokevirtual 438, 3) := (op_182 nb_dX9_taken_44.2.2.2.2.2.2.2.1).trans rfl
theorem dX9_taken_57 : decode cX9_taken 57 = .ok (.istore_n 3, 1) := op_62 nb_dX9_taken_44.2.2.2.2.2.2.2.2.1
theorem dX9_taken_58 : decode cX9_taken 58 = .ok (.iload_n 3, 1) := op_29 nb_dX9_taken_44.2.2.2.2.2.2.2.2.2.1
theorem dX9_taken_59 : decode cX9_taken 59 = .ok (.iload_n 2, 1) := op_28 nb_dX9_taken_44.2.2.2.2.2.2.2.2.2.2.1
set_option maxRecDepth 100000 in
theorem dX9_taken_60 : decode cX9_taken 60 = .ok (.if_icmp .eq 15, 3) := (op_159 nb_dX9_taken_44.2.2.2.2.2.2.2.2.2.2.2.1).trans rfl
theorem nb_dX9_taken_63 : bls_w cX9_taken [(63, [29]), (64, [158, 0, 11]), (67, [29]), (68, [184, 1, 185]), (71, [62]), (72, [167, 255, 242]), (75, [29]), (76, [28]), (77, [160, 0, 16]), (80, [42]), (81, [42]), (82, [180, 0, 88])] := bls_of (by decide +kernel)
theorem dX9_taken_63 : decode cX9_taken 63 = .ok (.iload_n 3, 1) := op_29 nb_dX9_taken_63.1
set_option maxRecDepth 100000 in
theorem dX9_taken_64 : decode cX9_taken 64 = .ok (.ifCond .le 11, 3) := (op_158 nb_dX9_taken_63.2.1).trans rfl
theorem dX9_taken_67 : decode cX9_taken 67 = .ok (.iload_n 3, 1) := op_29 nb_dX9_taken_63.2.2.1
set_option maxRecDepth 100000 in
theorem dX9_taken_68 : decode cX9_taken 68 = .ok (.invokestatic 441, 3) := (op_184 nb_dX9_taken_63.2.2.2.1).trans rfl
theorem dX9_taken_71 : decode cX9_taken 71 = .ok (.istore_n 3, 1) := op_62 nb_dX9_taken_63.2.2.2.2.1
set_option maxRecDepth 100000 in
theorem dX9_taken_72 : decode cX9_taken 72 = .ok (.goto (-14), 3) := (op_167 nb_dX9_taken_63.2.2.2.2.2.1).trans rfl
theorem dX9_taken_75 : decode cX9_taken 75 = .ok (.iload_n 3, 1) := op_29 nb_dX9_taken_63.2.2.2.2.2.2.1
theorem dX9_taken_76 : decode cX9_taken 76 = .ok (.iload_n 2, 1) := op_28 nb_dX9_taken_63.2.2.2.2.2.2.2.1
set_option maxRecDepth 100000 in
theorem dX9_taken_77 : decode cX9_taken 77 = .ok (.if_icmp .ne 16, 3) := (op_160 nb_dX9_taken_63.2.2.2.2.2.2.2.2.1).trans rfl
theorem dX9_taken_80 : decode cX9_taken 80 = .ok (.aload_n 0, 1) := op_42 nb_dX9_taken_63.2.2.2.2.2.2.2.2.2.1
theorem dX9_taken_81 : decode cX9_taken 81 = .ok (.aload_n 0, 1) := op_42 nb_dX9_taken_63.2.2.2.2.2.2.2.2.2.2.1
set_option maxRecDepth 100000 in
theorem dX9_taken_82 : decode cX9_taken 82 = .ok (.getfield 88, 3) := (op_180 nb_dX9_taken_63.2.2.2.2.2.2.2.2.2.2.2.1).trans rfl
theorem nb_dX9_taken_85 : bls_w cX9_taken [(85, [27]), (86, [46]), (87, [182, 1, 182]), (90, [167, 0, 5]), (93, [16, 244]), (95, [172])] := bls_of (by decide +kernel)
theorem dX9_taken_85 : decode cX9_taken 85 = .ok (.iload_n 1, 1) := op_27 nb_dX9_taken_85.1
theorem dX9_taken_86 : decode cX9_taken 86 = .ok (.iaload, 1) := op_46 nb_dX9_taken_85.2.1
set_option maxRecDepth 100000 in
theorem dX9_taken_87 : decode cX9_taken 87 = .ok (.invokevirtual 438, 3) := (op_182 nb_dX9_taken_85.2.2.1).trans rfl
set_option maxRecDepth 100000 in
theorem dX9_taken_90 : decode cX9_taken 90 = .ok (.goto 5, 3) := (op_167 nb_dX9_taken_85.2.2.2.1).trans rfl
set_option maxRecDepth 100000 in
theorem dX9_taken_93 : decode cX9_taken 93 = .ok (.bipush (-12), 2) := (op_16 nb_dX9_taken_85.2.2.2.2.1).trans rfl
theorem dX9_taken_95 : decode cX9_taken 95 = .ok (.ireturn, 1) := op_172 nb_dX9_taken_85.2.2.2.2.2.1
def fX9_taken_75 (N : Nat)  (x1 : Int32) (x2 : Int32) (x3 : Int32) (v_bodyKind : List Int32) (v_shelf : List Int32) : Option (Int32) :=
    if x3 = x2 then
    (mm_ck (mm_inb x1 v_shelf.length) (mm_bd1 (fX9_kindOf N (mm_ig v_shelf x1) v_bodyKind) (fun (r_20 : Int32) =>
    some (r_20))))
    else (some ((-12 : Int32)))

set_option maxHeartbeats 4000000 in
set_option maxRecDepth 100000 in
theorem tX9_taken_75 {p : Program} {l : Launch} {e : Env} {s : State} {m : MethodId} {args : Array Value} {below : List Frame} {meth : Method} {c : Code} {D : va_G} {cI cL cS cH : ClassId} {A : Nat → Prop} {d : Nat} {a : Nat → Nat} (hd : 3 ≤ d) (C0 : mm_Cx p s m args meth c RX9 cX9_taken 4 (some .int) D (mm_T cI cL cS cH) A) (hA : ∀ q, s.heap.size ≤ q → A q) {v_keptMany : Int32} {v_done : Int32} {v_rowsOf : Int32} {v_columnsOf : Int32} {v_folded : Int32} {v_wronged : Int32} {v_tapeMany : Int32} {v_textMany : Int32} {v_base : Int32} {v_at : Int32} {v_ends : Int32} {v_fault : Int32} {v_opened : Int32} {v_bentMany : Int32} {v_bentWrong : Int32} {v_moreWorn : Int32} {v_planned : Int32} {v_allWrong : Int32} {v_allWorn : Int32} {v_z : Int32} {v_wishedField : Int32} {v_isFound : Bool} {v_bestWrong : Int32} {v_bestWorn : Int32} {v_bestMany : Int32} {v_soughtBy : Int32} {v_sought : Int32} {v_soughtAt : Int32} {v_foundMany : Int32} {v_foundOrder : Int32} {v_isKept : Bool} {v_imageRows : Int32} {v_imageColumns : Int32} {v_imageFolded : Int32} {v_imageWronged : Int32} {v_bodies : Int32} {v_ran : Int32} {v_ownKind : Int32} {v_ownNumber : Int32} {v_limit : List Int32} {v_changeWas : List Int32} {v_changeIs : List Int32} {v_shapeRows : List Int32} {v_shapeColumns : List Int32} {v_row : List Int32} {v_column : List Int32} {v_below : List Int32} {v_face : List Int32} {v_worn : List Int32} {v_lastBend : List Int32} {v_tape : List Int32} {v_text : List Int32} {v_names : List Int32} {v_bends : List Int32} {v_high : List Int32} {v_to : List Int32} {v_pileSize : List Int32} {v_planLine : List Int32} {v_planWay : List Int32} {v_way1 : List Int32} {v_bestWay : List Int32} {v_order1 : List Int32} {v_placeIn : List Int32} {v_trace : List Int32} {v_many : List Int32} {v_items : List Int64} {v_carried : List Int64} {r : Int32} (N : Nat)  : ∀ (x1 : Int32) (x2 : Int32) (x3 : Int32) (v_bodyKind : List Int32) (v_shelf : List Int32) (H : Heap) (locs : List Loc) (ls : Array Slot), fX9_taken_75 N x1 x2 x3 v_bodyKind v_shelf = some r → va_P D mm_cl (wd_X9 cI cL cS cH a v_keptMany v_done v_rowsOf v_columnsOf v_folded v_wronged v_tapeMany v_textMany v_base v_at v_ends v_fault v_opened v_bentMany v_bentWrong v_moreWorn v_planned v_allWrong v_allWorn v_z v_wishedField v_isFound v_bestWrong v_bestWorn v_bestMany v_soughtBy v_sought v_soughtAt v_foundMany v_foundOrder v_isKept v_imageRows v_imageColumns v_imageFolded v_imageWronged v_bodies v_ran v_ownKind v_ownNumber v_limit v_changeWas v_changeIs v_shapeRows v_shapeColumns v_row v_column v_below v_face v_worn v_lastBend v_tape v_text v_names v_bends v_high v_to v_pileSize v_planLine v_planWay v_way1 v_bestWay v_order1 v_placeIn v_bodyKind v_trace v_shelf v_many v_items v_carried) H → va_D A (wd_X9 cI cL cS cH a v_keptMany v_done v_rowsOf v_columnsOf v_folded v_wronged v_tapeMany v_textMany v_base v_at v_ends v_fault v_opened v_bentMany v_bentWrong v_moreWorn v_planned v_allWrong v_allWorn v_z v_wishedField v_isFound v_bestWrong v_bestWorn v_bestMany v_soughtBy v_sought v_soughtAt v_foundMany v_foundOrder v_isKept v_imageRows v_imageColumns v_imageFolded v_imageWronged v_bodies v_ran v_ownKind v_ownNumber v_limit v_changeWas v_changeIs v_shapeRows v_shapeColumns v_row v_column v_below v_face v_worn v_lastBend v_tape v_text v_names v_bends v_high v_to v_pileSize v_planLine v_planWay v_way1 v_bestWay v_order1 v_placeIn v_bodyKind v_trace v_shelf v_many v_items v_carried) → va_S A s.heap H locs → lv_has ls 4 [(0, .ref (a 0)), (1, .int x1), (2, .int x2), (3, .int x3)] → W p l e (mm_rr d) s m args below meth c H locs 0 0 (mm_Z below D A (wd_X9 cI cL cS cH a v_keptMany v_done v_rowsOf v_columnsOf v_folded v_wronged v_tapeMany v_textMany v_base v_at v_ends v_fault v_opened v_bentMany v_bentWrong v_moreWorn v_planned v_allWrong v_allWorn v_z v_wishedField v_isFound v_bestWrong v_bestWorn v_bestMany v_soughtBy v_sought v_soughtAt v_foundMany v_foundOrder v_isKept v_imageRows v_imageColumns v_imageFolded v_imageWronged v_bodies v_ran v_ownKind v_ownNumber v_limit v_changeWas v_changeIs v_shapeRows v_shapeColumns v_row v_column v_below v_face v_worn v_lastBend v_tape v_text v_names v_bends v_high v_to v_pileSize v_planLine v_planWay v_way1 v_bestWay v_order1 v_placeIn v_bodyKind v_trace v_shelf v_many v_items v_carried) (some (.int r)) args s) (F0 m 75 ls []) := by
  obtain ⟨hx, hb, hml, hown, hts, hr, hlocks, hK, hSt⟩ := id C0
  intro x1 x2 x3 v_bodyKind v_shelf H locs ls hf hP hD hS hl
  unfold fX9_taken_75 at hf
  refine lv_iload_n hx hb dX9_taken_75 rfl (lv_at hl 3 rfl) ?_
  refine lv_iload_n hx hb dX9_taken_76 rfl (lv_at hl 2 rfl) ?_
  refine lv_icmp_ne (tgt := 93) hx hb dX9_taken_77 (by decide) (fun c_18 => ?_) (fun c_18 => ?_)
  · have hf := mm_in hf c_18
    refine lv_bipush (v := -12) hx hb dX9_taken_93 (by decide) ?_
    obtain rfl := mm_inj1 hf
    exact mm_iret C0 hP hD hS dX9_taken_95
  · have hf := mm_ip hf c_18
    refine lv_aload_n hx hb dX9_taken_80 rfl (lv_at hl 0 rfl) ?_
    refine lv_aload_n hx hb dX9_taken_81 rfl (lv_at hl 0 rfl) ?_
    refine mm_get C0 hP iw_X9 0 rfl rfl 65 (by decide) fl_X9_88 rfl dX9_taken_82 ?_
    refine lv_iload_n hx hb dX9_taken_85 rfl (lv_at hl 1 rfl) ?_
    obtain ⟨h_19, hf⟩ := mm_cks hf
    refine mm_iald C0 hP 27 rfl h_19 dX9_taken_86 ?_
    obtain ⟨r_20, hc_21, hf⟩ := mm_bd1s hf
    refine mm_callVF (q0 := 0) (ci := 9) (rest := []) C0 lk_X9_438 (ctX9_kindOf (a := a) (d := d - 1) (by omega) hc_21) (by omega) rfl hl.1 rfl (mm_cat rfl) dX9_taken_87 hP hD hA hS rfl rfl (fun H locs hP hD hS => ?_)
    refine W.eq (g2 := F0 m 90 ls [.int r_20]) rfl ?_
    refine lv_goto (tgt := 95) hx hb dX9_taken_90 (by decide) ?_
    obtain rfl := mm_inj1 hf
    exact mm_iret C0 hP hD hS dX9_taken_95

def fX9_taken_58 (N : Nat)  : Nat → Int32 → Int32 → Int32 → List Int32 → List Int32 → Option (Int32)
  | 0 => fun _ _ _ _ _ => none
  | n + 1 => fun x1 x2 x3 v_bodyKind v_shelf =>
    if x3 = x2 then
    (fX9_taken_75 N x1 x2 x3 v_bodyKind v_shelf)
    else (if x3 ≤ 0 then
    (fX9_taken_75 N x1 x2 x3 v_bodyKind v_shelf)
    else (mm_bd1 (fX9_above N x3) (fun (r_16 : Int32) =>
    fX9_taken_58 N n x1 x2 r_16 v_bodyKind v_shelf)))

set_option maxHeartbeats 4000000 in
set_option maxRecDepth 100000 in
theorem tX9_taken_58 {p : Program} {l : Launch} {e : Env} {s : State} {m : MethodId} {args : Array Value} {below : List Frame} {meth : Method} {c : Code} {D : va_G} {cI cL cS cH : ClassId} {A : Nat → Prop} {d : Nat} {a : Nat → Nat} (hd : 3 ≤ d) (C0 : mm_Cx p s m args meth c RX9 cX9_taken 4 (some .int) D (mm_T cI cL cS cH) A) (hA : ∀ q, s.heap.size ≤ q → A q) {v_keptMany : Int32} {v_done : Int32} {v_rowsOf : Int32} {v_columnsOf : Int32} {v_folded : Int32} {v_wronged : Int32} {v_tapeMany : Int32} {v_textMany : Int32} {v_base : Int32} {v_at : Int32} {v_ends : Int32} {v_fault : Int32} {v_opened : Int32} {v_bentMany : Int32} {v_bentWrong : Int32} {v_moreWorn : Int32} {v_planned : Int32} {v_allWrong : Int32} {v_allWorn : Int32} {v_z : Int32} {v_wishedField : Int32} {v_isFound : Bool} {v_bestWrong : Int32} {v_bestWorn : Int32} {v_bestMany : Int32} {v_soughtBy : Int32} {v_sought : Int32} {v_soughtAt : Int32} {v_foundMany : Int32} {v_foundOrder : Int32} {v_isKept : Bool} {v_imageRows : Int32} {v_imageColumns : Int32} {v_imageFolded : Int32} {v_imageWronged : Int32} {v_bodies : Int32} {v_ran : Int32} {v_ownKind : Int32} {v_ownNumber : Int32} {v_limit : List Int32} {v_changeWas : List Int32} {v_changeIs : List Int32} {v_shapeRows : List Int32} {v_shapeColumns : List Int32} {v_row : List Int32} {v_column : List Int32} {v_below : List Int32} {v_face : List Int32} {v_worn : List Int32} {v_lastBend : List Int32} {v_tape : List Int32} {v_text : List Int32} {v_names : List Int32} {v_bends : List Int32} {v_high : List Int32} {v_to : List Int32} {v_pileSize : List Int32} {v_planLine : List Int32} {v_planWay : List Int32} {v_way1 : List Int32} {v_bestWay : List Int32} {v_order1 : List Int32} {v_placeIn : List Int32} {v_trace : List Int32} {v_many : List Int32} {v_items : List Int64} {v_carried : List Int64} {r : Int32} (N : Nat)  : ∀ (n : Nat), ∀ (x1 : Int32) (x2 : Int32) (x3 : Int32) (v_bodyKind : List Int32) (v_shelf : List Int32) (H : Heap) (locs : List Loc) (ls : Array Slot), fX9_taken_58 N n x1 x2 x3 v_bodyKind v_shelf = some r → va_P D mm_cl (wd_X9 cI cL cS cH a v_keptMany v_done v_rowsOf v_columnsOf v_folded v_wronged v_tapeMany v_textMany v_base v_at v_ends v_fault v_opened v_bentMany v_bentWrong v_moreWorn v_planned v_allWrong v_allWorn v_z v_wishedField v_isFound v_bestWrong v_bestWorn v_bestMany v_soughtBy v_sought v_soughtAt v_foundMany v_foundOrder v_isKept v_imageRows v_imageColumns v_imageFolded v_imageWronged v_bodies v_ran v_ownKind v_ownNumber v_limit v_changeWas v_changeIs v_shapeRows v_shapeColumns v_row v_column v_below v_face v_worn v_lastBend v_tape v_text v_names v_bends v_high v_to v_pileSize v_planLine v_planWay v_way1 v_bestWay v_order1 v_placeIn v_bodyKind v_trace v_shelf v_many v_items v_carried) H → va_D A (wd_X9 cI cL cS cH a v_keptMany v_done v_rowsOf v_columnsOf v_folded v_wronged v_tapeMany v_textMany v_base v_at v_ends v_fault v_opened v_bentMany v_bentWrong v_moreWorn v_planned v_allWrong v_allWorn v_z v_wishedField v_isFound v_bestWrong v_bestWorn v_bestMany v_soughtBy v_sought v_soughtAt v_foundMany v_foundOrder v_isKept v_imageRows v_imageColumns v_imageFolded v_imageWronged v_bodies v_ran v_ownKind v_ownNumber v_limit v_changeWas v_changeIs v_shapeRows v_shapeColumns v_row v_column v_below v_face v_worn v_lastBend v_tape v_text v_names v_bends v_high v_to v_pileSize v_planLine v_planWay v_way1 v_bestWay v_order1 v_placeIn v_bodyKind v_trace v_shelf v_many v_items v_carried) → va_S A s.heap H locs → lv_has ls 4 [(0, .ref (a 0)), (1, .int x1), (2, .int x2), (3, .int x3)] → W p l e (mm_rr d) s m args below meth c H locs 0 0 (mm_Z below D A (wd_X9 cI cL cS cH a v_keptMany v_done v_rowsOf v_columnsOf v_folded v_wronged v_tapeMany v_textMany v_base v_at v_ends v_fault v_opened v_bentMany v_bentWrong v_moreWorn v_planned v_allWrong v_allWorn v_z v_wishedField v_isFound v_bestWrong v_bestWorn v_bestMany v_soughtBy v_sought v_soughtAt v_foundMany v_foundOrder v_isKept v_imageRows v_imageColumns v_imageFolded v_imageWronged v_bodies v_ran v_ownKind v_ownNumber v_limit v_changeWas v_changeIs v_shapeRows v_shapeColumns v_row v_column v_below v_face v_worn v_lastBend v_tape v_text v_names v_bends v_high v_to v_pileSize v_planLine v_planWay v_way1 v_bestWay v_order1 v_placeIn v_bodyKind v_trace v_shelf v_many v_items v_carried) (some (.int r)) args s) (F0 m 58 ls []) := by
  obtain ⟨hx, hb, hml, hown, hts, hr, hlocks, hK, hSt⟩ := id C0
  intro n
  induction n with
  | zero =>
    intro x1 x2 x3 v_bodyKind v_shelf H locs ls hf
    cases (show none = some _ from hf)
  | succ n ih =>
    intro x1 x2 x3 v_bodyKind v_shelf H locs ls hf hP hD hS hl
    unfold fX9_taken_58 at hf
    refine lv_iload_n hx hb dX9_taken_58 rfl (lv_at hl 3 rfl) ?_
    refine lv_iload_n hx hb dX9_taken_59 rfl (lv_at hl 2 rfl) ?_
    refine lv_icmp_eq (tgt := 75) hx hb dX9_taken_60 (by decide) (fun c_14 => ?_) (fun c_14 => ?_)
    · have hf := mm_ip hf c_14
      exact tX9_taken_75 hd C0 hA N  _ _ _ _ _ H locs ls hf hP hD hS (lv_sub hl [0, 1, 2, 3] rfl)
    · have hf := mm_in hf c_14
      refine lv_iload_n hx hb dX9_taken_63 rfl (lv_at hl 3 rfl) ?_
      refine lv_if_le (tgt := 75) hx hb dX9_taken_64 (by decide) (fun c_15 => ?_) (fun c_15 => ?_)
      · have hf := mm_ip hf c_15
        exact tX9_taken_75 hd C0 hA N  _ _ _ _ _ H locs ls hf hP hD hS (lv_sub hl [0, 1, 2, 3] rfl)
      · have hf := mm_in hf c_15
        refine lv_iload_n hx hb dX9_taken_67 rfl (lv_at hl 3 rfl) ?_
        obtain ⟨r_16, hc_17, hf⟩ := mm_bd1s hf
        refine mm_callS0 (rest := []) C0 lk_X9_441 (ctX9_above (d := d - 1) (by omega) hc_17) (by omega) rfl hl.1 rfl (mm_cat rfl) dX9_taken_68 hP hD hA hS (fun H locs hP hS => ?_)
        refine W.eq (g2 := F0 m 71 ls [.int r_16]) rfl ?_
        refine lv_istore_n (lv' := [(3, .int r_16), (0, .ref (a 0)), (1, .int x1), (2, .int x2)]) hx hb dX9_taken_71 rfl hl (by decide) rfl (fun ls hl => ?_)
        refine lv_goto (tgt := 58) hx hb dX9_taken_72 (by decide) ?_
        exact ih _ _ _ _ _ H locs ls hf hP hD hS (lv_sub hl [1, 2, 3, 0] rfl)

def fX9_taken (N : Nat) (x1 : Int32) (x2 : Int32) (v_bodyKind : List Int32) (v_shelf : List Int32) : Option (Int32) :=
    mm_bd1 (fX9_isShelf N x1) (fun (r_1 : Bool) =>
    if r_1 = false then
    (some ((-1 : Int32)))
    else (mm_bd1 (fX9_within N ((x2).toInt64) (0 : Int64) (7 : Int64)) (fun (r_4 : Bool) =>
    if r_4 = false then
    (some ((-1 : Int32)))
    else (mm_ck (mm_inb x1 v_shelf.length) (if 0 ≤ (mm_ig v_shelf x1) then
    (mm_ck (mm_inb x1 v_shelf.length) (if (mm_ig v_shelf x1) < (50 : Int32) then
    (mm_ck (mm_inb x1 v_shelf.length) (mm_bd1 (fX9_kindOf N (mm_ig v_shelf x1) v_bodyKind) (fun (r_12 : Int32) =>
    fX9_taken_58 N N x1 x2 r_12 v_bodyKind v_shelf)))
    else (some ((-12 : Int32)))))
    else (some ((-11 : Int32))))))))

set_option maxHeartbeats 4000000 in
set_option maxRecDepth 100000 in
theorem ctX9_taken {l : Launch} {D : va_G} {cI cL cS cH : ClassId} {a : Nat → Nat} {x1 : Int32} {x2 : Int32} {v_keptMany : Int32} {v_done : Int32} {v_rowsOf : Int32} {v_columnsOf : Int32} {v_folded : Int32} {v_wronged : Int32} {v_tapeMany : Int32} {v_textMany : Int32} {v_base : Int32} {v_at : Int32} {v_ends : Int32} {v_fault : Int32} {v_opened : Int32} {v_bentMany : Int32} {v_bentWrong : Int32} {v_moreWorn : Int32} {v_planned : Int32} {v_allWrong : Int32} {v_allWorn : Int32} {v_z : Int32} {v_wishedField : Int32} {v_isFound : Bool} {v_bestWrong : Int32} {v_bestWorn : Int32} {v_bestMany : Int32} {v_soughtBy : Int32} {v_sought : Int32} {v_soughtAt : Int32} {v_foundMany : Int32} {v_foundOrder : Int32} {v_isKept : Bool} {v_imageRows : Int32} {v_imageColumns : Int32} {v_imageFolded : Int32} {v_imageWronged : Int32} {v_bodies : Int32} {v_ran : Int32} {v_ownKind : Int32} {v_ownNumber : Int32} {v_limit : List Int32} {v_changeWas : List Int32} {v_changeIs : List Int32} {v_shapeRows : List Int32} {v_shapeColumns : List Int32} {v_row : List Int32} {v_column : List Int32} {v_below : List Int32} {v_face : List Int32} {v_worn : List Int32} {v_lastBend : List Int32} {v_tape : List Int32} {v_text : List Int32} {v_names : List Int32} {v_bends : List Int32} {v_high : List Int32} {v_to : List Int32} {v_pileSize : List Int32} {v_planLine : List Int32} {v_planWay : List Int32} {v_way1 : List Int32} {v_bestWay : List Int32} {v_order1 : List Int32} {v_placeIn : List Int32} {v_bodyKind : List Int32} {v_trace : List Int32} {v_shelf : List Int32} {v_many : List Int32} {v_items : List Int64} {v_carried : List Int64} {r : Int32} {N d : Nat} (hd : 3 ≤ d) (hf : fX9_taken N x1 x2 v_bodyKind v_shelf = some r) : mm_Ct l yX9_taken cX9_taken 4 (some .int) d D (mm_T cI cL cS cH) [.ref (a 0), .int x1, .int x2] (wd_X9 cI cL cS cH a v_keptMany v_done v_rowsOf v_columnsOf v_folded v_wronged v_tapeMany v_textMany v_base v_at v_ends v_fault v_opened v_bentMany v_bentWrong v_moreWorn v_planned v_allWrong v_allWorn v_z v_wishedField v_isFound v_bestWrong v_bestWorn v_bestMany v_soughtBy v_sought v_soughtAt v_foundMany v_foundOrder v_isKept v_imageRows v_imageColumns v_imageFolded v_imageWronged v_bodies v_ran v_ownKind v_ownNumber v_limit v_changeWas v_changeIs v_shapeRows v_shapeColumns v_row v_column v_below v_face v_worn v_lastBend v_tape v_text v_names v_bends v_high v_to v_pileSize v_planLine v_planWay v_way1 v_bestWay v_order1 v_placeIn v_bodyKind v_trace v_shelf v_many v_items v_carried) (wd_X9 cI cL cS cH a v_keptMany v_done v_rowsOf v_columnsOf v_folded v_wronged v_tapeMany v_textMany v_base v_at v_ends v_fault v_opened v_bentMany v_bentWrong v_moreWorn v_planned v_allWrong v_allWorn v_z v_wishedField v_isFound v_bestWrong v_bestWorn v_bestMany v_soughtBy v_sought v_soughtAt v_foundMany v_foundOrder v_isKept v_imageRows v_imageColumns v_imageFolded v_imageWronged v_bodies v_ran v_ownKind v_ownNumber v_limit v_changeWas v_changeIs v_shapeRows v_shapeColumns v_row v_column v_below v_face v_worn v_lastBend v_tape v_text v_names v_bends v_high v_to v_pileSize v_planLine v_planWay v_way1 v_bestWay v_order1 v_placeIn v_bodyKind v_trace v_shelf v_many v_items v_carried) (some (.int r)) := by
  refine mm_of (by decide) (Nat.le_of_ble_eq_true rfl) ?_
  intro p e s m args below meth c A H locs ls C0 hP hD hA hS hl
  have C0 : mm_Cx p s m args meth c RX9 cX9_taken 4 (some .int) D (mm_T cI cL cS cH) A := C0
  obtain ⟨hx, hb, hml, hown, hts, hr, hlocks, hK, hSt⟩ := id C0
  have hl : lv_has ls 4 [(0, .ref (a 0)), (1, .int x1), (2, .int x2)] := hl
  unfold fX9_taken at hf
  refine lv_iload_n hx hb dX9_taken_0 rfl (lv_at hl 1 rfl) ?_
  obtain ⟨r_1, hc_2, hf⟩ := mm_bd1s hf
  refine mm_callS0 (rest := []) C0 lk_X9_274 (ctX9_isShelf (d := d - 1) (by omega) hc_2) (by omega) rfl hl.1 rfl (mm_cat rfl) dX9_taken_1 hP hD hA hS (fun H locs hP hS => ?_)
  refine W.eq (g2 := F0 m 4 ls [.int (mm_b r_1)]) rfl ?_
  refine lv_if_eq (tgt := 19) hx hb dX9_taken_4 (by decide) (fun c_3 => ?_) (fun c_3 => ?_)
  · have hf := mm_ip hf (mm_b0 c_3)
    refine lv_iconst (v := -1) hx hb dX9_taken_19 (by decide) ?_
    obtain rfl := mm_inj1 hf
    exact mm_iret C0 hP hD hS dX9_taken_20
  · have hf := mm_in hf (mm_b1 c_3)
    refine lv_iload_n hx hb dX9_taken_7 rfl (lv_at hl 2 rfl) ?_
    refine lv_i2l hx hb dX9_taken_8 rfl ?_
    refine lv_lconst (v := 0) hx hb dX9_taken_9 (by decide) ?_
    refine lv_ldc2 hx hb hown (hts _ kc_X9_238) dX9_taken_10 ?_
    obtain ⟨r_4, hc_5, hf⟩ := mm_bd1s hf
    refine mm_callS0 (rest := []) C0 lk_X9_111 (ctX9_within (d := d - 1) (by omega) hc_5) (by omega) rfl hl.1 rfl (mm_cat rfl) dX9_taken_13 hP hD hA hS (fun H locs hP hS => ?_)
    refine W.eq (g2 := F0 m 16 ls [.int (mm_b r_4)]) rfl ?_
    refine lv_if_ne (tgt := 21) hx hb dX9_taken_16 (by decide) (fun c_6 => ?_) (fun c_6 => ?_)
    · have hf := mm_in hf (mm_b1 c_6)
      refine lv_aload_n hx hb dX9_taken_21 rfl (lv_at hl 0 rfl) ?_
      refine mm_get C0 hP iw_X9 0 rfl rfl 65 (by decide) fl_X9_88 rfl dX9_taken_22 ?_
      refine lv_iload_n hx hb dX9_taken_25 rfl (lv_at hl 1 rfl) ?_
      obtain ⟨h_7, hf⟩ := mm_cks hf
      refine mm_iald C0 hP 27 rfl h_7 dX9_taken_26 ?_
      refine lv_if_ge (tgt := 33) hx hb dX9_taken_27 (by decide) (fun c_8 => ?_) (fun c_8 => ?_)
      · have hf := mm_ip hf c_8
        refine lv_aload_n hx hb dX9_taken_33 rfl (lv_at hl 0 rfl) ?_
        refine mm_get C0 hP iw_X9 0 rfl rfl 65 (by decide) fl_X9_88 rfl dX9_taken_34 ?_
        refine lv_iload_n hx hb dX9_taken_37 rfl (lv_at hl 1 rfl) ?_
        obtain ⟨h_9, hf⟩ := mm_cks hf
        refine mm_iald C0 hP 27 rfl h_9 dX9_taken_38 ?_
        refine lv_bipush (v := 50) hx hb dX9_taken_39 (by decide) ?_
        refine lv_icmp_lt (tgt := 47) hx hb dX9_taken_41 (by decide) (fun c_10 => ?_) (fun c_10 => ?_)
        · have hf := mm_ip hf c_10
          refine lv_aload_n hx hb dX9_taken_47 rfl (lv_at hl 0 rfl) ?_
          refine lv_aload_n hx hb dX9_taken_48 rfl (lv_at hl 0 rfl) ?_
          refine mm_get C0 hP iw_X9 0 rfl rfl 65 (by decide) fl_X9_88 rfl dX9_taken_49 ?_
          refine lv_iload_n hx hb dX9_taken_52 rfl (lv_at hl 1 rfl) ?_
          obtain ⟨h_11, hf⟩ := mm_cks hf
          refine mm_iald C0 hP 27 rfl h_11 dX9_taken_53 ?_
          obtain ⟨r_12, hc_13, hf⟩ := mm_bd1s hf
          refine mm_callVF (q0 := 0) (ci := 9) (rest := []) C0 lk_X9_438 (ctX9_kindOf (a := a) (d := d - 1) (by omega) hc_13) (by omega) rfl hl.1 rfl (mm_cat rfl) dX9_taken_54 hP hD hA hS rfl rfl (fun H locs hP hD hS => ?_)
          refine W.eq (g2 := F0 m 57 ls [.int r_12]) rfl ?_
          refine lv_istore_n (lv' := [(3, .int r_12), (0, .ref (a 0)), (1, .int x1), (2, .int x2)]) hx hb dX9_taken_57 rfl hl (by decide) rfl (fun ls hl => ?_)
          exact tX9_taken_58 hd C0 hA N  N _ _ _ _ _ H locs ls hf hP hD hS (lv_sub hl [1, 2, 3, 0] rfl)
        · have hf := mm_in hf c_10
          refine lv_bipush (v := -12) hx hb dX9_taken_44 (by decide) ?_
          obtain rfl := mm_inj1 hf
          exact mm_iret C0 hP hD hS dX9_taken_46
      · have hf := mm_in hf c_8
        refine lv_bipush (v := -11) hx hb dX9_taken_30 (by decide) ?_
        obtain rfl := mm_inj1 hf
        exact mm_iret C0 hP hD hS dX9_taken_32
    · have hf := mm_ip hf (mm_b0 c_6)
      refine lv_iconst (v := -1) hx hb dX9_taken_19 (by decide) ?_
      obtain rfl := mm_inj1 hf
      exact mm_iret C0 hP hD hS dX9_taken_20

theorem dX9_count_1 : decode cX9_count 1 = .ok (.tableswitch 69 0 5 #[39, 44, 49, 54, 59, 64], 39) := by decide +kernel
theorem nb_dX9_count_0 : bls_w cX9_count [(0, [27]), (40, [42]), (41, [182, 0, 127]), (44, [172]), (45, [42]), (46, [180, 1, 15]), (49, [172]), (50, [42]), (51, [180, 0, 147]), (54, [172]), (55, [42]), (56, [180, 0, 115])] := bls_of (by decide +kernel)
theorem dX9_count_0 : decode cX9_count 0 = .ok (.iload_n 1, 1) := op_27 nb_dX9_count_0.1
theorem dX9_count_40 : decode cX9_count 40 = .ok (.aload_n 0, 1) := op_42 nb_dX9_count_0.2.1
set_option maxRecDepth 100000 in
theorem dX9_count_41 : decode cX9_count 41 = .ok (.invokevirtual 127, 3) := (op_182 nb_dX9_count_0.2.2.1).trans rfl
theorem dX9_count_44 : decode cX9_count 44 = .ok (.ireturn, 1) := op_172 nb_dX9_count_0.2.2.2.1
theorem dX9_count_45 : decode cX9_count 45 = .ok (.aload_n 0, 1) := op_42 nb_dX9_count_0.2.2.2.2.1
set_option maxRecDepth 100000 in
theorem dX9_count_46 : decode cX9_count 46 = .ok (.getfield 271, 3) := (op_180 nb_dX9_count_0.2.2.2.2.2.1).trans rfl
theorem dX9_count_49 : decode cX9_count 49 = .ok (.ireturn, 1) := op_172 nb_dX9_count_0.2.2.2.2.2.2.1
theorem dX9_count_50 : decode cX9_count 50 = .ok (.aload_n 0, 1) := op_42 nb_dX9_count_0.2.2.2.2.2.2.2.1
set_option maxRecDepth 100000 in
theorem dX9_count_51 : decode cX9_count 51 = .ok (.getfield 147, 3) := (op_180 nb_dX9_count_0.2.2.2.2.2.2.2.2.1).trans rfl
theorem dX9_count_54 : decode cX9_count 54 = .ok (.ireturn, 1) := op_172 nb_dX9_count_0.2.2.2.2.2.2.2.2.2.1
theorem dX9_count_55 : decode cX9_count 55 = .ok (.aload_n 0, 1) := op_42 nb_dX9_count_0.2.2.2.2.2.2.2.2.2.2.1
set_option maxRecDepth 100000 in
theorem dX9_count_56 : decode cX9_count 56 = .ok (.getfield 115, 3) := (op_180 nb_dX9_count_0.2.2.2.2.2.2.2.2.2.2.2.1).trans rfl
theorem nb_dX9_count_59 : bls_w cX9_count [(59, [172]), (60, [42]), (61, [180, 1, 139]), (64, [172]), (65, [42]), (66, [180, 1, 142]), (69, [172]), (70, [2]), (71, [172])] := bls_of (by decide +kernel)
theorem dX9_count_59 : decode cX9_count 59 = .ok (.ireturn, 1) := op_172 nb_dX9_count_59.1
theorem dX9_count_60 : decode cX9_count 60 = .ok (.aload_n 0, 1) := op_42 nb_dX9_count_59.2.1
set_option maxRecDepth 100000 in
theorem dX9_count_61 : decode cX9_count 61 = .ok (.getfield 395, 3) := (op_180 nb_dX9_count_59.2.2.1).trans rfl
theorem dX9_count_64 : decode cX9_count 64 = .ok (.ireturn, 1) := op_172 nb_dX9_count_59.2.2.2.1
theorem dX9_count_65 : decode cX9_count 65 = .ok (.aload_n 0, 1) := op_42 nb_dX9_count_59.2.2.2.2.1
set_option maxRecDepth 100000 in
theorem dX9_count_66 : decode cX9_count 66 = .ok (.getfield 398, 3) := (op_180 nb_dX9_count_59.2.2.2.2.2.1).trans rfl
theorem dX9_count_69 : decode cX9_count 69 = .ok (.ireturn, 1) := op_172 nb_dX9_count_59.2.2.2.2.2.2.1
theorem dX9_count_70 : decode cX9_count 70 = .ok (.iconst (-1), 1) := op_2 nb_dX9_count_59.2.2.2.2.2.2.2.1
theorem dX9_count_71 : decode cX9_count 71 = .ok (.ireturn, 1) := op_172 nb_dX9_count_59.2.2.2.2.2.2.2.2.1
def fX9_count (N : Nat) (x1 : Int32) (v_done : Int32) (v_rowsOf : Int32) (v_columnsOf : Int32) (v_tapeMany : Int32) (v_planned : Int32) (v_bodies : Int32) (v_ran : Int32) : Option (Int32) :=
    if x1 = (0 : Int32) then
    (mm_bd1 (fX9_fields N v_rowsOf v_columnsOf) (fun (r_2 : Int32) =>
    some (r_2)))
    else (if x1 = (1 : Int32) then
    (some (v_planned))
    else (if x1 = (2 : Int32) then
    (some (v_tapeMany))
    else (if x1 = (3 : Int32) then
    (some (v_done))
    else (if x1 = (4 : Int32) then
    (some (v_bodies))
    else (if x1 = (5 : Int32) then
    (some (v_ran))
    else (some ((-1 : Int32))))))))

set_option maxHeartbeats 4000000 in
set_option maxRecDepth 100000 in
theorem ctX9_count {l : Launch} {D : va_G} {cI cL cS cH : ClassId} {a : Nat → Nat} {x1 : Int32} {v_keptMany : Int32} {v_done : Int32} {v_rowsOf : Int32} {v_columnsOf : Int32} {v_folded : Int32} {v_wronged : Int32} {v_tapeMany : Int32} {v_textMany : Int32} {v_base : Int32} {v_at : Int32} {v_ends : Int32} {v_fault : Int32} {v_opened : Int32} {v_bentMany : Int32} {v_bentWrong : Int32} {v_moreWorn : Int32} {v_planned : Int32} {v_allWrong : Int32} {v_allWorn : Int32} {v_z : Int32} {v_wishedField : Int32} {v_isFound : Bool} {v_bestWrong : Int32} {v_bestWorn : Int32} {v_bestMany : Int32} {v_soughtBy : Int32} {v_sought : Int32} {v_soughtAt : Int32} {v_foundMany : Int32} {v_foundOrder : Int32} {v_isKept : Bool} {v_imageRows : Int32} {v_imageColumns : Int32} {v_imageFolded : Int32} {v_imageWronged : Int32} {v_bodies : Int32} {v_ran : Int32} {v_ownKind : Int32} {v_ownNumber : Int32} {v_limit : List Int32} {v_changeWas : List Int32} {v_changeIs : List Int32} {v_shapeRows : List Int32} {v_shapeColumns : List Int32} {v_row : List Int32} {v_column : List Int32} {v_below : List Int32} {v_face : List Int32} {v_worn : List Int32} {v_lastBend : List Int32} {v_tape : List Int32} {v_text : List Int32} {v_names : List Int32} {v_bends : List Int32} {v_high : List Int32} {v_to : List Int32} {v_pileSize : List Int32} {v_planLine : List Int32} {v_planWay : List Int32} {v_way1 : List Int32} {v_bestWay : List Int32} {v_order1 : List Int32} {v_placeIn : List Int32} {v_bodyKind : List Int32} {v_trace : List Int32} {v_shelf : List Int32} {v_many : List Int32} {v_items : List Int64} {v_carried : List Int64} {r : Int32} {N d : Nat} (hd : 2 ≤ d) (hf : fX9_count N x1 v_done v_rowsOf v_columnsOf v_tapeMany v_planned v_bodies v_ran = some r) : mm_Ct l yX9_count cX9_count 2 (some .int) d D (mm_T cI cL cS cH) [.ref (a 0), .int x1] (wd_X9 cI cL cS cH a v_keptMany v_done v_rowsOf v_columnsOf v_folded v_wronged v_tapeMany v_textMany v_base v_at v_ends v_fault v_opened v_bentMany v_bentWrong v_moreWorn v_planned v_allWrong v_allWorn v_z v_wishedField v_isFound v_bestWrong v_bestWorn v_bestMany v_soughtBy v_sought v_soughtAt v_foundMany v_foundOrder v_isKept v_imageRows v_imageColumns v_imageFolded v_imageWronged v_bodies v_ran v_ownKind v_ownNumber v_limit v_changeWas v_changeIs v_shapeRows v_shapeColumns v_row v_column v_below v_face v_worn v_lastBend v_tape v_text v_names v_bends v_high v_to v_pileSize v_planLine v_planWay v_way1 v_bestWay v_order1 v_placeIn v_bodyKind v_trace v_shelf v_many v_items v_carried) (wd_X9 cI cL cS cH a v_keptMany v_done v_rowsOf v_columnsOf v_folded v_wronged v_tapeMany v_textMany v_base v_at v_ends v_fault v_opened v_bentMany v_bentWrong v_moreWorn v_planned v_allWrong v_allWorn v_z v_wishedField v_isFound v_bestWrong v_bestWorn v_bestMany v_soughtBy v_sought v_soughtAt v_foundMany v_foundOrder v_isKept v_imageRows v_imageColumns v_imageFolded v_imageWronged v_bodies v_ran v_ownKind v_ownNumber v_limit v_changeWas v_changeIs v_shapeRows v_shapeColumns v_row v_column v_below v_face v_worn v_lastBend v_tape v_text v_names v_bends v_high v_to v_pileSize v_planLine v_planWay v_way1 v_bestWay v_order1 v_placeIn v_bodyKind v_trace v_shelf v_many v_items v_carried) (some (.int r)) := by
  refine mm_of (by decide) (Nat.le_of_ble_eq_true rfl) ?_
  intro p e s m args below meth c A H locs ls C0 hP hD hA hS hl
  have C0 : mm_Cx p s m args meth c RX9 cX9_count 2 (some .int) D (mm_T cI cL cS cH) A := C0
  obtain ⟨hx, hb, hml, hown, hts, hr, hlocks, hK, hSt⟩ := id C0
  have hl : lv_has ls 2 [(0, .ref (a 0)), (1, .int x1)] := hl
  unfold fX9_count at hf
  refine lv_iload_n hx hb dX9_count_0 rfl (lv_at hl 1 rfl) ?_
  by_cases c_1 : x1 = (0 : Int32)
  · have hf := mm_ip hf c_1
    refine lv_tableIn (off := 39) (tgt := 40) hx hb dX9_count_1 (by rw [c_1]; decide) (by rw [c_1]; decide) (by rw [c_1]; first | done | rfl) (by decide) ?_
    refine lv_aload_n hx hb dX9_count_40 rfl (lv_at hl 0 rfl) ?_
    obtain ⟨r_2, hc_3, hf⟩ := mm_bd1s hf
    refine mm_callVF (q0 := 0) (ci := 9) (rest := []) C0 lk_X9_127 (ctX9_fields (a := a) (d := d - 1) (by omega) hc_3) (by omega) rfl hl.1 rfl (mm_cat rfl) dX9_count_41 hP hD hA hS rfl rfl (fun H locs hP hD hS => ?_)
    refine W.eq (g2 := F0 m 44 ls [.int r_2]) rfl ?_
    obtain rfl := mm_inj1 hf
    exact mm_iret C0 hP hD hS dX9_count_44
  · have hf := mm_in hf c_1
    by_cases c_4 : x1 = (1 : Int32)
    · have hf := mm_ip hf c_4
      refine lv_tableIn (off := 44) (tgt := 45) hx hb dX9_count_1 (by rw [c_4]; decide) (by rw [c_4]; decide) (by rw [c_4]; first | done | rfl) (by decide) ?_
      refine lv_aload_n hx hb dX9_count_45 rfl (lv_at hl 0 rfl) ?_
      refine mm_get C0 hP iw_X9 0 rfl rfl 36 (by decide) fl_X9_271 rfl dX9_count_46 ?_
      obtain rfl := mm_inj1 hf
      exact mm_iret C0 hP hD hS dX9_count_49
    · have hf := mm_in hf c_4
      by_cases c_5 : x1 = (2 : Int32)
      · have hf := mm_ip hf c_5
        refine lv_tableIn (off := 49) (tgt := 50) hx hb dX9_count_1 (by rw [c_5]; decide) (by rw [c_5]; decide) (by rw [c_5]; first | done | rfl) (by decide) ?_
        refine lv_aload_n hx hb dX9_count_50 rfl (lv_at hl 0 rfl) ?_
        refine mm_get C0 hP iw_X9 0 rfl rfl 18 (by decide) fl_X9_147 rfl dX9_count_51 ?_
        obtain rfl := mm_inj1 hf
        exact mm_iret C0 hP hD hS dX9_count_54
      · have hf := mm_in hf c_5
        by_cases c_6 : x1 = (3 : Int32)
        · have hf := mm_ip hf c_6
          refine lv_tableIn (off := 54) (tgt := 55) hx hb dX9_count_1 (by rw [c_6]; decide) (by rw [c_6]; decide) (by rw [c_6]; first | done | rfl) (by decide) ?_
          refine lv_aload_n hx hb dX9_count_55 rfl (lv_at hl 0 rfl) ?_
          refine mm_get C0 hP iw_X9 0 rfl rfl 4 (by decide) fl_X9_115 rfl dX9_count_56 ?_
          obtain rfl := mm_inj1 hf
          exact mm_iret C0 hP hD hS dX9_count_59
        · have hf := mm_in hf c_6
          by_cases c_7 : x1 = (4 : Int32)
          · have hf := mm_ip hf c_7
            refine lv_tableIn (off := 59) (tgt := 60) hx hb dX9_count_1 (by rw [c_7]; decide) (by rw [c_7]; decide) (by rw [c_7]; first | done | rfl) (by decide) ?_
            refine lv_aload_n hx hb dX9_count_60 rfl (lv_at hl 0 rfl) ?_
            refine mm_get C0 hP iw_X9 0 rfl rfl 59 (by decide) fl_X9_395 rfl dX9_count_61 ?_
            obtain rfl := mm_inj1 hf
            exact mm_iret C0 hP hD hS dX9_count_64
          · have hf := mm_in hf c_7
            by_cases c_8 : x1 = (5 : Int32)
            · have hf := mm_ip hf c_8
              refine lv_tableIn (off := 64) (tgt := 65) hx hb dX9_count_1 (by rw [c_8]; decide) (by rw [c_8]; decide) (by rw [c_8]; first | done | rfl) (by decide) ?_
              refine lv_aload_n hx hb dX9_count_65 rfl (lv_at hl 0 rfl) ?_
              refine mm_get C0 hP iw_X9 0 rfl rfl 62 (by decide) fl_X9_398 rfl dX9_count_66 ?_
              obtain rfl := mm_inj1 hf
              exact mm_iret C0 hP hD hS dX9_count_69
            · have hf := mm_in hf c_8
              refine lv_tableOut (tgt := 70) hx hb dX9_count_1 (by have nc_1 := lv_neT c_1 (a := 0) (by decide); have nc_4 := lv_neT c_4 (a := 1) (by decide); have nc_5 := lv_neT c_5 (a := 2) (by decide); have nc_6 := lv_neT c_6 (a := 3) (by decide); have nc_7 := lv_neT c_7 (a := 4) (by decide); have nc_8 := lv_neT c_8 (a := 5) (by decide); omega) (by decide) ?_
              refine lv_iconst (v := -1) hx hb dX9_count_70 (by decide) ?_
              obtain rfl := mm_inj1 hf
              exact mm_iret C0 hP hD hS dX9_count_71
end
