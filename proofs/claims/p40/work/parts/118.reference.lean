/-! reference: X9_goesOrders, X9_seeks, X9_orders, X9_by, X9_with, X9_image, X9_back, X9_isBody, X9_kindOf, X9_body, X9_above -/
theorem dX9_goesOrders_0 : decode cX9_goesOrders 0 = .ok (.iload_n 2, 1) := by decide +kernel
theorem dX9_goesOrders_1 : decode cX9_goesOrders 1 = .ok (.iload_n 1, 1) := by decide +kernel
theorem dX9_goesOrders_2 : decode cX9_goesOrders 2 = .ok (.if_icmp .ne 11, 3) := by decide +kernel
theorem dX9_goesOrders_5 : decode cX9_goesOrders 5 = .ok (.aload_n 0, 1) := by decide +kernel
theorem dX9_goesOrders_6 : decode cX9_goesOrders 6 = .ok (.iload_n 1, 1) := by decide +kernel
theorem dX9_goesOrders_7 : decode cX9_goesOrders 7 = .ok (.iload 4, 2) := by decide +kernel
theorem dX9_goesOrders_9 : decode cX9_goesOrders 9 = .ok (.invokevirtual 370, 3) := by decide +kernel
theorem dX9_goesOrders_12 : decode cX9_goesOrders 12 = .ok (.return_, 1) := by decide +kernel
theorem dX9_goesOrders_13 : decode cX9_goesOrders 13 = .ok (.iconst 0, 1) := by decide +kernel
theorem dX9_goesOrders_14 : decode cX9_goesOrders 14 = .ok (.istore 5, 2) := by decide +kernel
theorem dX9_goesOrders_16 : decode cX9_goesOrders 16 = .ok (.iload 5, 2) := by decide +kernel
theorem dX9_goesOrders_18 : decode cX9_goesOrders 18 = .ok (.iload_n 1, 1) := by decide +kernel
theorem dX9_goesOrders_19 : decode cX9_goesOrders 19 = .ok (.if_icmp .ge 58, 3) := by decide +kernel
theorem dX9_goesOrders_22 : decode cX9_goesOrders 22 = .ok (.iload_n 3, 1) := by decide +kernel
theorem dX9_goesOrders_23 : decode cX9_goesOrders 23 = .ok (.iload 5, 2) := by decide +kernel
theorem dX9_goesOrders_25 : decode cX9_goesOrders 25 = .ok (.ishr, 1) := by decide +kernel
theorem dX9_goesOrders_26 : decode cX9_goesOrders 26 = .ok (.iconst 1, 1) := by decide +kernel
theorem dX9_goesOrders_27 : decode cX9_goesOrders 27 = .ok (.iand, 1) := by decide +kernel
theorem dX9_goesOrders_28 : decode cX9_goesOrders 28 = .ok (.ifCond .ne 43, 3) := by decide +kernel
theorem dX9_goesOrders_31 : decode cX9_goesOrders 31 = .ok (.aload_n 0, 1) := by decide +kernel
theorem dX9_goesOrders_32 : decode cX9_goesOrders 32 = .ok (.getfield 76, 3) := by decide +kernel
theorem dX9_goesOrders_35 : decode cX9_goesOrders 35 = .ok (.iload_n 2, 1) := by decide +kernel
theorem dX9_goesOrders_36 : decode cX9_goesOrders 36 = .ok (.iload 5, 2) := by decide +kernel
theorem dX9_goesOrders_38 : decode cX9_goesOrders 38 = .ok (.iastore, 1) := by decide +kernel
theorem dX9_goesOrders_39 : decode cX9_goesOrders 39 = .ok (.aload_n 0, 1) := by decide +kernel
theorem dX9_goesOrders_40 : decode cX9_goesOrders 40 = .ok (.getfield 79, 3) := by decide +kernel
theorem dX9_goesOrders_43 : decode cX9_goesOrders 43 = .ok (.iload 5, 2) := by decide +kernel
theorem dX9_goesOrders_45 : decode cX9_goesOrders 45 = .ok (.iload_n 2, 1) := by decide +kernel
theorem dX9_goesOrders_46 : decode cX9_goesOrders 46 = .ok (.iastore, 1) := by decide +kernel
theorem dX9_goesOrders_47 : decode cX9_goesOrders 47 = .ok (.aload_n 0, 1) := by decide +kernel
theorem dX9_goesOrders_48 : decode cX9_goesOrders 48 = .ok (.iload_n 1, 1) := by decide +kernel
theorem dX9_goesOrders_49 : decode cX9_goesOrders 49 = .ok (.iload_n 2, 1) := by decide +kernel
theorem dX9_goesOrders_50 : decode cX9_goesOrders 50 = .ok (.iconst 1, 1) := by decide +kernel
theorem dX9_goesOrders_51 : decode cX9_goesOrders 51 = .ok (.iadd, 1) := by decide +kernel
theorem dX9_goesOrders_52 : decode cX9_goesOrders 52 = .ok (.iload_n 3, 1) := by decide +kernel
theorem dX9_goesOrders_53 : decode cX9_goesOrders 53 = .ok (.iconst 1, 1) := by decide +kernel
theorem dX9_goesOrders_54 : decode cX9_goesOrders 54 = .ok (.iload 5, 2) := by decide +kernel
theorem dX9_goesOrders_56 : decode cX9_goesOrders 56 = .ok (.ishl, 1) := by decide +kernel
theorem dX9_goesOrders_57 : decode cX9_goesOrders 57 = .ok (.ior, 1) := by decide +kernel
theorem dX9_goesOrders_58 : decode cX9_goesOrders 58 = .ok (.bipush 10, 2) := by decide +kernel
theorem dX9_goesOrders_60 : decode cX9_goesOrders 60 = .ok (.iload 4, 2) := by decide +kernel
theorem dX9_goesOrders_62 : decode cX9_goesOrders 62 = .ok (.imul, 1) := by decide +kernel
theorem dX9_goesOrders_63 : decode cX9_goesOrders 63 = .ok (.iload 5, 2) := by decide +kernel
theorem dX9_goesOrders_65 : decode cX9_goesOrders 65 = .ok (.iadd, 1) := by decide +kernel
theorem dX9_goesOrders_66 : decode cX9_goesOrders 66 = .ok (.iconst 1, 1) := by decide +kernel
theorem dX9_goesOrders_67 : decode cX9_goesOrders 67 = .ok (.iadd, 1) := by decide +kernel
theorem dX9_goesOrders_68 : decode cX9_goesOrders 68 = .ok (.invokevirtual 373, 3) := by decide +kernel
theorem dX9_goesOrders_71 : decode cX9_goesOrders 71 = .ok (.iinc 5 1, 3) := by decide +kernel
theorem dX9_goesOrders_74 : decode cX9_goesOrders 74 = .ok (.goto (-58), 3) := by decide +kernel
theorem dX9_goesOrders_77 : decode cX9_goesOrders 77 = .ok (.return_, 1) := by decide +kernel
def fX9_goesOrders_71 (N : Nat) (go : Int32 → Int32 → Int32 → Int32 → Int32 → Int32 → Int32 → Int32 → Int32 → List Int32 → List Int32 → Option (Int32 × Int32 × List Int32 × List Int32)) (k_16 : Int32 → Int32 → Int32 → Int32 → Int32 → Int32 → Int32 → Int32 → Int32 → Int32 → List Int32 → List Int32 → Option (Int32 × Int32 × List Int32 × List Int32)) (x1 : Int32) (x2 : Int32) (x3 : Int32) (x4 : Int32) (x5 : Int32) (v_soughtBy : Int32) (v_sought : Int32) (v_soughtAt : Int32) (v_foundMany : Int32) (v_foundOrder : Int32) (v_order1 : List Int32) (v_placeIn : List Int32) : Option (Int32 × Int32 × List Int32 × List Int32) :=
    mm_nm (x5 + (1 : Int32)) (fun (y_16 : Int32) =>
    k_16 x1 x2 x3 x4 y_16 v_soughtBy v_sought v_soughtAt v_foundMany v_foundOrder v_order1 v_placeIn)

set_option maxHeartbeats 4000000 in
set_option maxRecDepth 100000 in
theorem tX9_goesOrders_71 {p : Program} {l : Launch} {e : Env} {s : State} {m : MethodId} {args : Array Value} {below : List Frame} {meth : Method} {c : Code} {D : va_G} {cI cL cS cH : ClassId} {A : Nat → Prop} {d : Nat} {a : Nat → Nat} {go : Int32 → Int32 → Int32 → Int32 → Int32 → Int32 → Int32 → Int32 → Int32 → List Int32 → List Int32 → Option (Int32 × Int32 × List Int32 × List Int32)} {dgo : Nat} (hgo : ∀ (a : Nat → Nat) (x1 : Int32) (x2 : Int32) (x3 : Int32) (x4 : Int32) (v_keptMany : Int32) (v_done : Int32) (v_rowsOf : Int32) (v_columnsOf : Int32) (v_folded : Int32) (v_wronged : Int32) (v_tapeMany : Int32) (v_textMany : Int32) (v_base : Int32) (v_at : Int32) (v_ends : Int32) (v_fault : Int32) (v_opened : Int32) (v_bentMany : Int32) (v_bentWrong : Int32) (v_moreWorn : Int32) (v_planned : Int32) (v_allWrong : Int32) (v_allWorn : Int32) (v_z : Int32) (v_wishedField : Int32) (v_isFound : Bool) (v_bestWrong : Int32) (v_bestWorn : Int32) (v_bestMany : Int32) (v_soughtBy : Int32) (v_sought : Int32) (v_soughtAt : Int32) (v_foundMany : Int32) (v_foundOrder : Int32) (v_isKept : Bool) (v_imageRows : Int32) (v_imageColumns : Int32) (v_imageFolded : Int32) (v_imageWronged : Int32) (v_bodies : Int32) (v_ran : Int32) (v_ownKind : Int32) (v_ownNumber : Int32) (v_limit : List Int32) (v_changeWas : List Int32) (v_changeIs : List Int32) (v_shapeRows : List Int32) (v_shapeColumns : List Int32) (v_row : List Int32) (v_column : List Int32) (v_below : List Int32) (v_face : List Int32) (v_worn : List Int32) (v_lastBend : List Int32) (v_tape : List Int32) (v_text : List Int32) (v_names : List Int32) (v_bends : List Int32) (v_high : List Int32) (v_to : List Int32) (v_pileSize : List Int32) (v_planLine : List Int32) (v_planWay : List Int32) (v_way1 : List Int32) (v_bestWay : List Int32) (v_order1 : List Int32) (v_placeIn : List Int32) (v_bodyKind : List Int32) (v_trace : List Int32) (v_shelf : List Int32) (v_many : List Int32) (v_items : List Int64) (v_carried : List Int64) (w_foundMany : Int32) (w_foundOrder : Int32) (w_order1 : List Int32) (w_placeIn : List Int32), go x1 x2 x3 x4 v_soughtBy v_sought v_soughtAt v_foundMany v_foundOrder v_order1 v_placeIn = some (w_foundMany, w_foundOrder, w_order1, w_placeIn) → mm_Ct l yX9_goesOrders cX9_goesOrders 6 none dgo D (mm_T cI cL cS cH) [.ref (a 0), .int x1, .int x2, .int x3, .int x4] (wd_X9 cI cL cS cH a v_keptMany v_done v_rowsOf v_columnsOf v_folded v_wronged v_tapeMany v_textMany v_base v_at v_ends v_fault v_opened v_bentMany v_bentWrong v_moreWorn v_planned v_allWrong v_allWorn v_z v_wishedField v_isFound v_bestWrong v_bestWorn v_bestMany v_soughtBy v_sought v_soughtAt v_foundMany v_foundOrder v_isKept v_imageRows v_imageColumns v_imageFolded v_imageWronged v_bodies v_ran v_ownKind v_ownNumber v_limit v_changeWas v_changeIs v_shapeRows v_shapeColumns v_row v_column v_below v_face v_worn v_lastBend v_tape v_text v_names v_bends v_high v_to v_pileSize v_planLine v_planWay v_way1 v_bestWay v_order1 v_placeIn v_bodyKind v_trace v_shelf v_many v_items v_carried) (wd_X9 cI cL cS cH a v_keptMany v_done v_rowsOf v_columnsOf v_folded v_wronged v_tapeMany v_textMany v_base v_at v_ends v_fault v_opened v_bentMany v_bentWrong v_moreWorn v_planned v_allWrong v_allWorn v_z v_wishedField v_isFound v_bestWrong v_bestWorn v_bestMany v_soughtBy v_sought v_soughtAt w_foundMany w_foundOrder v_isKept v_imageRows v_imageColumns v_imageFolded v_imageWronged v_bodies v_ran v_ownKind v_ownNumber v_limit v_changeWas v_changeIs v_shapeRows v_shapeColumns v_row v_column v_below v_face v_worn v_lastBend v_tape v_text v_names v_bends v_high v_to v_pileSize v_planLine v_planWay v_way1 v_bestWay w_order1 w_placeIn v_bodyKind v_trace v_shelf v_many v_items v_carried) none) (hE : 4 ≤ dgo) (hd : dgo + 1 ≤ d) (C0 : mm_Cx p s m args meth c RX9 cX9_goesOrders 6 none D (mm_T cI cL cS cH) A) (hA : ∀ q, s.heap.size ≤ q → A q) {v_keptMany : Int32} {v_done : Int32} {v_rowsOf : Int32} {v_columnsOf : Int32} {v_folded : Int32} {v_wronged : Int32} {v_tapeMany : Int32} {v_textMany : Int32} {v_base : Int32} {v_at : Int32} {v_ends : Int32} {v_fault : Int32} {v_opened : Int32} {v_bentMany : Int32} {v_bentWrong : Int32} {v_moreWorn : Int32} {v_planned : Int32} {v_allWrong : Int32} {v_allWorn : Int32} {v_z : Int32} {v_wishedField : Int32} {v_isFound : Bool} {v_bestWrong : Int32} {v_bestWorn : Int32} {v_bestMany : Int32} {v_isKept : Bool} {v_imageRows : Int32} {v_imageColumns : Int32} {v_imageFolded : Int32} {v_imageWronged : Int32} {v_bodies : Int32} {v_ran : Int32} {v_ownKind : Int32} {v_ownNumber : Int32} {v_limit : List Int32} {v_changeWas : List Int32} {v_changeIs : List Int32} {v_shapeRows : List Int32} {v_shapeColumns : List Int32} {v_row : List Int32} {v_column : List Int32} {v_below : List Int32} {v_face : List Int32} {v_worn : List Int32} {v_lastBend : List Int32} {v_tape : List Int32} {v_text : List Int32} {v_names : List Int32} {v_bends : List Int32} {v_high : List Int32} {v_to : List Int32} {v_pileSize : List Int32} {v_planLine : List Int32} {v_planWay : List Int32} {v_way1 : List Int32} {v_bestWay : List Int32} {v_bodyKind : List Int32} {v_trace : List Int32} {v_shelf : List Int32} {v_many : List Int32} {v_items : List Int64} {v_carried : List Int64} {w_foundMany : Int32} {w_foundOrder : Int32} {w_order1 : List Int32} {w_placeIn : List Int32} (N : Nat) {k_16 : Int32 → Int32 → Int32 → Int32 → Int32 → Int32 → Int32 → Int32 → Int32 → Int32 → List Int32 → List Int32 → Option (Int32 × Int32 × List Int32 × List Int32)} (hk_16 : ∀ (x1 : Int32) (x2 : Int32) (x3 : Int32) (x4 : Int32) (x5 : Int32) (v_soughtBy : Int32) (v_sought : Int32) (v_soughtAt : Int32) (v_foundMany : Int32) (v_foundOrder : Int32) (v_order1 : List Int32) (v_placeIn : List Int32) (H : Heap) (locs : List Loc) (ls : Array Slot), k_16 x1 x2 x3 x4 x5 v_soughtBy v_sought v_soughtAt v_foundMany v_foundOrder v_order1 v_placeIn = some (w_foundMany, w_foundOrder, w_order1, w_placeIn) → va_P D mm_cl (wd_X9 cI cL cS cH a v_keptMany v_done v_rowsOf v_columnsOf v_folded v_wronged v_tapeMany v_textMany v_base v_at v_ends v_fault v_opened v_bentMany v_bentWrong v_moreWorn v_planned v_allWrong v_allWorn v_z v_wishedField v_isFound v_bestWrong v_bestWorn v_bestMany v_soughtBy v_sought v_soughtAt v_foundMany v_foundOrder v_isKept v_imageRows v_imageColumns v_imageFolded v_imageWronged v_bodies v_ran v_ownKind v_ownNumber v_limit v_changeWas v_changeIs v_shapeRows v_shapeColumns v_row v_column v_below v_face v_worn v_lastBend v_tape v_text v_names v_bends v_high v_to v_pileSize v_planLine v_planWay v_way1 v_bestWay v_order1 v_placeIn v_bodyKind v_trace v_shelf v_many v_items v_carried) H → va_D A (wd_X9 cI cL cS cH a v_keptMany v_done v_rowsOf v_columnsOf v_folded v_wronged v_tapeMany v_textMany v_base v_at v_ends v_fault v_opened v_bentMany v_bentWrong v_moreWorn v_planned v_allWrong v_allWorn v_z v_wishedField v_isFound v_bestWrong v_bestWorn v_bestMany v_soughtBy v_sought v_soughtAt v_foundMany v_foundOrder v_isKept v_imageRows v_imageColumns v_imageFolded v_imageWronged v_bodies v_ran v_ownKind v_ownNumber v_limit v_changeWas v_changeIs v_shapeRows v_shapeColumns v_row v_column v_below v_face v_worn v_lastBend v_tape v_text v_names v_bends v_high v_to v_pileSize v_planLine v_planWay v_way1 v_bestWay v_order1 v_placeIn v_bodyKind v_trace v_shelf v_many v_items v_carried) → va_S A s.heap H locs → lv_has ls 6 [(0, .ref (a 0)), (1, .int x1), (2, .int x2), (3, .int x3), (4, .int x4), (5, .int x5)] → W p l e (mm_rr d) s m args below meth c H locs 0 0 (mm_Z below D A (wd_X9 cI cL cS cH a v_keptMany v_done v_rowsOf v_columnsOf v_folded v_wronged v_tapeMany v_textMany v_base v_at v_ends v_fault v_opened v_bentMany v_bentWrong v_moreWorn v_planned v_allWrong v_allWorn v_z v_wishedField v_isFound v_bestWrong v_bestWorn v_bestMany v_soughtBy v_sought v_soughtAt w_foundMany w_foundOrder v_isKept v_imageRows v_imageColumns v_imageFolded v_imageWronged v_bodies v_ran v_ownKind v_ownNumber v_limit v_changeWas v_changeIs v_shapeRows v_shapeColumns v_row v_column v_below v_face v_worn v_lastBend v_tape v_text v_names v_bends v_high v_to v_pileSize v_planLine v_planWay v_way1 v_bestWay w_order1 w_placeIn v_bodyKind v_trace v_shelf v_many v_items v_carried) none args s) (F0 m 16 ls [])) : ∀ (x1 : Int32) (x2 : Int32) (x3 : Int32) (x4 : Int32) (x5 : Int32) (v_soughtBy : Int32) (v_sought : Int32) (v_soughtAt : Int32) (v_foundMany : Int32) (v_foundOrder : Int32) (v_order1 : List Int32) (v_placeIn : List Int32) (H : Heap) (locs : List Loc) (ls : Array Slot), fX9_goesOrders_71 N go k_16 x1 x2 x3 x4 x5 v_soughtBy v_sought v_soughtAt v_foundMany v_foundOrder v_order1 v_placeIn = some (w_foundMany, w_foundOrder, w_order1, w_placeIn) → va_P D mm_cl (wd_X9 cI cL cS cH a v_keptMany v_done v_rowsOf v_columnsOf v_folded v_wronged v_tapeMany v_textMany v_base v_at v_ends v_fault v_opened v_bentMany v_bentWrong v_moreWorn v_planned v_allWrong v_allWorn v_z v_wishedField v_isFound v_bestWrong v_bestWorn v_bestMany v_soughtBy v_sought v_soughtAt v_foundMany v_foundOrder v_isKept v_imageRows v_imageColumns v_imageFolded v_imageWronged v_bodies v_ran v_ownKind v_ownNumber v_limit v_changeWas v_changeIs v_shapeRows v_shapeColumns v_row v_column v_below v_face v_worn v_lastBend v_tape v_text v_names v_bends v_high v_to v_pileSize v_planLine v_planWay v_way1 v_bestWay v_order1 v_placeIn v_bodyKind v_trace v_shelf v_many v_items v_carried) H → va_D A (wd_X9 cI cL cS cH a v_keptMany v_done v_rowsOf v_columnsOf v_folded v_wronged v_tapeMany v_textMany v_base v_at v_ends v_fault v_opened v_bentMany v_bentWrong v_moreWorn v_planned v_allWrong v_allWorn v_z v_wishedField v_isFound v_bestWrong v_bestWorn v_bestMany v_soughtBy v_sought v_soughtAt v_foundMany v_foundOrder v_isKept v_imageRows v_imageColumns v_imageFolded v_imageWronged v_bodies v_ran v_ownKind v_ownNumber v_limit v_changeWas v_changeIs v_shapeRows v_shapeColumns v_row v_column v_below v_face v_worn v_lastBend v_tape v_text v_names v_bends v_high v_to v_pileSize v_planLine v_planWay v_way1 v_bestWay v_order1 v_placeIn v_bodyKind v_trace v_shelf v_many v_items v_carried) → va_S A s.heap H locs → lv_has ls 6 [(0, .ref (a 0)), (1, .int x1), (2, .int x2), (3, .int x3), (4, .int x4), (5, .int x5)] → W p l e (mm_rr d) s m args below meth c H locs 0 0 (mm_Z below D A (wd_X9 cI cL cS cH a v_keptMany v_done v_rowsOf v_columnsOf v_folded v_wronged v_tapeMany v_textMany v_base v_at v_ends v_fault v_opened v_bentMany v_bentWrong v_moreWorn v_planned v_allWrong v_allWorn v_z v_wishedField v_isFound v_bestWrong v_bestWorn v_bestMany v_soughtBy v_sought v_soughtAt w_foundMany w_foundOrder v_isKept v_imageRows v_imageColumns v_imageFolded v_imageWronged v_bodies v_ran v_ownKind v_ownNumber v_limit v_changeWas v_changeIs v_shapeRows v_shapeColumns v_row v_column v_below v_face v_worn v_lastBend v_tape v_text v_names v_bends v_high v_to v_pileSize v_planLine v_planWay v_way1 v_bestWay w_order1 w_placeIn v_bodyKind v_trace v_shelf v_many v_items v_carried) none args s) (F0 m 71 ls []) := by
  obtain ⟨hx, hb, hml, hown, hts, hr, hlocks, hK, hSt⟩ := id C0
  intro x1 x2 x3 x4 x5 v_soughtBy v_sought v_soughtAt v_foundMany v_foundOrder v_order1 v_placeIn H locs ls hf hP hD hS hl
  unfold fX9_goesOrders_71 at hf
  obtain ⟨y_16, ey_16⟩ : ∃ z : Int32, z = x5 + (1 : Int32) := ⟨_, rfl⟩
  have hf := mm_nms hf ey_16
  refine lv_iinc (v := y_16) (lv' := [(5, .int y_16), (0, .ref (a 0)), (1, .int x1), (2, .int x2), (3, .int x3), (4, .int x4)]) hx hb dX9_goesOrders_71 hl (k := 5) rfl (by rw [ey_16]; rfl) (by decide) rfl (fun ls hl => ?_)
  refine lv_goto (tgt := 16) hx hb dX9_goesOrders_74 (by decide) ?_
  exact hk_16 _ _ _ _ _ _ _ _ _ _ _ _ H locs ls hf hP hD hS (lv_sub hl [1, 2, 3, 4, 5, 0] rfl)

def fX9_goesOrders_16 (N : Nat) (go : Int32 → Int32 → Int32 → Int32 → Int32 → Int32 → Int32 → Int32 → Int32 → List Int32 → List Int32 → Option (Int32 × Int32 × List Int32 × List Int32))  : Nat → Int32 → Int32 → Int32 → Int32 → Int32 → Int32 → Int32 → Int32 → Int32 → Int32 → List Int32 → List Int32 → Option (Int32 × Int32 × List Int32 × List Int32)
  | 0 => fun _ _ _ _ _ _ _ _ _ _ _ _ => none
  | n + 1 => fun x1 x2 x3 x4 x5 v_soughtBy v_sought v_soughtAt v_foundMany v_foundOrder v_order1 v_placeIn =>
    if x1 ≤ x5 then
    (some (v_foundMany, v_foundOrder, v_order1, v_placeIn))
    else (if ((x3 >>> (x5 &&& 31)) &&& (1 : Int32)) = 0 then
    (mm_ck (mm_inb x2 v_order1.length) (mm_nm (mm_is v_order1 x2 x5) (fun (l_8 : List Int32) =>
    mm_ck (mm_inb x5 v_placeIn.length) (mm_nm (mm_is v_placeIn x5 x2) (fun (l_10 : List Int32) =>
    mm_bd4 (go x1 (x2 + (1 : Int32)) (x3 ||| ((1 : Int32) <<< (x5 &&& 31))) ((((10 : Int32) * x4) + x5) + (1 : Int32)) v_soughtBy v_sought v_soughtAt v_foundMany v_foundOrder l_8 l_10) (fun (w_11 : Int32) (w_12 : Int32) (w_13 : List Int32) (w_14 : List Int32) =>
    fX9_goesOrders_71 N go (fX9_goesOrders_16 N go n) x1 x2 x3 x4 x5 v_soughtBy v_sought v_soughtAt w_11 w_12 w_13 w_14))))))
    else (fX9_goesOrders_71 N go (fX9_goesOrders_16 N go n) x1 x2 x3 x4 x5 v_soughtBy v_sought v_soughtAt v_foundMany v_foundOrder v_order1 v_placeIn))

set_option maxHeartbeats 4000000 in
set_option maxRecDepth 100000 in
theorem tX9_goesOrders_16 {p : Program} {l : Launch} {e : Env} {s : State} {m : MethodId} {args : Array Value} {below : List Frame} {meth : Method} {c : Code} {D : va_G} {cI cL cS cH : ClassId} {A : Nat → Prop} {d : Nat} {a : Nat → Nat} {go : Int32 → Int32 → Int32 → Int32 → Int32 → Int32 → Int32 → Int32 → Int32 → List Int32 → List Int32 → Option (Int32 × Int32 × List Int32 × List Int32)} {dgo : Nat} (hgo : ∀ (a : Nat → Nat) (x1 : Int32) (x2 : Int32) (x3 : Int32) (x4 : Int32) (v_keptMany : Int32) (v_done : Int32) (v_rowsOf : Int32) (v_columnsOf : Int32) (v_folded : Int32) (v_wronged : Int32) (v_tapeMany : Int32) (v_textMany : Int32) (v_base : Int32) (v_at : Int32) (v_ends : Int32) (v_fault : Int32) (v_opened : Int32) (v_bentMany : Int32) (v_bentWrong : Int32) (v_moreWorn : Int32) (v_planned : Int32) (v_allWrong : Int32) (v_allWorn : Int32) (v_z : Int32) (v_wishedField : Int32) (v_isFound : Bool) (v_bestWrong : Int32) (v_bestWorn : Int32) (v_bestMany : Int32) (v_soughtBy : Int32) (v_sought : Int32) (v_soughtAt : Int32) (v_foundMany : Int32) (v_foundOrder : Int32) (v_isKept : Bool) (v_imageRows : Int32) (v_imageColumns : Int32) (v_imageFolded : Int32) (v_imageWronged : Int32) (v_bodies : Int32) (v_ran : Int32) (v_ownKind : Int32) (v_ownNumber : Int32) (v_limit : List Int32) (v_changeWas : List Int32) (v_changeIs : List Int32) (v_shapeRows : List Int32) (v_shapeColumns : List Int32) (v_row : List Int32) (v_column : List Int32) (v_below : List Int32) (v_face : List Int32) (v_worn : List Int32) (v_lastBend : List Int32) (v_tape : List Int32) (v_text : List Int32) (v_names : List Int32) (v_bends : List Int32) (v_high : List Int32) (v_to : List Int32) (v_pileSize : List Int32) (v_planLine : List Int32) (v_planWay : List Int32) (v_way1 : List Int32) (v_bestWay : List Int32) (v_order1 : List Int32) (v_placeIn : List Int32) (v_bodyKind : List Int32) (v_trace : List Int32) (v_shelf : List Int32) (v_many : List Int32) (v_items : List Int64) (v_carried : List Int64) (w_foundMany : Int32) (w_foundOrder : Int32) (w_order1 : List Int32) (w_placeIn : List Int32), go x1 x2 x3 x4 v_soughtBy v_sought v_soughtAt v_foundMany v_foundOrder v_order1 v_placeIn = some (w_foundMany, w_foundOrder, w_order1, w_placeIn) → mm_Ct l yX9_goesOrders cX9_goesOrders 6 none dgo D (mm_T cI cL cS cH) [.ref (a 0), .int x1, .int x2, .int x3, .int x4] (wd_X9 cI cL cS cH a v_keptMany v_done v_rowsOf v_columnsOf v_folded v_wronged v_tapeMany v_textMany v_base v_at v_ends v_fault v_opened v_bentMany v_bentWrong v_moreWorn v_planned v_allWrong v_allWorn v_z v_wishedField v_isFound v_bestWrong v_bestWorn v_bestMany v_soughtBy v_sought v_soughtAt v_foundMany v_foundOrder v_isKept v_imageRows v_imageColumns v_imageFolded v_imageWronged v_bodies v_ran v_ownKind v_ownNumber v_limit v_changeWas v_changeIs v_shapeRows v_shapeColumns v_row v_column v_below v_face v_worn v_lastBend v_tape v_text v_names v_bends v_high v_to v_pileSize v_planLine v_planWay v_way1 v_bestWay v_order1 v_placeIn v_bodyKind v_trace v_shelf v_many v_items v_carried) (wd_X9 cI cL cS cH a v_keptMany v_done v_rowsOf v_columnsOf v_folded v_wronged v_tapeMany v_textMany v_base v_at v_ends v_fault v_opened v_bentMany v_bentWrong v_moreWorn v_planned v_allWrong v_allWorn v_z v_wishedField v_isFound v_bestWrong v_bestWorn v_bestMany v_soughtBy v_sought v_soughtAt w_foundMany w_foundOrder v_isKept v_imageRows v_imageColumns v_imageFolded v_imageWronged v_bodies v_ran v_ownKind v_ownNumber v_limit v_changeWas v_changeIs v_shapeRows v_shapeColumns v_row v_column v_below v_face v_worn v_lastBend v_tape v_text v_names v_bends v_high v_to v_pileSize v_planLine v_planWay v_way1 v_bestWay w_order1 w_placeIn v_bodyKind v_trace v_shelf v_many v_items v_carried) none) (hE : 4 ≤ dgo) (hd : dgo + 1 ≤ d) (C0 : mm_Cx p s m args meth c RX9 cX9_goesOrders 6 none D (mm_T cI cL cS cH) A) (hA : ∀ q, s.heap.size ≤ q → A q) {v_keptMany : Int32} {v_done : Int32} {v_rowsOf : Int32} {v_columnsOf : Int32} {v_folded : Int32} {v_wronged : Int32} {v_tapeMany : Int32} {v_textMany : Int32} {v_base : Int32} {v_at : Int32} {v_ends : Int32} {v_fault : Int32} {v_opened : Int32} {v_bentMany : Int32} {v_bentWrong : Int32} {v_moreWorn : Int32} {v_planned : Int32} {v_allWrong : Int32} {v_allWorn : Int32} {v_z : Int32} {v_wishedField : Int32} {v_isFound : Bool} {v_bestWrong : Int32} {v_bestWorn : Int32} {v_bestMany : Int32} {v_isKept : Bool} {v_imageRows : Int32} {v_imageColumns : Int32} {v_imageFolded : Int32} {v_imageWronged : Int32} {v_bodies : Int32} {v_ran : Int32} {v_ownKind : Int32} {v_ownNumber : Int32} {v_limit : List Int32} {v_changeWas : List Int32} {v_changeIs : List Int32} {v_shapeRows : List Int32} {v_shapeColumns : List Int32} {v_row : List Int32} {v_column : List Int32} {v_below : List Int32} {v_face : List Int32} {v_worn : List Int32} {v_lastBend : List Int32} {v_tape : List Int32} {v_text : List Int32} {v_names : List Int32} {v_bends : List Int32} {v_high : List Int32} {v_to : List Int32} {v_pileSize : List Int32} {v_planLine : List Int32} {v_planWay : List Int32} {v_way1 : List Int32} {v_bestWay : List Int32} {v_bodyKind : List Int32} {v_trace : List Int32} {v_shelf : List Int32} {v_many : List Int32} {v_items : List Int64} {v_carried : List Int64} {w_foundMany : Int32} {w_foundOrder : Int32} {w_order1 : List Int32} {w_placeIn : List Int32} (N : Nat)  : ∀ (n : Nat), ∀ (x1 : Int32) (x2 : Int32) (x3 : Int32) (x4 : Int32) (x5 : Int32) (v_soughtBy : Int32) (v_sought : Int32) (v_soughtAt : Int32) (v_foundMany : Int32) (v_foundOrder : Int32) (v_order1 : List Int32) (v_placeIn : List Int32) (H : Heap) (locs : List Loc) (ls : Array Slot), fX9_goesOrders_16 N go n x1 x2 x3 x4 x5 v_soughtBy v_sought v_soughtAt v_foundMany v_foundOrder v_order1 v_placeIn = some (w_foundMany, w_foundOrder, w_order1, w_placeIn) → va_P D mm_cl (wd_X9 cI cL cS cH a v_keptMany v_done v_rowsOf v_columnsOf v_folded v_wronged v_tapeMany v_textMany v_base v_at v_ends v_fault v_opened v_bentMany v_bentWrong v_moreWorn v_planned v_allWrong v_allWorn v_z v_wishedField v_isFound v_bestWrong v_bestWorn v_bestMany v_soughtBy v_sought v_soughtAt v_foundMany v_foundOrder v_isKept v_imageRows v_imageColumns v_imageFolded v_imageWronged v_bodies v_ran v_ownKind v_ownNumber v_limit v_changeWas v_changeIs v_shapeRows v_shapeColumns v_row v_column v_below v_face v_worn v_lastBend v_tape v_text v_names v_bends v_high v_to v_pileSize v_planLine v_planWay v_way1 v_bestWay v_order1 v_placeIn v_bodyKind v_trace v_shelf v_many v_items v_carried) H → va_D A (wd_X9 cI cL cS cH a v_keptMany v_done v_rowsOf v_columnsOf v_folded v_wronged v_tapeMany v_textMany v_base v_at v_ends v_fault v_opened v_bentMany v_bentWrong v_moreWorn v_planned v_allWrong v_allWorn v_z v_wishedField v_isFound v_bestWrong v_bestWorn v_bestMany v_soughtBy v_sought v_soughtAt v_foundMany v_foundOrder v_isKept v_imageRows v_imageColumns v_imageFolded v_imageWronged v_bodies v_ran v_ownKind v_ownNumber v_limit v_changeWas v_changeIs v_shapeRows v_shapeColumns v_row v_column v_below v_face v_worn v_lastBend v_tape v_text v_names v_bends v_high v_to v_pileSize v_planLine v_planWay v_way1 v_bestWay v_order1 v_placeIn v_bodyKind v_trace v_shelf v_many v_items v_carried) → va_S A s.heap H locs → lv_has ls 6 [(0, .ref (a 0)), (1, .int x1), (2, .int x2), (3, .int x3), (4, .int x4), (5, .int x5)] → W p l e (mm_rr d) s m args below meth c H locs 0 0 (mm_Z below D A (wd_X9 cI cL cS cH a v_keptMany v_done v_rowsOf v_columnsOf v_folded v_wronged v_tapeMany v_textMany v_base v_at v_ends v_fault v_opened v_bentMany v_bentWrong v_moreWorn v_planned v_allWrong v_allWorn v_z v_wishedField v_isFound v_bestWrong v_bestWorn v_bestMany v_soughtBy v_sought v_soughtAt w_foundMany w_foundOrder v_isKept v_imageRows v_imageColumns v_imageFolded v_imageWronged v_bodies v_ran v_ownKind v_ownNumber v_limit v_changeWas v_changeIs v_shapeRows v_shapeColumns v_row v_column v_below v_face v_worn v_lastBend v_tape v_text v_names v_bends v_high v_to v_pileSize v_planLine v_planWay v_way1 v_bestWay w_order1 w_placeIn v_bodyKind v_trace v_shelf v_many v_items v_carried) none args s) (F0 m 16 ls []) := by
  obtain ⟨hx, hb, hml, hown, hts, hr, hlocks, hK, hSt⟩ := id C0
  intro n
  induction n with
  | zero =>
    intro x1 x2 x3 x4 x5 v_soughtBy v_sought v_soughtAt v_foundMany v_foundOrder v_order1 v_placeIn H locs ls hf
    cases (show none = some _ from hf)
  | succ n ih =>
    intro x1 x2 x3 x4 x5 v_soughtBy v_sought v_soughtAt v_foundMany v_foundOrder v_order1 v_placeIn H locs ls hf hP hD hS hl
    unfold fX9_goesOrders_16 at hf
    refine lv_iload hx hb dX9_goesOrders_16 (lv_at hl 5 rfl) ?_
    refine lv_iload_n hx hb dX9_goesOrders_18 rfl (lv_at hl 1 rfl) ?_
    refine lv_icmp_ge (tgt := 77) hx hb dX9_goesOrders_19 (by decide) (fun c_5 => ?_) (fun c_5 => ?_)
    · have hf := mm_ip hf c_5
      apply mm_sub4 hf
      exact mm_vret C0 hP hD hS dX9_goesOrders_77
    · have hf := mm_in hf c_5
      refine lv_iload_n hx hb dX9_goesOrders_22 rfl (lv_at hl 3 rfl) ?_
      refine lv_iload hx hb dX9_goesOrders_23 (lv_at hl 5 rfl) ?_
      refine lv_ishr hx hb dX9_goesOrders_25 ?_
      refine lv_iconst (v := 1) hx hb dX9_goesOrders_26 (by decide) ?_
      refine lv_iand hx hb dX9_goesOrders_27 ?_
      refine lv_if_ne (tgt := 71) hx hb dX9_goesOrders_28 (by decide) (fun c_6 => ?_) (fun c_6 => ?_)
      · have hf := mm_in hf c_6
        exact tX9_goesOrders_71 hgo hE hd C0 hA N ih _ _ _ _ _ _ _ _ _ _ _ _ H locs ls hf hP hD hS (lv_sub hl [0, 1, 2, 3, 4, 5] rfl)
      · have hf := mm_ip hf c_6
        refine lv_aload_n hx hb dX9_goesOrders_31 rfl (lv_at hl 0 rfl) ?_
        refine mm_get C0 hP iw_X9 0 rfl rfl 47 (by decide) fl_X9_76 rfl dX9_goesOrders_32 ?_
        refine lv_iload_n hx hb dX9_goesOrders_35 rfl (lv_at hl 2 rfl) ?_
        refine lv_iload hx hb dX9_goesOrders_36 (lv_at hl 5 rfl) ?_
        obtain ⟨h_7, hf⟩ := mm_cks hf
        refine mm_iast C0 hP hD hS 23 rfl h_7 dX9_goesOrders_38 (w2 := (wd_X9 cI cL cS cH a v_keptMany v_done v_rowsOf v_columnsOf v_folded v_wronged v_tapeMany v_textMany v_base v_at v_ends v_fault v_opened v_bentMany v_bentWrong v_moreWorn v_planned v_allWrong v_allWorn v_z v_wishedField v_isFound v_bestWrong v_bestWorn v_bestMany v_soughtBy v_sought v_soughtAt v_foundMany v_foundOrder v_isKept v_imageRows v_imageColumns v_imageFolded v_imageWronged v_bodies v_ran v_ownKind v_ownNumber v_limit v_changeWas v_changeIs v_shapeRows v_shapeColumns v_row v_column v_below v_face v_worn v_lastBend v_tape v_text v_names v_bends v_high v_to v_pileSize v_planLine v_planWay v_way1 v_bestWay (mm_is v_order1 x2 x5) v_placeIn v_bodyKind v_trace v_shelf v_many v_items v_carried)) rfl (fun H locs hP hD hS => ?_)
        generalize el_8 : (mm_is v_order1 x2 x5) = l_8 at hP hD
        have hf := mm_nms hf el_8.symm
        refine lv_aload_n hx hb dX9_goesOrders_39 rfl (lv_at hl 0 rfl) ?_
        refine mm_get C0 hP iw_X9 0 rfl rfl 48 (by decide) fl_X9_79 rfl dX9_goesOrders_40 ?_
        refine lv_iload hx hb dX9_goesOrders_43 (lv_at hl 5 rfl) ?_
        refine lv_iload_n hx hb dX9_goesOrders_45 rfl (lv_at hl 2 rfl) ?_
        obtain ⟨h_9, hf⟩ := mm_cks hf
        refine mm_iast C0 hP hD hS 24 rfl h_9 dX9_goesOrders_46 (w2 := (wd_X9 cI cL cS cH a v_keptMany v_done v_rowsOf v_columnsOf v_folded v_wronged v_tapeMany v_textMany v_base v_at v_ends v_fault v_opened v_bentMany v_bentWrong v_moreWorn v_planned v_allWrong v_allWorn v_z v_wishedField v_isFound v_bestWrong v_bestWorn v_bestMany v_soughtBy v_sought v_soughtAt v_foundMany v_foundOrder v_isKept v_imageRows v_imageColumns v_imageFolded v_imageWronged v_bodies v_ran v_ownKind v_ownNumber v_limit v_changeWas v_changeIs v_shapeRows v_shapeColumns v_row v_column v_below v_face v_worn v_lastBend v_tape v_text v_names v_bends v_high v_to v_pileSize v_planLine v_planWay v_way1 v_bestWay l_8 (mm_is v_placeIn x5 x2) v_bodyKind v_trace v_shelf v_many v_items v_carried)) rfl (fun H locs hP hD hS => ?_)
        generalize el_10 : (mm_is v_placeIn x5 x2) = l_10 at hP hD
        have hf := mm_nms hf el_10.symm
        refine lv_aload_n hx hb dX9_goesOrders_47 rfl (lv_at hl 0 rfl) ?_
        refine lv_iload_n hx hb dX9_goesOrders_48 rfl (lv_at hl 1 rfl) ?_
        refine lv_iload_n hx hb dX9_goesOrders_49 rfl (lv_at hl 2 rfl) ?_
        refine lv_iconst (v := 1) hx hb dX9_goesOrders_50 (by decide) ?_
        refine lv_iadd hx hb dX9_goesOrders_51 ?_
        refine lv_iload_n hx hb dX9_goesOrders_52 rfl (lv_at hl 3 rfl) ?_
        refine lv_iconst (v := 1) hx hb dX9_goesOrders_53 (by decide) ?_
        refine lv_iload hx hb dX9_goesOrders_54 (lv_at hl 5 rfl) ?_
        refine lv_ishl hx hb dX9_goesOrders_56 ?_
        refine lv_ior hx hb dX9_goesOrders_57 ?_
        refine lv_bipush (v := 10) hx hb dX9_goesOrders_58 (by decide) ?_
        refine lv_iload hx hb dX9_goesOrders_60 (lv_at hl 4 rfl) ?_
        refine lv_imul hx hb dX9_goesOrders_62 ?_
        refine lv_iload hx hb dX9_goesOrders_63 (lv_at hl 5 rfl) ?_
        refine lv_iadd hx hb dX9_goesOrders_65 ?_
        refine lv_iconst (v := 1) hx hb dX9_goesOrders_66 (by decide) ?_
        refine lv_iadd hx hb dX9_goesOrders_67 ?_
        obtain ⟨w_11, w_12, w_13, w_14, hc_15, hf⟩ := mm_bd4s hf
        refine mm_callVF (q0 := 0) (ci := 9) (rest := []) C0 lk_X9_373 (hgo a _ _ _ _ _ _ _ _ _ _ _ _ _ _ _ _ _ _ _ _ _ _ _ _ _ _ _ _ _ _ _ _ _ _ _ _ _ _ _ _ _ _ _ _ _ _ _ _ _ _ _ _ _ _ _ _ _ _ _ _ _ _ _ _ _ _ _ _ _ _ _ _ _ _ _ _ _ hc_15) (by omega) rfl hl.1 rfl (mm_cat rfl) dX9_goesOrders_68 hP hD hA hS rfl rfl (fun H locs hP hD hS => ?_)
        refine W.eq (g2 := F0 m 71 ls []) rfl ?_
        exact tX9_goesOrders_71 hgo hE hd C0 hA N ih _ _ _ _ _ _ _ _ _ _ _ _ H locs ls hf hP hD hS (lv_sub hl [0, 1, 2, 3, 4, 5] rfl)

def fX9_goesOrderso (N : Nat) (go : Int32 → Int32 → Int32 → Int32 → Int32 → Int32 → Int32 → Int32 → Int32 → List Int32 → List Int32 → Option (Int32 × Int32 × List Int32 × List Int32)) (x1 : Int32) (x2 : Int32) (x3 : Int32) (x4 : Int32) (v_soughtBy : Int32) (v_sought : Int32) (v_soughtAt : Int32) (v_foundMany : Int32) (v_foundOrder : Int32) (v_order1 : List Int32) (v_placeIn : List Int32) : Option (Int32 × Int32 × List Int32 × List Int32) :=
    if x2 = x1 then
    (mm_bd2 (fX9_looksAt N x1 x4 v_soughtBy v_sought v_soughtAt v_foundMany v_foundOrder v_order1 v_placeIn) (fun (w_2 : Int32) (w_3 : Int32) =>
    some (w_2, w_3, v_order1, v_placeIn)))
    else (fX9_goesOrders_16 N go N x1 x2 x3 x4 (0 : Int32) v_soughtBy v_sought v_soughtAt v_foundMany v_foundOrder v_order1 v_placeIn)

set_option maxHeartbeats 4000000 in
set_option maxRecDepth 100000 in
theorem ctX9_goesOrderso {l : Launch} {D : va_G} {cI cL cS cH : ClassId} {a : Nat → Nat} {x1 : Int32} {x2 : Int32} {x3 : Int32} {x4 : Int32} {v_keptMany : Int32} {v_done : Int32} {v_rowsOf : Int32} {v_columnsOf : Int32} {v_folded : Int32} {v_wronged : Int32} {v_tapeMany : Int32} {v_textMany : Int32} {v_base : Int32} {v_at : Int32} {v_ends : Int32} {v_fault : Int32} {v_opened : Int32} {v_bentMany : Int32} {v_bentWrong : Int32} {v_moreWorn : Int32} {v_planned : Int32} {v_allWrong : Int32} {v_allWorn : Int32} {v_z : Int32} {v_wishedField : Int32} {v_isFound : Bool} {v_bestWrong : Int32} {v_bestWorn : Int32} {v_bestMany : Int32} {v_soughtBy : Int32} {v_sought : Int32} {v_soughtAt : Int32} {v_foundMany : Int32} {v_foundOrder : Int32} {v_isKept : Bool} {v_imageRows : Int32} {v_imageColumns : Int32} {v_imageFolded : Int32} {v_imageWronged : Int32} {v_bodies : Int32} {v_ran : Int32} {v_ownKind : Int32} {v_ownNumber : Int32} {v_limit : List Int32} {v_changeWas : List Int32} {v_changeIs : List Int32} {v_shapeRows : List Int32} {v_shapeColumns : List Int32} {v_row : List Int32} {v_column : List Int32} {v_below : List Int32} {v_face : List Int32} {v_worn : List Int32} {v_lastBend : List Int32} {v_tape : List Int32} {v_text : List Int32} {v_names : List Int32} {v_bends : List Int32} {v_high : List Int32} {v_to : List Int32} {v_pileSize : List Int32} {v_planLine : List Int32} {v_planWay : List Int32} {v_way1 : List Int32} {v_bestWay : List Int32} {v_order1 : List Int32} {v_placeIn : List Int32} {v_bodyKind : List Int32} {v_trace : List Int32} {v_shelf : List Int32} {v_many : List Int32} {v_items : List Int64} {v_carried : List Int64} {w_foundMany : Int32} {w_foundOrder : Int32} {w_order1 : List Int32} {w_placeIn : List Int32} {N d : Nat} {go : Int32 → Int32 → Int32 → Int32 → Int32 → Int32 → Int32 → Int32 → Int32 → List Int32 → List Int32 → Option (Int32 × Int32 × List Int32 × List Int32)} {dgo : Nat} (hgo : ∀ (a : Nat → Nat) (x1 : Int32) (x2 : Int32) (x3 : Int32) (x4 : Int32) (v_keptMany : Int32) (v_done : Int32) (v_rowsOf : Int32) (v_columnsOf : Int32) (v_folded : Int32) (v_wronged : Int32) (v_tapeMany : Int32) (v_textMany : Int32) (v_base : Int32) (v_at : Int32) (v_ends : Int32) (v_fault : Int32) (v_opened : Int32) (v_bentMany : Int32) (v_bentWrong : Int32) (v_moreWorn : Int32) (v_planned : Int32) (v_allWrong : Int32) (v_allWorn : Int32) (v_z : Int32) (v_wishedField : Int32) (v_isFound : Bool) (v_bestWrong : Int32) (v_bestWorn : Int32) (v_bestMany : Int32) (v_soughtBy : Int32) (v_sought : Int32) (v_soughtAt : Int32) (v_foundMany : Int32) (v_foundOrder : Int32) (v_isKept : Bool) (v_imageRows : Int32) (v_imageColumns : Int32) (v_imageFolded : Int32) (v_imageWronged : Int32) (v_bodies : Int32) (v_ran : Int32) (v_ownKind : Int32) (v_ownNumber : Int32) (v_limit : List Int32) (v_changeWas : List Int32) (v_changeIs : List Int32) (v_shapeRows : List Int32) (v_shapeColumns : List Int32) (v_row : List Int32) (v_column : List Int32) (v_below : List Int32) (v_face : List Int32) (v_worn : List Int32) (v_lastBend : List Int32) (v_tape : List Int32) (v_text : List Int32) (v_names : List Int32) (v_bends : List Int32) (v_high : List Int32) (v_to : List Int32) (v_pileSize : List Int32) (v_planLine : List Int32) (v_planWay : List Int32) (v_way1 : List Int32) (v_bestWay : List Int32) (v_order1 : List Int32) (v_placeIn : List Int32) (v_bodyKind : List Int32) (v_trace : List Int32) (v_shelf : List Int32) (v_many : List Int32) (v_items : List Int64) (v_carried : List Int64) (w_foundMany : Int32) (w_foundOrder : Int32) (w_order1 : List Int32) (w_placeIn : List Int32), go x1 x2 x3 x4 v_soughtBy v_sought v_soughtAt v_foundMany v_foundOrder v_order1 v_placeIn = some (w_foundMany, w_foundOrder, w_order1, w_placeIn) → mm_Ct l yX9_goesOrders cX9_goesOrders 6 none dgo D (mm_T cI cL cS cH) [.ref (a 0), .int x1, .int x2, .int x3, .int x4] (wd_X9 cI cL cS cH a v_keptMany v_done v_rowsOf v_columnsOf v_folded v_wronged v_tapeMany v_textMany v_base v_at v_ends v_fault v_opened v_bentMany v_bentWrong v_moreWorn v_planned v_allWrong v_allWorn v_z v_wishedField v_isFound v_bestWrong v_bestWorn v_bestMany v_soughtBy v_sought v_soughtAt v_foundMany v_foundOrder v_isKept v_imageRows v_imageColumns v_imageFolded v_imageWronged v_bodies v_ran v_ownKind v_ownNumber v_limit v_changeWas v_changeIs v_shapeRows v_shapeColumns v_row v_column v_below v_face v_worn v_lastBend v_tape v_text v_names v_bends v_high v_to v_pileSize v_planLine v_planWay v_way1 v_bestWay v_order1 v_placeIn v_bodyKind v_trace v_shelf v_many v_items v_carried) (wd_X9 cI cL cS cH a v_keptMany v_done v_rowsOf v_columnsOf v_folded v_wronged v_tapeMany v_textMany v_base v_at v_ends v_fault v_opened v_bentMany v_bentWrong v_moreWorn v_planned v_allWrong v_allWorn v_z v_wishedField v_isFound v_bestWrong v_bestWorn v_bestMany v_soughtBy v_sought v_soughtAt w_foundMany w_foundOrder v_isKept v_imageRows v_imageColumns v_imageFolded v_imageWronged v_bodies v_ran v_ownKind v_ownNumber v_limit v_changeWas v_changeIs v_shapeRows v_shapeColumns v_row v_column v_below v_face v_worn v_lastBend v_tape v_text v_names v_bends v_high v_to v_pileSize v_planLine v_planWay v_way1 v_bestWay w_order1 w_placeIn v_bodyKind v_trace v_shelf v_many v_items v_carried) none) (hE : 4 ≤ dgo) (hd : dgo + 1 ≤ d) (hf : fX9_goesOrderso N go x1 x2 x3 x4 v_soughtBy v_sought v_soughtAt v_foundMany v_foundOrder v_order1 v_placeIn = some (w_foundMany, w_foundOrder, w_order1, w_placeIn)) : mm_Ct l yX9_goesOrders cX9_goesOrders 6 none d D (mm_T cI cL cS cH) [.ref (a 0), .int x1, .int x2, .int x3, .int x4] (wd_X9 cI cL cS cH a v_keptMany v_done v_rowsOf v_columnsOf v_folded v_wronged v_tapeMany v_textMany v_base v_at v_ends v_fault v_opened v_bentMany v_bentWrong v_moreWorn v_planned v_allWrong v_allWorn v_z v_wishedField v_isFound v_bestWrong v_bestWorn v_bestMany v_soughtBy v_sought v_soughtAt v_foundMany v_foundOrder v_isKept v_imageRows v_imageColumns v_imageFolded v_imageWronged v_bodies v_ran v_ownKind v_ownNumber v_limit v_changeWas v_changeIs v_shapeRows v_shapeColumns v_row v_column v_below v_face v_worn v_lastBend v_tape v_text v_names v_bends v_high v_to v_pileSize v_planLine v_planWay v_way1 v_bestWay v_order1 v_placeIn v_bodyKind v_trace v_shelf v_many v_items v_carried) (wd_X9 cI cL cS cH a v_keptMany v_done v_rowsOf v_columnsOf v_folded v_wronged v_tapeMany v_textMany v_base v_at v_ends v_fault v_opened v_bentMany v_bentWrong v_moreWorn v_planned v_allWrong v_allWorn v_z v_wishedField v_isFound v_bestWrong v_bestWorn v_bestMany v_soughtBy v_sought v_soughtAt w_foundMany w_foundOrder v_isKept v_imageRows v_imageColumns v_imageFolded v_imageWronged v_bodies v_ran v_ownKind v_ownNumber v_limit v_changeWas v_changeIs v_shapeRows v_shapeColumns v_row v_column v_below v_face v_worn v_lastBend v_tape v_text v_names v_bends v_high v_to v_pileSize v_planLine v_planWay v_way1 v_bestWay w_order1 w_placeIn v_bodyKind v_trace v_shelf v_many v_items v_carried) none := by
  refine mm_of (by decide) (Nat.le_of_ble_eq_true rfl) ?_
  intro p e s m args below meth c A H locs ls C0 hP hD hA hS hl
  have C0 : mm_Cx p s m args meth c RX9 cX9_goesOrders 6 none D (mm_T cI cL cS cH) A := C0
  obtain ⟨hx, hb, hml, hown, hts, hr, hlocks, hK, hSt⟩ := id C0
  have hl : lv_has ls 6 [(0, .ref (a 0)), (1, .int x1), (2, .int x2), (3, .int x3), (4, .int x4)] := hl
  unfold fX9_goesOrderso at hf
  refine lv_iload_n hx hb dX9_goesOrders_0 rfl (lv_at hl 2 rfl) ?_
  refine lv_iload_n hx hb dX9_goesOrders_1 rfl (lv_at hl 1 rfl) ?_
  refine lv_icmp_ne (tgt := 13) hx hb dX9_goesOrders_2 (by decide) (fun c_1 => ?_) (fun c_1 => ?_)
  · have hf := mm_in hf c_1
    refine lv_iconst (v := 0) hx hb dX9_goesOrders_13 (by decide) ?_
    refine lv_istore (lv' := [(5, .int (0 : Int32)), (0, .ref (a 0)), (1, .int x1), (2, .int x2), (3, .int x3), (4, .int x4)]) hx hb dX9_goesOrders_14 hl (by decide) rfl (fun ls hl => ?_)
    exact tX9_goesOrders_16 hgo hE hd C0 hA N  N _ _ _ _ _ _ _ _ _ _ _ _ H locs ls hf hP hD hS (lv_sub hl [1, 2, 3, 4, 5, 0] rfl)
  · have hf := mm_ip hf c_1
    refine lv_aload_n hx hb dX9_goesOrders_5 rfl (lv_at hl 0 rfl) ?_
    refine lv_iload_n hx hb dX9_goesOrders_6 rfl (lv_at hl 1 rfl) ?_
    refine lv_iload hx hb dX9_goesOrders_7 (lv_at hl 4 rfl) ?_
    obtain ⟨w_2, w_3, hc_4, hf⟩ := mm_bd2s hf
    refine mm_callVF (q0 := 0) (ci := 9) (rest := []) C0 lk_X9_370 (ctX9_looksAt (a := a) (d := d - 1) (by omega) hc_4) (by omega) rfl hl.1 rfl (mm_cat rfl) dX9_goesOrders_9 hP hD hA hS rfl rfl (fun H locs hP hD hS => ?_)
    refine W.eq (g2 := F0 m 12 ls []) rfl ?_
    apply mm_sub4 hf
    exact mm_vret C0 hP hD hS dX9_goesOrders_12

def fX9_goesOrders (N : Nat) : Nat → Int32 → Int32 → Int32 → Int32 → Int32 → Int32 → Int32 → Int32 → Int32 → List Int32 → List Int32 → Option (Int32 × Int32 × List Int32 × List Int32)
  | 0 => fun _ _ _ _ _ _ _ _ _ _ _ => none
  | M + 1 => fX9_goesOrderso N (fX9_goesOrders N M)
set_option maxHeartbeats 4000000 in
set_option maxRecDepth 100000 in
theorem ctX9_goesOrders {l : Launch} {D : va_G} {cI cL cS cH : ClassId} {N : Nat} : ∀ (M d : Nat), 4 + 1 * M ≤ d → ∀ (a : Nat → Nat) (x1 : Int32) (x2 : Int32) (x3 : Int32) (x4 : Int32) (v_keptMany : Int32) (v_done : Int32) (v_rowsOf : Int32) (v_columnsOf : Int32) (v_folded : Int32) (v_wronged : Int32) (v_tapeMany : Int32) (v_textMany : Int32) (v_base : Int32) (v_at : Int32) (v_ends : Int32) (v_fault : Int32) (v_opened : Int32) (v_bentMany : Int32) (v_bentWrong : Int32) (v_moreWorn : Int32) (v_planned : Int32) (v_allWrong : Int32) (v_allWorn : Int32) (v_z : Int32) (v_wishedField : Int32) (v_isFound : Bool) (v_bestWrong : Int32) (v_bestWorn : Int32) (v_bestMany : Int32) (v_soughtBy : Int32) (v_sought : Int32) (v_soughtAt : Int32) (v_foundMany : Int32) (v_foundOrder : Int32) (v_isKept : Bool) (v_imageRows : Int32) (v_imageColumns : Int32) (v_imageFolded : Int32) (v_imageWronged : Int32) (v_bodies : Int32) (v_ran : Int32) (v_ownKind : Int32) (v_ownNumber : Int32) (v_limit : List Int32) (v_changeWas : List Int32) (v_changeIs : List Int32) (v_shapeRows : List Int32) (v_shapeColumns : List Int32) (v_row : List Int32) (v_column : List Int32) (v_below : List Int32) (v_face : List Int32) (v_worn : List Int32) (v_lastBend : List Int32) (v_tape : List Int32) (v_text : List Int32) (v_names : List Int32) (v_bends : List Int32) (v_high : List Int32) (v_to : List Int32) (v_pileSize : List Int32) (v_planLine : List Int32) (v_planWay : List Int32) (v_way1 : List Int32) (v_bestWay : List Int32) (v_order1 : List Int32) (v_placeIn : List Int32) (v_bodyKind : List Int32) (v_trace : List Int32) (v_shelf : List Int32) (v_many : List Int32) (v_items : List Int64) (v_carried : List Int64) (w_foundMany : Int32) (w_foundOrder : Int32) (w_order1 : List Int32) (w_placeIn : List Int32), fX9_goesOrders N M x1 x2 x3 x4 v_soughtBy v_sought v_soughtAt v_foundMany v_foundOrder v_order1 v_placeIn = some (w_foundMany, w_foundOrder, w_order1, w_placeIn) → mm_Ct l yX9_goesOrders cX9_goesOrders 6 none d D (mm_T cI cL cS cH) [.ref (a 0), .int x1, .int x2, .int x3, .int x4] (wd_X9 cI cL cS cH a v_keptMany v_done v_rowsOf v_columnsOf v_folded v_wronged v_tapeMany v_textMany v_base v_at v_ends v_fault v_opened v_bentMany v_bentWrong v_moreWorn v_planned v_allWrong v_allWorn v_z v_wishedField v_isFound v_bestWrong v_bestWorn v_bestMany v_soughtBy v_sought v_soughtAt v_foundMany v_foundOrder v_isKept v_imageRows v_imageColumns v_imageFolded v_imageWronged v_bodies v_ran v_ownKind v_ownNumber v_limit v_changeWas v_changeIs v_shapeRows v_shapeColumns v_row v_column v_below v_face v_worn v_lastBend v_tape v_text v_names v_bends v_high v_to v_pileSize v_planLine v_planWay v_way1 v_bestWay v_order1 v_placeIn v_bodyKind v_trace v_shelf v_many v_items v_carried) (wd_X9 cI cL cS cH a v_keptMany v_done v_rowsOf v_columnsOf v_folded v_wronged v_tapeMany v_textMany v_base v_at v_ends v_fault v_opened v_bentMany v_bentWrong v_moreWorn v_planned v_allWrong v_allWorn v_z v_wishedField v_isFound v_bestWrong v_bestWorn v_bestMany v_soughtBy v_sought v_soughtAt w_foundMany w_foundOrder v_isKept v_imageRows v_imageColumns v_imageFolded v_imageWronged v_bodies v_ran v_ownKind v_ownNumber v_limit v_changeWas v_changeIs v_shapeRows v_shapeColumns v_row v_column v_below v_face v_worn v_lastBend v_tape v_text v_names v_bends v_high v_to v_pileSize v_planLine v_planWay v_way1 v_bestWay w_order1 w_placeIn v_bodyKind v_trace v_shelf v_many v_items v_carried) none := by
  intro M
  induction M with
  | zero =>
    intro d hd a x1 x2 x3 x4 v_keptMany v_done v_rowsOf v_columnsOf v_folded v_wronged v_tapeMany v_textMany v_base v_at v_ends v_fault v_opened v_bentMany v_bentWrong v_moreWorn v_planned v_allWrong v_allWorn v_z v_wishedField v_isFound v_bestWrong v_bestWorn v_bestMany v_soughtBy v_sought v_soughtAt v_foundMany v_foundOrder v_isKept v_imageRows v_imageColumns v_imageFolded v_imageWronged v_bodies v_ran v_ownKind v_ownNumber v_limit v_changeWas v_changeIs v_shapeRows v_shapeColumns v_row v_column v_below v_face v_worn v_lastBend v_tape v_text v_names v_bends v_high v_to v_pileSize v_planLine v_planWay v_way1 v_bestWay v_order1 v_placeIn v_bodyKind v_trace v_shelf v_many v_items v_carried w_foundMany w_foundOrder w_order1 w_placeIn hf
    cases (show none = some _ from hf)
  | succ M ih =>
    intro d hd a x1 x2 x3 x4 v_keptMany v_done v_rowsOf v_columnsOf v_folded v_wronged v_tapeMany v_textMany v_base v_at v_ends v_fault v_opened v_bentMany v_bentWrong v_moreWorn v_planned v_allWrong v_allWorn v_z v_wishedField v_isFound v_bestWrong v_bestWorn v_bestMany v_soughtBy v_sought v_soughtAt v_foundMany v_foundOrder v_isKept v_imageRows v_imageColumns v_imageFolded v_imageWronged v_bodies v_ran v_ownKind v_ownNumber v_limit v_changeWas v_changeIs v_shapeRows v_shapeColumns v_row v_column v_below v_face v_worn v_lastBend v_tape v_text v_names v_bends v_high v_to v_pileSize v_planLine v_planWay v_way1 v_bestWay v_order1 v_placeIn v_bodyKind v_trace v_shelf v_many v_items v_carried w_foundMany w_foundOrder w_order1 w_placeIn hf
    exact ctX9_goesOrderso (N := N) (ih (4 + 1 * M) (Nat.le_refl _)) (Nat.le_add_right _ _) (by omega) hf

theorem dX9_seeks_0 : decode cX9_seeks 0 = .ok (.aload_n 0, 1) := by decide +kernel
theorem dX9_seeks_1 : decode cX9_seeks 1 = .ok (.iload_n 2, 1) := by decide +kernel
theorem dX9_seeks_2 : decode cX9_seeks 2 = .ok (.putfield 355, 3) := by decide +kernel
theorem dX9_seeks_5 : decode cX9_seeks 5 = .ok (.aload_n 0, 1) := by decide +kernel
theorem dX9_seeks_6 : decode cX9_seeks 6 = .ok (.iload_n 3, 1) := by decide +kernel
theorem dX9_seeks_7 : decode cX9_seeks 7 = .ok (.putfield 358, 3) := by decide +kernel
theorem dX9_seeks_10 : decode cX9_seeks 10 = .ok (.aload_n 0, 1) := by decide +kernel
theorem dX9_seeks_11 : decode cX9_seeks 11 = .ok (.iload 4, 2) := by decide +kernel
theorem dX9_seeks_13 : decode cX9_seeks 13 = .ok (.putfield 364, 3) := by decide +kernel
theorem dX9_seeks_16 : decode cX9_seeks 16 = .ok (.aload_n 0, 1) := by decide +kernel
theorem dX9_seeks_17 : decode cX9_seeks 17 = .ok (.iconst 0, 1) := by decide +kernel
theorem dX9_seeks_18 : decode cX9_seeks 18 = .ok (.putfield 361, 3) := by decide +kernel
theorem dX9_seeks_21 : decode cX9_seeks 21 = .ok (.aload_n 0, 1) := by decide +kernel
theorem dX9_seeks_22 : decode cX9_seeks 22 = .ok (.iconst (-1), 1) := by decide +kernel
theorem dX9_seeks_23 : decode cX9_seeks 23 = .ok (.putfield 367, 3) := by decide +kernel
theorem dX9_seeks_26 : decode cX9_seeks 26 = .ok (.aload_n 0, 1) := by decide +kernel
theorem dX9_seeks_27 : decode cX9_seeks 27 = .ok (.iload_n 1, 1) := by decide +kernel
theorem dX9_seeks_28 : decode cX9_seeks 28 = .ok (.iconst 0, 1) := by decide +kernel
theorem dX9_seeks_29 : decode cX9_seeks 29 = .ok (.iconst 0, 1) := by decide +kernel
theorem dX9_seeks_30 : decode cX9_seeks 30 = .ok (.iconst 0, 1) := by decide +kernel
theorem dX9_seeks_31 : decode cX9_seeks 31 = .ok (.invokevirtual 373, 3) := by decide +kernel
theorem dX9_seeks_34 : decode cX9_seeks 34 = .ok (.return_, 1) := by decide +kernel
def fX9_seeks (N : Nat) (x1 : Int32) (x2 : Int32) (x3 : Int32) (x4 : Int32) (v_soughtBy : Int32) (v_sought : Int32) (v_soughtAt : Int32) (v_foundMany : Int32) (v_foundOrder : Int32) (v_order1 : List Int32) (v_placeIn : List Int32) : Option (Int32 × Int32 × Int32 × Int32 × Int32 × List Int32 × List Int32) :=
    mm_bd4 (fX9_goesOrders N 9 x1 (0 : Int32) (0 : Int32) (0 : Int32) x2 x3 x4 (0 : Int32) (-1 : Int32) v_order1 v_placeIn) (fun (w_1 : Int32) (w_2 : Int32) (w_3 : List Int32) (w_4 : List Int32) =>
    some (x2, x3, x4, w_1, w_2, w_3, w_4))

set_option maxHeartbeats 4000000 in
set_option maxRecDepth 100000 in
theorem ctX9_seeks {l : Launch} {D : va_G} {cI cL cS cH : ClassId} {a : Nat → Nat} {x1 : Int32} {x2 : Int32} {x3 : Int32} {x4 : Int32} {v_keptMany : Int32} {v_done : Int32} {v_rowsOf : Int32} {v_columnsOf : Int32} {v_folded : Int32} {v_wronged : Int32} {v_tapeMany : Int32} {v_textMany : Int32} {v_base : Int32} {v_at : Int32} {v_ends : Int32} {v_fault : Int32} {v_opened : Int32} {v_bentMany : Int32} {v_bentWrong : Int32} {v_moreWorn : Int32} {v_planned : Int32} {v_allWrong : Int32} {v_allWorn : Int32} {v_z : Int32} {v_wishedField : Int32} {v_isFound : Bool} {v_bestWrong : Int32} {v_bestWorn : Int32} {v_bestMany : Int32} {v_soughtBy : Int32} {v_sought : Int32} {v_soughtAt : Int32} {v_foundMany : Int32} {v_foundOrder : Int32} {v_isKept : Bool} {v_imageRows : Int32} {v_imageColumns : Int32} {v_imageFolded : Int32} {v_imageWronged : Int32} {v_bodies : Int32} {v_ran : Int32} {v_ownKind : Int32} {v_ownNumber : Int32} {v_limit : List Int32} {v_changeWas : List Int32} {v_changeIs : List Int32} {v_shapeRows : List Int32} {v_shapeColumns : List Int32} {v_row : List Int32} {v_column : List Int32} {v_below : List Int32} {v_face : List Int32} {v_worn : List Int32} {v_lastBend : List Int32} {v_tape : List Int32} {v_text : List Int32} {v_names : List Int32} {v_bends : List Int32} {v_high : List Int32} {v_to : List Int32} {v_pileSize : List Int32} {v_planLine : List Int32} {v_planWay : List Int32} {v_way1 : List Int32} {v_bestWay : List Int32} {v_order1 : List Int32} {v_placeIn : List Int32} {v_bodyKind : List Int32} {v_trace : List Int32} {v_shelf : List Int32} {v_many : List Int32} {v_items : List Int64} {v_carried : List Int64} {w_soughtBy : Int32} {w_sought : Int32} {w_soughtAt : Int32} {w_foundMany : Int32} {w_foundOrder : Int32} {w_order1 : List Int32} {w_placeIn : List Int32} {N d : Nat} (hd : 14 ≤ d) (hf : fX9_seeks N x1 x2 x3 x4 v_soughtBy v_sought v_soughtAt v_foundMany v_foundOrder v_order1 v_placeIn = some (w_soughtBy, w_sought, w_soughtAt, w_foundMany, w_foundOrder, w_order1, w_placeIn)) : mm_Ct l yX9_seeks cX9_seeks 5 none d D (mm_T cI cL cS cH) [.ref (a 0), .int x1, .int x2, .int x3, .int x4] (wd_X9 cI cL cS cH a v_keptMany v_done v_rowsOf v_columnsOf v_folded v_wronged v_tapeMany v_textMany v_base v_at v_ends v_fault v_opened v_bentMany v_bentWrong v_moreWorn v_planned v_allWrong v_allWorn v_z v_wishedField v_isFound v_bestWrong v_bestWorn v_bestMany v_soughtBy v_sought v_soughtAt v_foundMany v_foundOrder v_isKept v_imageRows v_imageColumns v_imageFolded v_imageWronged v_bodies v_ran v_ownKind v_ownNumber v_limit v_changeWas v_changeIs v_shapeRows v_shapeColumns v_row v_column v_below v_face v_worn v_lastBend v_tape v_text v_names v_bends v_high v_to v_pileSize v_planLine v_planWay v_way1 v_bestWay v_order1 v_placeIn v_bodyKind v_trace v_shelf v_many v_items v_carried) (wd_X9 cI cL cS cH a v_keptMany v_done v_rowsOf v_columnsOf v_folded v_wronged v_tapeMany v_textMany v_base v_at v_ends v_fault v_opened v_bentMany v_bentWrong v_moreWorn v_planned v_allWrong v_allWorn v_z v_wishedField v_isFound v_bestWrong v_bestWorn v_bestMany w_soughtBy w_sought w_soughtAt w_foundMany w_foundOrder v_isKept v_imageRows v_imageColumns v_imageFolded v_imageWronged v_bodies v_ran v_ownKind v_ownNumber v_limit v_changeWas v_changeIs v_shapeRows v_shapeColumns v_row v_column v_below v_face v_worn v_lastBend v_tape v_text v_names v_bends v_high v_to v_pileSize v_planLine v_planWay v_way1 v_bestWay w_order1 w_placeIn v_bodyKind v_trace v_shelf v_many v_items v_carried) none := by
  refine mm_of (by decide) (Nat.le_of_ble_eq_true rfl) ?_
  intro p e s m args below meth c A H locs ls C0 hP hD hA hS hl
  have C0 : mm_Cx p s m args meth c RX9 cX9_seeks 5 none D (mm_T cI cL cS cH) A := C0
  obtain ⟨hx, hb, hml, hown, hts, hr, hlocks, hK, hSt⟩ := id C0
  have hl : lv_has ls 5 [(0, .ref (a 0)), (1, .int x1), (2, .int x2), (3, .int x3), (4, .int x4)] := hl
  unfold fX9_seeks at hf
  refine lv_aload_n hx hb dX9_seeks_0 rfl (lv_at hl 0 rfl) ?_
  refine lv_iload_n hx hb dX9_seeks_1 rfl (lv_at hl 2 rfl) ?_
  refine mm_put C0 hP hD hS iw_X9 tyX9 tyX9_ok nmX9 0 rfl rfl 49 (by decide) fl_X9_355 rfl rfl rfl (Nat.le_of_ble_eq_true rfl) dX9_seeks_2 (w2 := (wd_X9 cI cL cS cH a v_keptMany v_done v_rowsOf v_columnsOf v_folded v_wronged v_tapeMany v_textMany v_base v_at v_ends v_fault v_opened v_bentMany v_bentWrong v_moreWorn v_planned v_allWrong v_allWorn v_z v_wishedField v_isFound v_bestWrong v_bestWorn v_bestMany x2 v_sought v_soughtAt v_foundMany v_foundOrder v_isKept v_imageRows v_imageColumns v_imageFolded v_imageWronged v_bodies v_ran v_ownKind v_ownNumber v_limit v_changeWas v_changeIs v_shapeRows v_shapeColumns v_row v_column v_below v_face v_worn v_lastBend v_tape v_text v_names v_bends v_high v_to v_pileSize v_planLine v_planWay v_way1 v_bestWay v_order1 v_placeIn v_bodyKind v_trace v_shelf v_many v_items v_carried)) rfl (fun H locs hP hD hS => ?_)
  refine lv_aload_n hx hb dX9_seeks_5 rfl (lv_at hl 0 rfl) ?_
  refine lv_iload_n hx hb dX9_seeks_6 rfl (lv_at hl 3 rfl) ?_
  refine mm_put C0 hP hD hS iw_X9 tyX9 tyX9_ok nmX9 0 rfl rfl 50 (by decide) fl_X9_358 rfl rfl rfl (Nat.le_of_ble_eq_true rfl) dX9_seeks_7 (w2 := (wd_X9 cI cL cS cH a v_keptMany v_done v_rowsOf v_columnsOf v_folded v_wronged v_tapeMany v_textMany v_base v_at v_ends v_fault v_opened v_bentMany v_bentWrong v_moreWorn v_planned v_allWrong v_allWorn v_z v_wishedField v_isFound v_bestWrong v_bestWorn v_bestMany x2 x3 v_soughtAt v_foundMany v_foundOrder v_isKept v_imageRows v_imageColumns v_imageFolded v_imageWronged v_bodies v_ran v_ownKind v_ownNumber v_limit v_changeWas v_changeIs v_shapeRows v_shapeColumns v_row v_column v_below v_face v_worn v_lastBend v_tape v_text v_names v_bends v_high v_to v_pileSize v_planLine v_planWay v_way1 v_bestWay v_order1 v_placeIn v_bodyKind v_trace v_shelf v_many v_items v_carried)) rfl (fun H locs hP hD hS => ?_)
  refine lv_aload_n hx hb dX9_seeks_10 rfl (lv_at hl 0 rfl) ?_
  refine lv_iload hx hb dX9_seeks_11 (lv_at hl 4 rfl) ?_
  refine mm_put C0 hP hD hS iw_X9 tyX9 tyX9_ok nmX9 0 rfl rfl 51 (by decide) fl_X9_364 rfl rfl rfl (Nat.le_of_ble_eq_true rfl) dX9_seeks_13 (w2 := (wd_X9 cI cL cS cH a v_keptMany v_done v_rowsOf v_columnsOf v_folded v_wronged v_tapeMany v_textMany v_base v_at v_ends v_fault v_opened v_bentMany v_bentWrong v_moreWorn v_planned v_allWrong v_allWorn v_z v_wishedField v_isFound v_bestWrong v_bestWorn v_bestMany x2 x3 x4 v_foundMany v_foundOrder v_isKept v_imageRows v_imageColumns v_imageFolded v_imageWronged v_bodies v_ran v_ownKind v_ownNumber v_limit v_changeWas v_changeIs v_shapeRows v_shapeColumns v_row v_column v_below v_face v_worn v_lastBend v_tape v_text v_names v_bends v_high v_to v_pileSize v_planLine v_planWay v_way1 v_bestWay v_order1 v_placeIn v_bodyKind v_trace v_shelf v_many v_items v_carried)) rfl (fun H locs hP hD hS => ?_)
  refine lv_aload_n hx hb dX9_seeks_16 rfl (lv_at hl 0 rfl) ?_
  refine lv_iconst (v := 0) hx hb dX9_seeks_17 (by decide) ?_
  refine mm_put C0 hP hD hS iw_X9 tyX9 tyX9_ok nmX9 0 rfl rfl 52 (by decide) fl_X9_361 rfl rfl rfl (Nat.le_of_ble_eq_true rfl) dX9_seeks_18 (w2 := (wd_X9 cI cL cS cH a v_keptMany v_done v_rowsOf v_columnsOf v_folded v_wronged v_tapeMany v_textMany v_base v_at v_ends v_fault v_opened v_bentMany v_bentWrong v_moreWorn v_planned v_allWrong v_allWorn v_z v_wishedField v_isFound v_bestWrong v_bestWorn v_bestMany x2 x3 x4 (0 : Int32) v_foundOrder v_isKept v_imageRows v_imageColumns v_imageFolded v_imageWronged v_bodies v_ran v_ownKind v_ownNumber v_limit v_changeWas v_changeIs v_shapeRows v_shapeColumns v_row v_column v_below v_face v_worn v_lastBend v_tape v_text v_names v_bends v_high v_to v_pileSize v_planLine v_planWay v_way1 v_bestWay v_order1 v_placeIn v_bodyKind v_trace v_shelf v_many v_items v_carried)) rfl (fun H locs hP hD hS => ?_)
  refine lv_aload_n hx hb dX9_seeks_21 rfl (lv_at hl 0 rfl) ?_
  refine lv_iconst (v := -1) hx hb dX9_seeks_22 (by decide) ?_
  refine mm_put C0 hP hD hS iw_X9 tyX9 tyX9_ok nmX9 0 rfl rfl 53 (by decide) fl_X9_367 rfl rfl rfl (Nat.le_of_ble_eq_true rfl) dX9_seeks_23 (w2 := (wd_X9 cI cL cS cH a v_keptMany v_done v_rowsOf v_columnsOf v_folded v_wronged v_tapeMany v_textMany v_base v_at v_ends v_fault v_opened v_bentMany v_bentWrong v_moreWorn v_planned v_allWrong v_allWorn v_z v_wishedField v_isFound v_bestWrong v_bestWorn v_bestMany x2 x3 x4 (0 : Int32) (-1 : Int32) v_isKept v_imageRows v_imageColumns v_imageFolded v_imageWronged v_bodies v_ran v_ownKind v_ownNumber v_limit v_changeWas v_changeIs v_shapeRows v_shapeColumns v_row v_column v_below v_face v_worn v_lastBend v_tape v_text v_names v_bends v_high v_to v_pileSize v_planLine v_planWay v_way1 v_bestWay v_order1 v_placeIn v_bodyKind v_trace v_shelf v_many v_items v_carried)) rfl (fun H locs hP hD hS => ?_)
  refine lv_aload_n hx hb dX9_seeks_26 rfl (lv_at hl 0 rfl) ?_
  refine lv_iload_n hx hb dX9_seeks_27 rfl (lv_at hl 1 rfl) ?_
  refine lv_iconst (v := 0) hx hb dX9_seeks_28 (by decide) ?_
  refine lv_iconst (v := 0) hx hb dX9_seeks_29 (by decide) ?_
  refine lv_iconst (v := 0) hx hb dX9_seeks_30 (by decide) ?_
  obtain ⟨w_1, w_2, w_3, w_4, hc_5, hf⟩ := mm_bd4s hf
  refine mm_callVF (q0 := 0) (ci := 9) (rest := []) C0 lk_X9_373 (ctX9_goesOrders (N := N) 9 (d - 1) (by omega) a _ _ _ _ _ _ _ _ _ _ _ _ _ _ _ _ _ _ _ _ _ _ _ _ _ _ _ _ _ _ _ _ _ _ _ _ _ _ _ _ _ _ _ _ _ _ _ _ _ _ _ _ _ _ _ _ _ _ _ _ _ _ _ _ _ _ _ _ _ _ _ _ _ _ _ _ _ hc_5) (by omega) rfl hl.1 rfl (mm_cat rfl) dX9_seeks_31 hP hD hA hS rfl rfl (fun H locs hP hD hS => ?_)
  refine W.eq (g2 := F0 m 34 ls []) rfl ?_
  apply mm_sub7 hf
  exact mm_vret C0 hP hD hS dX9_seeks_34

theorem dX9_orders_0 : decode cX9_orders 0 = .ok (.iload_n 1, 1) := by decide +kernel
theorem dX9_orders_1 : decode cX9_orders 1 = .ok (.invokestatic 343, 3) := by decide +kernel
theorem dX9_orders_4 : decode cX9_orders 4 = .ok (.ifCond .eq 8, 3) := by decide +kernel
theorem dX9_orders_7 : decode cX9_orders 7 = .ok (.iload_n 2, 1) := by decide +kernel
theorem dX9_orders_8 : decode cX9_orders 8 = .ok (.iconst (-1), 1) := by decide +kernel
theorem dX9_orders_9 : decode cX9_orders 9 = .ok (.if_icmp .ge 5, 3) := by decide +kernel
theorem dX9_orders_12 : decode cX9_orders 12 = .ok (.iconst (-1), 1) := by decide +kernel
theorem dX9_orders_13 : decode cX9_orders 13 = .ok (.ireturn, 1) := by decide +kernel
theorem dX9_orders_14 : decode cX9_orders 14 = .ok (.aload_n 0, 1) := by decide +kernel
theorem dX9_orders_15 : decode cX9_orders 15 = .ok (.iload_n 1, 1) := by decide +kernel
theorem dX9_orders_16 : decode cX9_orders 16 = .ok (.iconst 0, 1) := by decide +kernel
theorem dX9_orders_17 : decode cX9_orders 17 = .ok (.iconst 0, 1) := by decide +kernel
theorem dX9_orders_18 : decode cX9_orders 18 = .ok (.iload_n 2, 1) := by decide +kernel
theorem dX9_orders_19 : decode cX9_orders 19 = .ok (.invokevirtual 377, 3) := by decide +kernel
theorem dX9_orders_22 : decode cX9_orders 22 = .ok (.iload_n 2, 1) := by decide +kernel
theorem dX9_orders_23 : decode cX9_orders 23 = .ok (.iconst (-1), 1) := by decide +kernel
theorem dX9_orders_24 : decode cX9_orders 24 = .ok (.if_icmp .ne 10, 3) := by decide +kernel
theorem dX9_orders_27 : decode cX9_orders 27 = .ok (.aload_n 0, 1) := by decide +kernel
theorem dX9_orders_28 : decode cX9_orders 28 = .ok (.getfield 361, 3) := by decide +kernel
theorem dX9_orders_31 : decode cX9_orders 31 = .ok (.goto 7, 3) := by decide +kernel
theorem dX9_orders_34 : decode cX9_orders 34 = .ok (.aload_n 0, 1) := by decide +kernel
theorem dX9_orders_35 : decode cX9_orders 35 = .ok (.getfield 367, 3) := by decide +kernel
theorem dX9_orders_38 : decode cX9_orders 38 = .ok (.ireturn, 1) := by decide +kernel
def fX9_orders (N : Nat) (x1 : Int32) (x2 : Int32) (v_soughtBy : Int32) (v_sought : Int32) (v_soughtAt : Int32) (v_foundMany : Int32) (v_foundOrder : Int32) (v_order1 : List Int32) (v_placeIn : List Int32) : Option (Int32 × Int32 × Int32 × Int32 × Int32 × Int32 × List Int32 × List Int32) :=
    mm_bd1 (fX9_isStrip N x1) (fun (r_1 : Bool) =>
    if r_1 = false then
    (some ((-1 : Int32), v_soughtBy, v_sought, v_soughtAt, v_foundMany, v_foundOrder, v_order1, v_placeIn))
    else (if (-1 : Int32) ≤ x2 then
    (mm_bd7 (fX9_seeks N x1 (0 : Int32) (0 : Int32) x2 v_soughtBy v_sought v_soughtAt v_foundMany v_foundOrder v_order1 v_placeIn) (fun (w_5 : Int32) (w_6 : Int32) (w_7 : Int32) (w_8 : Int32) (w_9 : Int32) (w_10 : List Int32) (w_11 : List Int32) =>
    if x2 = (-1 : Int32) then
    (some (w_8, w_5, w_6, w_7, w_8, w_9, w_10, w_11))
    else (some (w_9, w_5, w_6, w_7, w_8, w_9, w_10, w_11))))
    else (some ((-1 : Int32), v_soughtBy, v_sought, v_soughtAt, v_foundMany, v_foundOrder, v_order1, v_placeIn))))

set_option maxHeartbeats 4000000 in
set_option maxRecDepth 100000 in
theorem ctX9_orders {l : Launch} {D : va_G} {cI cL cS cH : ClassId} {a : Nat → Nat} {x1 : Int32} {x2 : Int32} {v_keptMany : Int32} {v_done : Int32} {v_rowsOf : Int32} {v_columnsOf : Int32} {v_folded : Int32} {v_wronged : Int32} {v_tapeMany : Int32} {v_textMany : Int32} {v_base : Int32} {v_at : Int32} {v_ends : Int32} {v_fault : Int32} {v_opened : Int32} {v_bentMany : Int32} {v_bentWrong : Int32} {v_moreWorn : Int32} {v_planned : Int32} {v_allWrong : Int32} {v_allWorn : Int32} {v_z : Int32} {v_wishedField : Int32} {v_isFound : Bool} {v_bestWrong : Int32} {v_bestWorn : Int32} {v_bestMany : Int32} {v_soughtBy : Int32} {v_sought : Int32} {v_soughtAt : Int32} {v_foundMany : Int32} {v_foundOrder : Int32} {v_isKept : Bool} {v_imageRows : Int32} {v_imageColumns : Int32} {v_imageFolded : Int32} {v_imageWronged : Int32} {v_bodies : Int32} {v_ran : Int32} {v_ownKind : Int32} {v_ownNumber : Int32} {v_limit : List Int32} {v_changeWas : List Int32} {v_changeIs : List Int32} {v_shapeRows : List Int32} {v_shapeColumns : List Int32} {v_row : List Int32} {v_column : List Int32} {v_below : List Int32} {v_face : List Int32} {v_worn : List Int32} {v_lastBend : List Int32} {v_tape : List Int32} {v_text : List Int32} {v_names : List Int32} {v_bends : List Int32} {v_high : List Int32} {v_to : List Int32} {v_pileSize : List Int32} {v_planLine : List Int32} {v_planWay : List Int32} {v_way1 : List Int32} {v_bestWay : List Int32} {v_order1 : List Int32} {v_placeIn : List Int32} {v_bodyKind : List Int32} {v_trace : List Int32} {v_shelf : List Int32} {v_many : List Int32} {v_items : List Int64} {v_carried : List Int64} {r : Int32} {w_soughtBy : Int32} {w_sought : Int32} {w_soughtAt : Int32} {w_foundMany : Int32} {w_foundOrder : Int32} {w_order1 : List Int32} {w_placeIn : List Int32} {N d : Nat} (hd : 15 ≤ d) (hf : fX9_orders N x1 x2 v_soughtBy v_sought v_soughtAt v_foundMany v_foundOrder v_order1 v_placeIn = some (r, w_soughtBy, w_sought, w_soughtAt, w_foundMany, w_foundOrder, w_order1, w_placeIn)) : mm_Ct l yX9_orders cX9_orders 3 (some .int) d D (mm_T cI cL cS cH) [.ref (a 0), .int x1, .int x2] (wd_X9 cI cL cS cH a v_keptMany v_done v_rowsOf v_columnsOf v_folded v_wronged v_tapeMany v_textMany v_base v_at v_ends v_fault v_opened v_bentMany v_bentWrong v_moreWorn v_planned v_allWrong v_allWorn v_z v_wishedField v_isFound v_bestWrong v_bestWorn v_bestMany v_soughtBy v_sought v_soughtAt v_foundMany v_foundOrder v_isKept v_imageRows v_imageColumns v_imageFolded v_imageWronged v_bodies v_ran v_ownKind v_ownNumber v_limit v_changeWas v_changeIs v_shapeRows v_shapeColumns v_row v_column v_below v_face v_worn v_lastBend v_tape v_text v_names v_bends v_high v_to v_pileSize v_planLine v_planWay v_way1 v_bestWay v_order1 v_placeIn v_bodyKind v_trace v_shelf v_many v_items v_carried) (wd_X9 cI cL cS cH a v_keptMany v_done v_rowsOf v_columnsOf v_folded v_wronged v_tapeMany v_textMany v_base v_at v_ends v_fault v_opened v_bentMany v_bentWrong v_moreWorn v_planned v_allWrong v_allWorn v_z v_wishedField v_isFound v_bestWrong v_bestWorn v_bestMany w_soughtBy w_sought w_soughtAt w_foundMany w_foundOrder v_isKept v_imageRows v_imageColumns v_imageFolded v_imageWronged v_bodies v_ran v_ownKind v_ownNumber v_limit v_changeWas v_changeIs v_shapeRows v_shapeColumns v_row v_column v_below v_face v_worn v_lastBend v_tape v_text v_names v_bends v_high v_to v_pileSize v_planLine v_planWay v_way1 v_bestWay w_order1 w_placeIn v_bodyKind v_trace v_shelf v_many v_items v_carried) (some (.int r)) := by
  refine mm_of (by decide) (Nat.le_of_ble_eq_true rfl) ?_
  intro p e s m args below meth c A H locs ls C0 hP hD hA hS hl
  have C0 : mm_Cx p s m args meth c RX9 cX9_orders 3 (some .int) D (mm_T cI cL cS cH) A := C0
  obtain ⟨hx, hb, hml, hown, hts, hr, hlocks, hK, hSt⟩ := id C0
  have hl : lv_has ls 3 [(0, .ref (a 0)), (1, .int x1), (2, .int x2)] := hl
  unfold fX9_orders at hf
  refine lv_iload_n hx hb dX9_orders_0 rfl (lv_at hl 1 rfl) ?_
  obtain ⟨r_1, hc_2, hf⟩ := mm_bd1s hf
  refine mm_callS0 (rest := []) C0 lk_X9_343 (ctX9_isStrip (d := d - 1) (by omega) hc_2) (by omega) rfl hl.1 rfl (mm_cat rfl) dX9_orders_1 hP hD hA hS (fun H locs hP hS => ?_)
  refine W.eq (g2 := F0 m 4 ls [.int (mm_b r_1)]) rfl ?_
  refine lv_if_eq (tgt := 12) hx hb dX9_orders_4 (by decide) (fun c_3 => ?_) (fun c_3 => ?_)
  · have hf := mm_ip hf (mm_b0 c_3)
    refine lv_iconst (v := -1) hx hb dX9_orders_12 (by decide) ?_
    apply mm_sub8 hf
    exact mm_iret C0 hP hD hS dX9_orders_13
  · have hf := mm_in hf (mm_b1 c_3)
    refine lv_iload_n hx hb dX9_orders_7 rfl (lv_at hl 2 rfl) ?_
    refine lv_iconst (v := -1) hx hb dX9_orders_8 (by decide) ?_
    refine lv_icmp_ge (tgt := 14) hx hb dX9_orders_9 (by decide) (fun c_4 => ?_) (fun c_4 => ?_)
    · have hf := mm_ip hf c_4
      refine lv_aload_n hx hb dX9_orders_14 rfl (lv_at hl 0 rfl) ?_
      refine lv_iload_n hx hb dX9_orders_15 rfl (lv_at hl 1 rfl) ?_
      refine lv_iconst (v := 0) hx hb dX9_orders_16 (by decide) ?_
      refine lv_iconst (v := 0) hx hb dX9_orders_17 (by decide) ?_
      refine lv_iload_n hx hb dX9_orders_18 rfl (lv_at hl 2 rfl) ?_
      refine mm_ct7 hf (fun w_5 w_6 w_7 w_8 w_9 w_10 w_11 hc_12 hf => ?_)
      refine mm_callVF (q0 := 0) (ci := 9) (rest := []) C0 lk_X9_377 (ctX9_seeks (a := a) (d := d - 1) (by omega) hc_12) (by omega) rfl hl.1 rfl (mm_cat rfl) dX9_orders_19 hP hD hA hS rfl rfl (fun H locs hP hD hS => ?_)
      refine W.eq (g2 := F0 m 22 ls []) rfl ?_
      refine lv_iload_n hx hb dX9_orders_22 rfl (lv_at hl 2 rfl) ?_
      refine lv_iconst (v := -1) hx hb dX9_orders_23 (by decide) ?_
      refine lv_icmp_ne (tgt := 34) hx hb dX9_orders_24 (by decide) (fun c_13 => ?_) (fun c_13 => ?_)
      · have hf := mm_in hf c_13
        refine lv_aload_n hx hb dX9_orders_34 rfl (lv_at hl 0 rfl) ?_
        refine mm_get C0 hP iw_X9 0 rfl rfl 53 (by decide) fl_X9_367 rfl dX9_orders_35 ?_
        apply mm_sub8 hf
        exact mm_iret C0 hP hD hS dX9_orders_38
      · have hf := mm_ip hf c_13
        refine lv_aload_n hx hb dX9_orders_27 rfl (lv_at hl 0 rfl) ?_
        refine mm_get C0 hP iw_X9 0 rfl rfl 52 (by decide) fl_X9_361 rfl dX9_orders_28 ?_
        refine lv_goto (tgt := 38) hx hb dX9_orders_31 (by decide) ?_
        apply mm_sub8 hf
        exact mm_iret C0 hP hD hS dX9_orders_38
    · have hf := mm_in hf c_4
      refine lv_iconst (v := -1) hx hb dX9_orders_12 (by decide) ?_
      apply mm_sub8 hf
      exact mm_iret C0 hP hD hS dX9_orders_13

theorem dX9_by_0 : decode cX9_by 0 = .ok (.iload_n 1, 1) := by decide +kernel
theorem dX9_by_1 : decode cX9_by 1 = .ok (.invokestatic 343, 3) := by decide +kernel
theorem dX9_by_4 : decode cX9_by 4 = .ok (.ifCond .eq 30, 3) := by decide +kernel
theorem dX9_by_7 : decode cX9_by 7 = .ok (.iload_n 2, 1) := by decide +kernel
theorem dX9_by_8 : decode cX9_by 8 = .ok (.i2l, 1) := by decide +kernel
theorem dX9_by_9 : decode cX9_by 9 = .ok (.lconst 0, 1) := by decide +kernel
theorem dX9_by_10 : decode cX9_by 10 = .ok (.iconst 1, 1) := by decide +kernel
theorem dX9_by_11 : decode cX9_by 11 = .ok (.iload_n 1, 1) := by decide +kernel
theorem dX9_by_12 : decode cX9_by 12 = .ok (.iconst 1, 1) := by decide +kernel
theorem dX9_by_13 : decode cX9_by 13 = .ok (.isub, 1) := by decide +kernel
theorem dX9_by_14 : decode cX9_by 14 = .ok (.ishl, 1) := by decide +kernel
theorem dX9_by_15 : decode cX9_by 15 = .ok (.iconst 1, 1) := by decide +kernel
theorem dX9_by_16 : decode cX9_by 16 = .ok (.isub, 1) := by decide +kernel
theorem dX9_by_17 : decode cX9_by 17 = .ok (.i2l, 1) := by decide +kernel
theorem dX9_by_18 : decode cX9_by 18 = .ok (.invokestatic 111, 3) := by decide +kernel
theorem dX9_by_21 : decode cX9_by 21 = .ok (.ifCond .eq 13, 3) := by decide +kernel
theorem dX9_by_24 : decode cX9_by 24 = .ok (.iload_n 3, 1) := by decide +kernel
theorem dX9_by_25 : decode cX9_by 25 = .ok (.i2l, 1) := by decide +kernel
theorem dX9_by_26 : decode cX9_by 26 = .ok (.lconst 0, 1) := by decide +kernel
theorem dX9_by_27 : decode cX9_by 27 = .ok (.lconst 1, 1) := by decide +kernel
theorem dX9_by_28 : decode cX9_by 28 = .ok (.invokestatic 111, 3) := by decide +kernel
theorem dX9_by_31 : decode cX9_by 31 = .ok (.ifCond .ne 5, 3) := by decide +kernel
theorem dX9_by_34 : decode cX9_by 34 = .ok (.iconst (-1), 1) := by decide +kernel
theorem dX9_by_35 : decode cX9_by 35 = .ok (.ireturn, 1) := by decide +kernel
theorem dX9_by_36 : decode cX9_by 36 = .ok (.aload_n 0, 1) := by decide +kernel
theorem dX9_by_37 : decode cX9_by 37 = .ok (.iload_n 1, 1) := by decide +kernel
theorem dX9_by_38 : decode cX9_by 38 = .ok (.iconst 1, 1) := by decide +kernel
theorem dX9_by_39 : decode cX9_by 39 = .ok (.iload_n 2, 1) := by decide +kernel
theorem dX9_by_40 : decode cX9_by 40 = .ok (.iconst 0, 1) := by decide +kernel
theorem dX9_by_41 : decode cX9_by 41 = .ok (.invokevirtual 377, 3) := by decide +kernel
theorem dX9_by_44 : decode cX9_by 44 = .ok (.iload_n 3, 1) := by decide +kernel
theorem dX9_by_45 : decode cX9_by 45 = .ok (.ifCond .ne 10, 3) := by decide +kernel
theorem dX9_by_48 : decode cX9_by 48 = .ok (.aload_n 0, 1) := by decide +kernel
theorem dX9_by_49 : decode cX9_by 49 = .ok (.getfield 361, 3) := by decide +kernel
theorem dX9_by_52 : decode cX9_by 52 = .ok (.goto 19, 3) := by decide +kernel
theorem dX9_by_55 : decode cX9_by 55 = .ok (.aload_n 0, 1) := by decide +kernel
theorem dX9_by_56 : decode cX9_by 56 = .ok (.getfield 361, 3) := by decide +kernel
theorem dX9_by_59 : decode cX9_by 59 = .ok (.ifCond .ne 8, 3) := by decide +kernel
theorem dX9_by_62 : decode cX9_by 62 = .ok (.bipush (-2), 2) := by decide +kernel
theorem dX9_by_64 : decode cX9_by 64 = .ok (.goto 7, 3) := by decide +kernel
theorem dX9_by_67 : decode cX9_by 67 = .ok (.aload_n 0, 1) := by decide +kernel
theorem dX9_by_68 : decode cX9_by 68 = .ok (.getfield 367, 3) := by decide +kernel
theorem dX9_by_71 : decode cX9_by 71 = .ok (.ireturn, 1) := by decide +kernel
def fX9_by (N : Nat) (x1 : Int32) (x2 : Int32) (x3 : Int32) (v_soughtBy : Int32) (v_sought : Int32) (v_soughtAt : Int32) (v_foundMany : Int32) (v_foundOrder : Int32) (v_order1 : List Int32) (v_placeIn : List Int32) : Option (Int32 × Int32 × Int32 × Int32 × Int32 × Int32 × List Int32 × List Int32) :=
    mm_bd1 (fX9_isStrip N x1) (fun (r_1 : Bool) =>
    if r_1 = false then
    (some ((-1 : Int32), v_soughtBy, v_sought, v_soughtAt, v_foundMany, v_foundOrder, v_order1, v_placeIn))
    else (mm_bd1 (fX9_within N ((x2).toInt64) (0 : Int64) ((((1 : Int32) <<< ((x1 - (1 : Int32)) &&& 31)) - (1 : Int32)).toInt64)) (fun (r_4 : Bool) =>
    if r_4 = false then
    (some ((-1 : Int32), v_soughtBy, v_sought, v_soughtAt, v_foundMany, v_foundOrder, v_order1, v_placeIn))
    else (mm_bd1 (fX9_within N ((x3).toInt64) (0 : Int64) (1 : Int64)) (fun (r_7 : Bool) =>
    if r_7 = false then
    (some ((-1 : Int32), v_soughtBy, v_sought, v_soughtAt, v_foundMany, v_foundOrder, v_order1, v_placeIn))
    else (mm_bd7 (fX9_seeks N x1 (1 : Int32) x2 (0 : Int32) v_soughtBy v_sought v_soughtAt v_foundMany v_foundOrder v_order1 v_placeIn) (fun (w_10 : Int32) (w_11 : Int32) (w_12 : Int32) (w_13 : Int32) (w_14 : Int32) (w_15 : List Int32) (w_16 : List Int32) =>
    if x3 = 0 then
    (some (w_13, w_10, w_11, w_12, w_13, w_14, w_15, w_16))
    else (if w_13 = 0 then
    (some ((-2 : Int32), w_10, w_11, w_12, w_13, w_14, w_15, w_16))
    else (some (w_14, w_10, w_11, w_12, w_13, w_14, w_15, w_16))))))))))

set_option maxHeartbeats 4000000 in
set_option maxRecDepth 100000 in
theorem ctX9_by {l : Launch} {D : va_G} {cI cL cS cH : ClassId} {a : Nat → Nat} {x1 : Int32} {x2 : Int32} {x3 : Int32} {v_keptMany : Int32} {v_done : Int32} {v_rowsOf : Int32} {v_columnsOf : Int32} {v_folded : Int32} {v_wronged : Int32} {v_tapeMany : Int32} {v_textMany : Int32} {v_base : Int32} {v_at : Int32} {v_ends : Int32} {v_fault : Int32} {v_opened : Int32} {v_bentMany : Int32} {v_bentWrong : Int32} {v_moreWorn : Int32} {v_planned : Int32} {v_allWrong : Int32} {v_allWorn : Int32} {v_z : Int32} {v_wishedField : Int32} {v_isFound : Bool} {v_bestWrong : Int32} {v_bestWorn : Int32} {v_bestMany : Int32} {v_soughtBy : Int32} {v_sought : Int32} {v_soughtAt : Int32} {v_foundMany : Int32} {v_foundOrder : Int32} {v_isKept : Bool} {v_imageRows : Int32} {v_imageColumns : Int32} {v_imageFolded : Int32} {v_imageWronged : Int32} {v_bodies : Int32} {v_ran : Int32} {v_ownKind : Int32} {v_ownNumber : Int32} {v_limit : List Int32} {v_changeWas : List Int32} {v_changeIs : List Int32} {v_shapeRows : List Int32} {v_shapeColumns : List Int32} {v_row : List Int32} {v_column : List Int32} {v_below : List Int32} {v_face : List Int32} {v_worn : List Int32} {v_lastBend : List Int32} {v_tape : List Int32} {v_text : List Int32} {v_names : List Int32} {v_bends : List Int32} {v_high : List Int32} {v_to : List Int32} {v_pileSize : List Int32} {v_planLine : List Int32} {v_planWay : List Int32} {v_way1 : List Int32} {v_bestWay : List Int32} {v_order1 : List Int32} {v_placeIn : List Int32} {v_bodyKind : List Int32} {v_trace : List Int32} {v_shelf : List Int32} {v_many : List Int32} {v_items : List Int64} {v_carried : List Int64} {r : Int32} {w_soughtBy : Int32} {w_sought : Int32} {w_soughtAt : Int32} {w_foundMany : Int32} {w_foundOrder : Int32} {w_order1 : List Int32} {w_placeIn : List Int32} {N d : Nat} (hd : 15 ≤ d) (hf : fX9_by N x1 x2 x3 v_soughtBy v_sought v_soughtAt v_foundMany v_foundOrder v_order1 v_placeIn = some (r, w_soughtBy, w_sought, w_soughtAt, w_foundMany, w_foundOrder, w_order1, w_placeIn)) : mm_Ct l yX9_by cX9_by 4 (some .int) d D (mm_T cI cL cS cH) [.ref (a 0), .int x1, .int x2, .int x3] (wd_X9 cI cL cS cH a v_keptMany v_done v_rowsOf v_columnsOf v_folded v_wronged v_tapeMany v_textMany v_base v_at v_ends v_fault v_opened v_bentMany v_bentWrong v_moreWorn v_planned v_allWrong v_allWorn v_z v_wishedField v_isFound v_bestWrong v_bestWorn v_bestMany v_soughtBy v_sought v_soughtAt v_foundMany v_foundOrder v_isKept v_imageRows v_imageColumns v_imageFolded v_imageWronged v_bodies v_ran v_ownKind v_ownNumber v_limit v_changeWas v_changeIs v_shapeRows v_shapeColumns v_row v_column v_below v_face v_worn v_lastBend v_tape v_text v_names v_bends v_high v_to v_pileSize v_planLine v_planWay v_way1 v_bestWay v_order1 v_placeIn v_bodyKind v_trace v_shelf v_many v_items v_carried) (wd_X9 cI cL cS cH a v_keptMany v_done v_rowsOf v_columnsOf v_folded v_wronged v_tapeMany v_textMany v_base v_at v_ends v_fault v_opened v_bentMany v_bentWrong v_moreWorn v_planned v_allWrong v_allWorn v_z v_wishedField v_isFound v_bestWrong v_bestWorn v_bestMany w_soughtBy w_sought w_soughtAt w_foundMany w_foundOrder v_isKept v_imageRows v_imageColumns v_imageFolded v_imageWronged v_bodies v_ran v_ownKind v_ownNumber v_limit v_changeWas v_changeIs v_shapeRows v_shapeColumns v_row v_column v_below v_face v_worn v_lastBend v_tape v_text v_names v_bends v_high v_to v_pileSize v_planLine v_planWay v_way1 v_bestWay w_order1 w_placeIn v_bodyKind v_trace v_shelf v_many v_items v_carried) (some (.int r)) := by
  refine mm_of (by decide) (Nat.le_of_ble_eq_true rfl) ?_
  intro p e s m args below meth c A H locs ls C0 hP hD hA hS hl
  have C0 : mm_Cx p s m args meth c RX9 cX9_by 4 (some .int) D (mm_T cI cL cS cH) A := C0
  obtain ⟨hx, hb, hml, hown, hts, hr, hlocks, hK, hSt⟩ := id C0
  have hl : lv_has ls 4 [(0, .ref (a 0)), (1, .int x1), (2, .int x2), (3, .int x3)] := hl
  unfold fX9_by at hf
  refine lv_iload_n hx hb dX9_by_0 rfl (lv_at hl 1 rfl) ?_
  obtain ⟨r_1, hc_2, hf⟩ := mm_bd1s hf
  refine mm_callS0 (rest := []) C0 lk_X9_343 (ctX9_isStrip (d := d - 1) (by omega) hc_2) (by omega) rfl hl.1 rfl (mm_cat rfl) dX9_by_1 hP hD hA hS (fun H locs hP hS => ?_)
  refine W.eq (g2 := F0 m 4 ls [.int (mm_b r_1)]) rfl ?_
  refine lv_if_eq (tgt := 34) hx hb dX9_by_4 (by decide) (fun c_3 => ?_) (fun c_3 => ?_)
  · have hf := mm_ip hf (mm_b0 c_3)
    refine lv_iconst (v := -1) hx hb dX9_by_34 (by decide) ?_
    apply mm_sub8 hf
    exact mm_iret C0 hP hD hS dX9_by_35
  · have hf := mm_in hf (mm_b1 c_3)
    refine lv_iload_n hx hb dX9_by_7 rfl (lv_at hl 2 rfl) ?_
    refine lv_i2l hx hb dX9_by_8 rfl ?_
    refine lv_lconst (v := 0) hx hb dX9_by_9 (by decide) ?_
    refine lv_iconst (v := 1) hx hb dX9_by_10 (by decide) ?_
    refine lv_iload_n hx hb dX9_by_11 rfl (lv_at hl 1 rfl) ?_
    refine lv_iconst (v := 1) hx hb dX9_by_12 (by decide) ?_
    refine lv_isub hx hb dX9_by_13 ?_
    refine lv_ishl hx hb dX9_by_14 ?_
    refine lv_iconst (v := 1) hx hb dX9_by_15 (by decide) ?_
    refine lv_isub hx hb dX9_by_16 ?_
    refine lv_i2l hx hb dX9_by_17 rfl ?_
    obtain ⟨r_4, hc_5, hf⟩ := mm_bd1s hf
    refine mm_callS0 (rest := []) C0 lk_X9_111 (ctX9_within (d := d - 1) (by omega) hc_5) (by omega) rfl hl.1 rfl (mm_cat rfl) dX9_by_18 hP hD hA hS (fun H locs hP hS => ?_)
    refine W.eq (g2 := F0 m 21 ls [.int (mm_b r_4)]) rfl ?_
    refine lv_if_eq (tgt := 34) hx hb dX9_by_21 (by decide) (fun c_6 => ?_) (fun c_6 => ?_)
    · have hf := mm_ip hf (mm_b0 c_6)
      refine lv_iconst (v := -1) hx hb dX9_by_34 (by decide) ?_
      apply mm_sub8 hf
      exact mm_iret C0 hP hD hS dX9_by_35
    · have hf := mm_in hf (mm_b1 c_6)
      refine lv_iload_n hx hb dX9_by_24 rfl (lv_at hl 3 rfl) ?_
      refine lv_i2l hx hb dX9_by_25 rfl ?_
      refine lv_lconst (v := 0) hx hb dX9_by_26 (by decide) ?_
      refine lv_lconst (v := 1) hx hb dX9_by_27 (by decide) ?_
      obtain ⟨r_7, hc_8, hf⟩ := mm_bd1s hf
      refine mm_callS0 (rest := []) C0 lk_X9_111 (ctX9_within (d := d - 1) (by omega) hc_8) (by omega) rfl hl.1 rfl (mm_cat rfl) dX9_by_28 hP hD hA hS (fun H locs hP hS => ?_)
      refine W.eq (g2 := F0 m 31 ls [.int (mm_b r_7)]) rfl ?_
      refine lv_if_ne (tgt := 36) hx hb dX9_by_31 (by decide) (fun c_9 => ?_) (fun c_9 => ?_)
      · have hf := mm_in hf (mm_b1 c_9)
        refine lv_aload_n hx hb dX9_by_36 rfl (lv_at hl 0 rfl) ?_
        refine lv_iload_n hx hb dX9_by_37 rfl (lv_at hl 1 rfl) ?_
        refine lv_iconst (v := 1) hx hb dX9_by_38 (by decide) ?_
        refine lv_iload_n hx hb dX9_by_39 rfl (lv_at hl 2 rfl) ?_
        refine lv_iconst (v := 0) hx hb dX9_by_40 (by decide) ?_
        refine mm_ct7 hf (fun w_10 w_11 w_12 w_13 w_14 w_15 w_16 hc_17 hf => ?_)
        refine mm_callVF (q0 := 0) (ci := 9) (rest := []) C0 lk_X9_377 (ctX9_seeks (a := a) (d := d - 1) (by omega) hc_17) (by omega) rfl hl.1 rfl (mm_cat rfl) dX9_by_41 hP hD hA hS rfl rfl (fun H locs hP hD hS => ?_)
        refine W.eq (g2 := F0 m 44 ls []) rfl ?_
        refine lv_iload_n hx hb dX9_by_44 rfl (lv_at hl 3 rfl) ?_
        refine lv_if_ne (tgt := 55) hx hb dX9_by_45 (by decide) (fun c_18 => ?_) (fun c_18 => ?_)
        · have hf := mm_in hf c_18
          refine lv_aload_n hx hb dX9_by_55 rfl (lv_at hl 0 rfl) ?_
          refine mm_get C0 hP iw_X9 0 rfl rfl 52 (by decide) fl_X9_361 rfl dX9_by_56 ?_
          refine lv_if_ne (tgt := 67) hx hb dX9_by_59 (by decide) (fun c_19 => ?_) (fun c_19 => ?_)
          · have hf := mm_in hf c_19
            refine lv_aload_n hx hb dX9_by_67 rfl (lv_at hl 0 rfl) ?_
            refine mm_get C0 hP iw_X9 0 rfl rfl 53 (by decide) fl_X9_367 rfl dX9_by_68 ?_
            apply mm_sub8 hf
            exact mm_iret C0 hP hD hS dX9_by_71
          · have hf := mm_ip hf c_19
            refine lv_bipush (v := -2) hx hb dX9_by_62 (by decide) ?_
            refine lv_goto (tgt := 71) hx hb dX9_by_64 (by decide) ?_
            apply mm_sub8 hf
            exact mm_iret C0 hP hD hS dX9_by_71
        · have hf := mm_ip hf c_18
          refine lv_aload_n hx hb dX9_by_48 rfl (lv_at hl 0 rfl) ?_
          refine mm_get C0 hP iw_X9 0 rfl rfl 52 (by decide) fl_X9_361 rfl dX9_by_49 ?_
          refine lv_goto (tgt := 71) hx hb dX9_by_52 (by decide) ?_
          apply mm_sub8 hf
          exact mm_iret C0 hP hD hS dX9_by_71
      · have hf := mm_ip hf (mm_b0 c_9)
        refine lv_iconst (v := -1) hx hb dX9_by_34 (by decide) ?_
        apply mm_sub8 hf
        exact mm_iret C0 hP hD hS dX9_by_35

theorem dX9_with_0 : decode cX9_with 0 = .ok (.iload_n 1, 1) := by decide +kernel
theorem dX9_with_1 : decode cX9_with 1 = .ok (.invokestatic 343, 3) := by decide +kernel
theorem dX9_with_4 : decode cX9_with 4 = .ok (.ifCond .eq 16, 3) := by decide +kernel
theorem dX9_with_7 : decode cX9_with 7 = .ok (.iload_n 2, 1) := by decide +kernel
theorem dX9_with_8 : decode cX9_with 8 = .ok (.i2l, 1) := by decide +kernel
theorem dX9_with_9 : decode cX9_with 9 = .ok (.lconst 0, 1) := by decide +kernel
theorem dX9_with_10 : decode cX9_with 10 = .ok (.iload_n 1, 1) := by decide +kernel
theorem dX9_with_11 : decode cX9_with 11 = .ok (.iconst 1, 1) := by decide +kernel
theorem dX9_with_12 : decode cX9_with 12 = .ok (.isub, 1) := by decide +kernel
theorem dX9_with_13 : decode cX9_with 13 = .ok (.i2l, 1) := by decide +kernel
theorem dX9_with_14 : decode cX9_with 14 = .ok (.invokestatic 111, 3) := by decide +kernel
theorem dX9_with_17 : decode cX9_with 17 = .ok (.ifCond .ne 5, 3) := by decide +kernel
theorem dX9_with_20 : decode cX9_with 20 = .ok (.iconst (-1), 1) := by decide +kernel
theorem dX9_with_21 : decode cX9_with 21 = .ok (.ireturn, 1) := by decide +kernel
theorem dX9_with_22 : decode cX9_with 22 = .ok (.aload_n 0, 1) := by decide +kernel
theorem dX9_with_23 : decode cX9_with 23 = .ok (.iload_n 1, 1) := by decide +kernel
theorem dX9_with_24 : decode cX9_with 24 = .ok (.iconst 2, 1) := by decide +kernel
theorem dX9_with_25 : decode cX9_with 25 = .ok (.iload_n 2, 1) := by decide +kernel
theorem dX9_with_26 : decode cX9_with 26 = .ok (.iconst 0, 1) := by decide +kernel
theorem dX9_with_27 : decode cX9_with 27 = .ok (.invokevirtual 377, 3) := by decide +kernel
theorem dX9_with_30 : decode cX9_with 30 = .ok (.aload_n 0, 1) := by decide +kernel
theorem dX9_with_31 : decode cX9_with 31 = .ok (.getfield 361, 3) := by decide +kernel
theorem dX9_with_34 : decode cX9_with 34 = .ok (.ireturn, 1) := by decide +kernel
def fX9_with (N : Nat) (x1 : Int32) (x2 : Int32) (v_soughtBy : Int32) (v_sought : Int32) (v_soughtAt : Int32) (v_foundMany : Int32) (v_foundOrder : Int32) (v_order1 : List Int32) (v_placeIn : List Int32) : Option (Int32 × Int32 × Int32 × Int32 × Int32 × Int32 × List Int32 × List Int32) :=
    mm_bd1 (fX9_isStrip N x1) (fun (r_1 : Bool) =>
    if r_1 = false then
    (some ((-1 : Int32), v_soughtBy, v_sought, v_soughtAt, v_foundMany, v_foundOrder, v_order1, v_placeIn))
    else (mm_bd1 (fX9_within N ((x2).toInt64) (0 : Int64) ((x1 - (1 : Int32)).toInt64)) (fun (r_4 : Bool) =>
    if r_4 = false then
    (some ((-1 : Int32), v_soughtBy, v_sought, v_soughtAt, v_foundMany, v_foundOrder, v_order1, v_placeIn))
    else (mm_bd7 (fX9_seeks N x1 (2 : Int32) x2 (0 : Int32) v_soughtBy v_sought v_soughtAt v_foundMany v_foundOrder v_order1 v_placeIn) (fun (w_7 : Int32) (w_8 : Int32) (w_9 : Int32) (w_10 : Int32) (w_11 : Int32) (w_12 : List Int32) (w_13 : List Int32) =>
    some (w_10, w_7, w_8, w_9, w_10, w_11, w_12, w_13))))))

set_option maxHeartbeats 4000000 in
set_option maxRecDepth 100000 in
theorem ctX9_with {l : Launch} {D : va_G} {cI cL cS cH : ClassId} {a : Nat → Nat} {x1 : Int32} {x2 : Int32} {v_keptMany : Int32} {v_done : Int32} {v_rowsOf : Int32} {v_columnsOf : Int32} {v_folded : Int32} {v_wronged : Int32} {v_tapeMany : Int32} {v_textMany : Int32} {v_base : Int32} {v_at : Int32} {v_ends : Int32} {v_fault : Int32} {v_opened : Int32} {v_bentMany : Int32} {v_bentWrong : Int32} {v_moreWorn : Int32} {v_planned : Int32} {v_allWrong : Int32} {v_allWorn : Int32} {v_z : Int32} {v_wishedField : Int32} {v_isFound : Bool} {v_bestWrong : Int32} {v_bestWorn : Int32} {v_bestMany : Int32} {v_soughtBy : Int32} {v_sought : Int32} {v_soughtAt : Int32} {v_foundMany : Int32} {v_foundOrder : Int32} {v_isKept : Bool} {v_imageRows : Int32} {v_imageColumns : Int32} {v_imageFolded : Int32} {v_imageWronged : Int32} {v_bodies : Int32} {v_ran : Int32} {v_ownKind : Int32} {v_ownNumber : Int32} {v_limit : List Int32} {v_changeWas : List Int32} {v_changeIs : List Int32} {v_shapeRows : List Int32} {v_shapeColumns : List Int32} {v_row : List Int32} {v_column : List Int32} {v_below : List Int32} {v_face : List Int32} {v_worn : List Int32} {v_lastBend : List Int32} {v_tape : List Int32} {v_text : List Int32} {v_names : List Int32} {v_bends : List Int32} {v_high : List Int32} {v_to : List Int32} {v_pileSize : List Int32} {v_planLine : List Int32} {v_planWay : List Int32} {v_way1 : List Int32} {v_bestWay : List Int32} {v_order1 : List Int32} {v_placeIn : List Int32} {v_bodyKind : List Int32} {v_trace : List Int32} {v_shelf : List Int32} {v_many : List Int32} {v_items : List Int64} {v_carried : List Int64} {r : Int32} {w_soughtBy : Int32} {w_sought : Int32} {w_soughtAt : Int32} {w_foundMany : Int32} {w_foundOrder : Int32} {w_order1 : List Int32} {w_placeIn : List Int32} {N d : Nat} (hd : 15 ≤ d) (hf : fX9_with N x1 x2 v_soughtBy v_sought v_soughtAt v_foundMany v_foundOrder v_order1 v_placeIn = some (r, w_soughtBy, w_sought, w_soughtAt, w_foundMany, w_foundOrder, w_order1, w_placeIn)) : mm_Ct l yX9_with cX9_with 3 (some .int) d D (mm_T cI cL cS cH) [.ref (a 0), .int x1, .int x2] (wd_X9 cI cL cS cH a v_keptMany v_done v_rowsOf v_columnsOf v_folded v_wronged v_tapeMany v_textMany v_base v_at v_ends v_fault v_opened v_bentMany v_bentWrong v_moreWorn v_planned v_allWrong v_allWorn v_z v_wishedField v_isFound v_bestWrong v_bestWorn v_bestMany v_soughtBy v_sought v_soughtAt v_foundMany v_foundOrder v_isKept v_imageRows v_imageColumns v_imageFolded v_imageWronged v_bodies v_ran v_ownKind v_ownNumber v_limit v_changeWas v_changeIs v_shapeRows v_shapeColumns v_row v_column v_below v_face v_worn v_lastBend v_tape v_text v_names v_bends v_high v_to v_pileSize v_planLine v_planWay v_way1 v_bestWay v_order1 v_placeIn v_bodyKind v_trace v_shelf v_many v_items v_carried) (wd_X9 cI cL cS cH a v_keptMany v_done v_rowsOf v_columnsOf v_folded v_wronged v_tapeMany v_textMany v_base v_at v_ends v_fault v_opened v_bentMany v_bentWrong v_moreWorn v_planned v_allWrong v_allWorn v_z v_wishedField v_isFound v_bestWrong v_bestWorn v_bestMany w_soughtBy w_sought w_soughtAt w_foundMany w_foundOrder v_isKept v_imageRows v_imageColumns v_imageFolded v_imageWronged v_bodies v_ran v_ownKind v_ownNumber v_limit v_changeWas v_changeIs v_shapeRows v_shapeColumns v_row v_column v_below v_face v_worn v_lastBend v_tape v_text v_names v_bends v_high v_to v_pileSize v_planLine v_planWay v_way1 v_bestWay w_order1 w_placeIn v_bodyKind v_trace v_shelf v_many v_items v_carried) (some (.int r)) := by
  refine mm_of (by decide) (Nat.le_of_ble_eq_true rfl) ?_
  intro p e s m args below meth c A H locs ls C0 hP hD hA hS hl
  have C0 : mm_Cx p s m args meth c RX9 cX9_with 3 (some .int) D (mm_T cI cL cS cH) A := C0
  obtain ⟨hx, hb, hml, hown, hts, hr, hlocks, hK, hSt⟩ := id C0
  have hl : lv_has ls 3 [(0, .ref (a 0)), (1, .int x1), (2, .int x2)] := hl
  unfold fX9_with at hf
  refine lv_iload_n hx hb dX9_with_0 rfl (lv_at hl 1 rfl) ?_
  obtain ⟨r_1, hc_2, hf⟩ := mm_bd1s hf
  refine mm_callS0 (rest := []) C0 lk_X9_343 (ctX9_isStrip (d := d - 1) (by omega) hc_2) (by omega) rfl hl.1 rfl (mm_cat rfl) dX9_with_1 hP hD hA hS (fun H locs hP hS => ?_)
  refine W.eq (g2 := F0 m 4 ls [.int (mm_b r_1)]) rfl ?_
  refine lv_if_eq (tgt := 20) hx hb dX9_with_4 (by decide) (fun c_3 => ?_) (fun c_3 => ?_)
  · have hf := mm_ip hf (mm_b0 c_3)
    refine lv_iconst (v := -1) hx hb dX9_with_20 (by decide) ?_
    apply mm_sub8 hf
    exact mm_iret C0 hP hD hS dX9_with_21
  · have hf := mm_in hf (mm_b1 c_3)
    refine lv_iload_n hx hb dX9_with_7 rfl (lv_at hl 2 rfl) ?_
    refine lv_i2l hx hb dX9_with_8 rfl ?_
    refine lv_lconst (v := 0) hx hb dX9_with_9 (by decide) ?_
    refine lv_iload_n hx hb dX9_with_10 rfl (lv_at hl 1 rfl) ?_
    refine lv_iconst (v := 1) hx hb dX9_with_11 (by decide) ?_
    refine lv_isub hx hb dX9_with_12 ?_
    refine lv_i2l hx hb dX9_with_13 rfl ?_
    obtain ⟨r_4, hc_5, hf⟩ := mm_bd1s hf
    refine mm_callS0 (rest := []) C0 lk_X9_111 (ctX9_within (d := d - 1) (by omega) hc_5) (by omega) rfl hl.1 rfl (mm_cat rfl) dX9_with_14 hP hD hA hS (fun H locs hP hS => ?_)
    refine W.eq (g2 := F0 m 17 ls [.int (mm_b r_4)]) rfl ?_
    refine lv_if_ne (tgt := 22) hx hb dX9_with_17 (by decide) (fun c_6 => ?_) (fun c_6 => ?_)
    · have hf := mm_in hf (mm_b1 c_6)
      refine lv_aload_n hx hb dX9_with_22 rfl (lv_at hl 0 rfl) ?_
      refine lv_iload_n hx hb dX9_with_23 rfl (lv_at hl 1 rfl) ?_
      refine lv_iconst (v := 2) hx hb dX9_with_24 (by decide) ?_
      refine lv_iload_n hx hb dX9_with_25 rfl (lv_at hl 2 rfl) ?_
      refine lv_iconst (v := 0) hx hb dX9_with_26 (by decide) ?_
      refine mm_ct7 hf (fun w_7 w_8 w_9 w_10 w_11 w_12 w_13 hc_14 hf => ?_)
      refine mm_callVF (q0 := 0) (ci := 9) (rest := []) C0 lk_X9_377 (ctX9_seeks (a := a) (d := d - 1) (by omega) hc_14) (by omega) rfl hl.1 rfl (mm_cat rfl) dX9_with_27 hP hD hA hS rfl rfl (fun H locs hP hD hS => ?_)
      refine W.eq (g2 := F0 m 30 ls []) rfl ?_
      refine lv_aload_n hx hb dX9_with_30 rfl (lv_at hl 0 rfl) ?_
      refine mm_get C0 hP iw_X9 0 rfl rfl 52 (by decide) fl_X9_361 rfl dX9_with_31 ?_
      apply mm_sub8 hf
      exact mm_iret C0 hP hD hS dX9_with_34
    · have hf := mm_ip hf (mm_b0 c_6)
      refine lv_iconst (v := -1) hx hb dX9_with_20 (by decide) ?_
      apply mm_sub8 hf
      exact mm_iret C0 hP hD hS dX9_with_21

theorem dX9_image_0 : decode cX9_image 0 = .ok (.aload_n 0, 1) := by decide +kernel
theorem dX9_image_1 : decode cX9_image 1 = .ok (.iconst 1, 1) := by decide +kernel
theorem dX9_image_2 : decode cX9_image 2 = .ok (.putfield 380, 3) := by decide +kernel
theorem dX9_image_5 : decode cX9_image 5 = .ok (.aload_n 0, 1) := by decide +kernel
theorem dX9_image_6 : decode cX9_image 6 = .ok (.aload_n 0, 1) := by decide +kernel
theorem dX9_image_7 : decode cX9_image 7 = .ok (.getfield 121, 3) := by decide +kernel
theorem dX9_image_10 : decode cX9_image 10 = .ok (.putfield 383, 3) := by decide +kernel
theorem dX9_image_13 : decode cX9_image 13 = .ok (.aload_n 0, 1) := by decide +kernel
theorem dX9_image_14 : decode cX9_image 14 = .ok (.aload_n 0, 1) := by decide +kernel
theorem dX9_image_15 : decode cX9_image 15 = .ok (.getfield 124, 3) := by decide +kernel
theorem dX9_image_18 : decode cX9_image 18 = .ok (.putfield 386, 3) := by decide +kernel
theorem dX9_image_21 : decode cX9_image 21 = .ok (.aload_n 0, 1) := by decide +kernel
theorem dX9_image_22 : decode cX9_image 22 = .ok (.aload_n 0, 1) := by decide +kernel
theorem dX9_image_23 : decode cX9_image 23 = .ok (.getfield 135, 3) := by decide +kernel
theorem dX9_image_26 : decode cX9_image 26 = .ok (.putfield 389, 3) := by decide +kernel
theorem dX9_image_29 : decode cX9_image 29 = .ok (.aload_n 0, 1) := by decide +kernel
theorem dX9_image_30 : decode cX9_image 30 = .ok (.aload_n 0, 1) := by decide +kernel
theorem dX9_image_31 : decode cX9_image 31 = .ok (.getfield 138, 3) := by decide +kernel
theorem dX9_image_34 : decode cX9_image 34 = .ok (.putfield 392, 3) := by decide +kernel
theorem dX9_image_37 : decode cX9_image 37 = .ok (.aload_n 0, 1) := by decide +kernel
theorem dX9_image_38 : decode cX9_image 38 = .ok (.iconst 0, 1) := by decide +kernel
theorem dX9_image_39 : decode cX9_image 39 = .ok (.iconst 5, 1) := by decide +kernel
theorem dX9_image_40 : decode cX9_image 40 = .ok (.invokevirtual 326, 3) := by decide +kernel
theorem dX9_image_43 : decode cX9_image 43 = .ok (.aload_n 0, 1) := by decide +kernel
theorem dX9_image_44 : decode cX9_image 44 = .ok (.getfield 135, 3) := by decide +kernel
theorem dX9_image_47 : decode cX9_image 47 = .ok (.ireturn, 1) := by decide +kernel
def fX9_image (N : Nat) (v_rowsOf : Int32) (v_columnsOf : Int32) (v_folded : Int32) (v_wronged : Int32) (v_isKept : Bool) (v_imageRows : Int32) (v_imageColumns : Int32) (v_imageFolded : Int32) (v_imageWronged : Int32) (v_shapeRows : List Int32) (v_shapeColumns : List Int32) (v_row : List Int32) (v_column : List Int32) (v_below : List Int32) (v_face : List Int32) (v_worn : List Int32) (v_lastBend : List Int32) : Option (Int32 × Bool × Int32 × Int32 × Int32 × Int32 × List Int32 × List Int32 × List Int32 × List Int32 × List Int32 × List Int32 × List Int32 × List Int32) :=
    mm_bd8 (fX9_copies N (0 : Int32) (5 : Int32) v_shapeRows v_shapeColumns v_row v_column v_below v_face v_worn v_lastBend) (fun (w_1 : List Int32) (w_2 : List Int32) (w_3 : List Int32) (w_4 : List Int32) (w_5 : List Int32) (w_6 : List Int32) (w_7 : List Int32) (w_8 : List Int32) =>
    some (v_folded, true, v_rowsOf, v_columnsOf, v_folded, v_wronged, w_1, w_2, w_3, w_4, w_5, w_6, w_7, w_8))

set_option maxHeartbeats 4000000 in
set_option maxRecDepth 100000 in
theorem ctX9_image {l : Launch} {D : va_G} {cI cL cS cH : ClassId} {a : Nat → Nat}  {v_keptMany : Int32} {v_done : Int32} {v_rowsOf : Int32} {v_columnsOf : Int32} {v_folded : Int32} {v_wronged : Int32} {v_tapeMany : Int32} {v_textMany : Int32} {v_base : Int32} {v_at : Int32} {v_ends : Int32} {v_fault : Int32} {v_opened : Int32} {v_bentMany : Int32} {v_bentWrong : Int32} {v_moreWorn : Int32} {v_planned : Int32} {v_allWrong : Int32} {v_allWorn : Int32} {v_z : Int32} {v_wishedField : Int32} {v_isFound : Bool} {v_bestWrong : Int32} {v_bestWorn : Int32} {v_bestMany : Int32} {v_soughtBy : Int32} {v_sought : Int32} {v_soughtAt : Int32} {v_foundMany : Int32} {v_foundOrder : Int32} {v_isKept : Bool} {v_imageRows : Int32} {v_imageColumns : Int32} {v_imageFolded : Int32} {v_imageWronged : Int32} {v_bodies : Int32} {v_ran : Int32} {v_ownKind : Int32} {v_ownNumber : Int32} {v_limit : List Int32} {v_changeWas : List Int32} {v_changeIs : List Int32} {v_shapeRows : List Int32} {v_shapeColumns : List Int32} {v_row : List Int32} {v_column : List Int32} {v_below : List Int32} {v_face : List Int32} {v_worn : List Int32} {v_lastBend : List Int32} {v_tape : List Int32} {v_text : List Int32} {v_names : List Int32} {v_bends : List Int32} {v_high : List Int32} {v_to : List Int32} {v_pileSize : List Int32} {v_planLine : List Int32} {v_planWay : List Int32} {v_way1 : List Int32} {v_bestWay : List Int32} {v_order1 : List Int32} {v_placeIn : List Int32} {v_bodyKind : List Int32} {v_trace : List Int32} {v_shelf : List Int32} {v_many : List Int32} {v_items : List Int64} {v_carried : List Int64} {r : Int32} {w_isKept : Bool} {w_imageRows : Int32} {w_imageColumns : Int32} {w_imageFolded : Int32} {w_imageWronged : Int32} {w_shapeRows : List Int32} {w_shapeColumns : List Int32} {w_row : List Int32} {w_column : List Int32} {w_below : List Int32} {w_face : List Int32} {w_worn : List Int32} {w_lastBend : List Int32} {N d : Nat} (hd : 2 ≤ d) (hf : fX9_image N v_rowsOf v_columnsOf v_folded v_wronged v_isKept v_imageRows v_imageColumns v_imageFolded v_imageWronged v_shapeRows v_shapeColumns v_row v_column v_below v_face v_worn v_lastBend = some (r, w_isKept, w_imageRows, w_imageColumns, w_imageFolded, w_imageWronged, w_shapeRows, w_shapeColumns, w_row, w_column, w_below, w_face, w_worn, w_lastBend)) : mm_Ct l yX9_image cX9_image 1 (some .int) d D (mm_T cI cL cS cH) [.ref (a 0)] (wd_X9 cI cL cS cH a v_keptMany v_done v_rowsOf v_columnsOf v_folded v_wronged v_tapeMany v_textMany v_base v_at v_ends v_fault v_opened v_bentMany v_bentWrong v_moreWorn v_planned v_allWrong v_allWorn v_z v_wishedField v_isFound v_bestWrong v_bestWorn v_bestMany v_soughtBy v_sought v_soughtAt v_foundMany v_foundOrder v_isKept v_imageRows v_imageColumns v_imageFolded v_imageWronged v_bodies v_ran v_ownKind v_ownNumber v_limit v_changeWas v_changeIs v_shapeRows v_shapeColumns v_row v_column v_below v_face v_worn v_lastBend v_tape v_text v_names v_bends v_high v_to v_pileSize v_planLine v_planWay v_way1 v_bestWay v_order1 v_placeIn v_bodyKind v_trace v_shelf v_many v_items v_carried) (wd_X9 cI cL cS cH a v_keptMany v_done v_rowsOf v_columnsOf v_folded v_wronged v_tapeMany v_textMany v_base v_at v_ends v_fault v_opened v_bentMany v_bentWrong v_moreWorn v_planned v_allWrong v_allWorn v_z v_wishedField v_isFound v_bestWrong v_bestWorn v_bestMany v_soughtBy v_sought v_soughtAt v_foundMany v_foundOrder w_isKept w_imageRows w_imageColumns w_imageFolded w_imageWronged v_bodies v_ran v_ownKind v_ownNumber v_limit v_changeWas v_changeIs w_shapeRows w_shapeColumns w_row w_column w_below w_face w_worn w_lastBend v_tape v_text v_names v_bends v_high v_to v_pileSize v_planLine v_planWay v_way1 v_bestWay v_order1 v_placeIn v_bodyKind v_trace v_shelf v_many v_items v_carried) (some (.int r)) := by
  refine mm_of (by decide) (Nat.le_of_ble_eq_true rfl) ?_
  intro p e s m args below meth c A H locs ls C0 hP hD hA hS hl
  have C0 : mm_Cx p s m args meth c RX9 cX9_image 1 (some .int) D (mm_T cI cL cS cH) A := C0
  obtain ⟨hx, hb, hml, hown, hts, hr, hlocks, hK, hSt⟩ := id C0
  have hl : lv_has ls 1 [(0, .ref (a 0))] := hl
  unfold fX9_image at hf
  refine lv_aload_n hx hb dX9_image_0 rfl (lv_at hl 0 rfl) ?_
  refine lv_iconst (v := 1) hx hb dX9_image_1 (by decide) ?_
  refine mm_put C0 hP hD hS iw_X9 tyX9 tyX9_ok nmX9 0 rfl rfl 54 (by decide) fl_X9_380 rfl (v := .int (mm_b true)) mm_bn mm_bf (Nat.le_of_ble_eq_true rfl) dX9_image_2 (w2 := (wd_X9 cI cL cS cH a v_keptMany v_done v_rowsOf v_columnsOf v_folded v_wronged v_tapeMany v_textMany v_base v_at v_ends v_fault v_opened v_bentMany v_bentWrong v_moreWorn v_planned v_allWrong v_allWorn v_z v_wishedField v_isFound v_bestWrong v_bestWorn v_bestMany v_soughtBy v_sought v_soughtAt v_foundMany v_foundOrder true v_imageRows v_imageColumns v_imageFolded v_imageWronged v_bodies v_ran v_ownKind v_ownNumber v_limit v_changeWas v_changeIs v_shapeRows v_shapeColumns v_row v_column v_below v_face v_worn v_lastBend v_tape v_text v_names v_bends v_high v_to v_pileSize v_planLine v_planWay v_way1 v_bestWay v_order1 v_placeIn v_bodyKind v_trace v_shelf v_many v_items v_carried)) rfl (fun H locs hP hD hS => ?_)
  refine lv_aload_n hx hb dX9_image_5 rfl (lv_at hl 0 rfl) ?_
  refine lv_aload_n hx hb dX9_image_6 rfl (lv_at hl 0 rfl) ?_
  refine mm_get C0 hP iw_X9 0 rfl rfl 5 (by decide) fl_X9_121 rfl dX9_image_7 ?_
  refine mm_put C0 hP hD hS iw_X9 tyX9 tyX9_ok nmX9 0 rfl rfl 55 (by decide) fl_X9_383 rfl rfl rfl (Nat.le_of_ble_eq_true rfl) dX9_image_10 (w2 := (wd_X9 cI cL cS cH a v_keptMany v_done v_rowsOf v_columnsOf v_folded v_wronged v_tapeMany v_textMany v_base v_at v_ends v_fault v_opened v_bentMany v_bentWrong v_moreWorn v_planned v_allWrong v_allWorn v_z v_wishedField v_isFound v_bestWrong v_bestWorn v_bestMany v_soughtBy v_sought v_soughtAt v_foundMany v_foundOrder true v_rowsOf v_imageColumns v_imageFolded v_imageWronged v_bodies v_ran v_ownKind v_ownNumber v_limit v_changeWas v_changeIs v_shapeRows v_shapeColumns v_row v_column v_below v_face v_worn v_lastBend v_tape v_text v_names v_bends v_high v_to v_pileSize v_planLine v_planWay v_way1 v_bestWay v_order1 v_placeIn v_bodyKind v_trace v_shelf v_many v_items v_carried)) rfl (fun H locs hP hD hS => ?_)
  refine lv_aload_n hx hb dX9_image_13 rfl (lv_at hl 0 rfl) ?_
  refine lv_aload_n hx hb dX9_image_14 rfl (lv_at hl 0 rfl) ?_
  refine mm_get C0 hP iw_X9 0 rfl rfl 6 (by decide) fl_X9_124 rfl dX9_image_15 ?_
  refine mm_put C0 hP hD hS iw_X9 tyX9 tyX9_ok nmX9 0 rfl rfl 56 (by decide) fl_X9_386 rfl rfl rfl (Nat.le_of_ble_eq_true rfl) dX9_image_18 (w2 := (wd_X9 cI cL cS cH a v_keptMany v_done v_rowsOf v_columnsOf v_folded v_wronged v_tapeMany v_textMany v_base v_at v_ends v_fault v_opened v_bentMany v_bentWrong v_moreWorn v_planned v_allWrong v_allWorn v_z v_wishedField v_isFound v_bestWrong v_bestWorn v_bestMany v_soughtBy v_sought v_soughtAt v_foundMany v_foundOrder true v_rowsOf v_columnsOf v_imageFolded v_imageWronged v_bodies v_ran v_ownKind v_ownNumber v_limit v_changeWas v_changeIs v_shapeRows v_shapeColumns v_row v_column v_below v_face v_worn v_lastBend v_tape v_text v_names v_bends v_high v_to v_pileSize v_planLine v_planWay v_way1 v_bestWay v_order1 v_placeIn v_bodyKind v_trace v_shelf v_many v_items v_carried)) rfl (fun H locs hP hD hS => ?_)
  refine lv_aload_n hx hb dX9_image_21 rfl (lv_at hl 0 rfl) ?_
  refine lv_aload_n hx hb dX9_image_22 rfl (lv_at hl 0 rfl) ?_
  refine mm_get C0 hP iw_X9 0 rfl rfl 15 (by decide) fl_X9_135 rfl dX9_image_23 ?_
  refine mm_put C0 hP hD hS iw_X9 tyX9 tyX9_ok nmX9 0 rfl rfl 57 (by decide) fl_X9_389 rfl rfl rfl (Nat.le_of_ble_eq_true rfl) dX9_image_26 (w2 := (wd_X9 cI cL cS cH a v_keptMany v_done v_rowsOf v_columnsOf v_folded v_wronged v_tapeMany v_textMany v_base v_at v_ends v_fault v_opened v_bentMany v_bentWrong v_moreWorn v_planned v_allWrong v_allWorn v_z v_wishedField v_isFound v_bestWrong v_bestWorn v_bestMany v_soughtBy v_sought v_soughtAt v_foundMany v_foundOrder true v_rowsOf v_columnsOf v_folded v_imageWronged v_bodies v_ran v_ownKind v_ownNumber v_limit v_changeWas v_changeIs v_shapeRows v_shapeColumns v_row v_column v_below v_face v_worn v_lastBend v_tape v_text v_names v_bends v_high v_to v_pileSize v_planLine v_planWay v_way1 v_bestWay v_order1 v_placeIn v_bodyKind v_trace v_shelf v_many v_items v_carried)) rfl (fun H locs hP hD hS => ?_)
  refine lv_aload_n hx hb dX9_image_29 rfl (lv_at hl 0 rfl) ?_
  refine lv_aload_n hx hb dX9_image_30 rfl (lv_at hl 0 rfl) ?_
  refine mm_get C0 hP iw_X9 0 rfl rfl 16 (by decide) fl_X9_138 rfl dX9_image_31 ?_
  refine mm_put C0 hP hD hS iw_X9 tyX9 tyX9_ok nmX9 0 rfl rfl 58 (by decide) fl_X9_392 rfl rfl rfl (Nat.le_of_ble_eq_true rfl) dX9_image_34 (w2 := (wd_X9 cI cL cS cH a v_keptMany v_done v_rowsOf v_columnsOf v_folded v_wronged v_tapeMany v_textMany v_base v_at v_ends v_fault v_opened v_bentMany v_bentWrong v_moreWorn v_planned v_allWrong v_allWorn v_z v_wishedField v_isFound v_bestWrong v_bestWorn v_bestMany v_soughtBy v_sought v_soughtAt v_foundMany v_foundOrder true v_rowsOf v_columnsOf v_folded v_wronged v_bodies v_ran v_ownKind v_ownNumber v_limit v_changeWas v_changeIs v_shapeRows v_shapeColumns v_row v_column v_below v_face v_worn v_lastBend v_tape v_text v_names v_bends v_high v_to v_pileSize v_planLine v_planWay v_way1 v_bestWay v_order1 v_placeIn v_bodyKind v_trace v_shelf v_many v_items v_carried)) rfl (fun H locs hP hD hS => ?_)
  refine lv_aload_n hx hb dX9_image_37 rfl (lv_at hl 0 rfl) ?_
  refine lv_iconst (v := 0) hx hb dX9_image_38 (by decide) ?_
  refine lv_iconst (v := 5) hx hb dX9_image_39 (by decide) ?_
  refine mm_ct8 hf (fun w_1 w_2 w_3 w_4 w_5 w_6 w_7 w_8 hc_9 hf => ?_)
  refine mm_callVF (q0 := 0) (ci := 9) (rest := []) C0 lk_X9_326 (ctX9_copies (a := a) (d := d - 1) (by omega) hc_9) (by omega) rfl hl.1 rfl (mm_cat rfl) dX9_image_40 hP hD hA hS rfl rfl (fun H locs hP hD hS => ?_)
  refine W.eq (g2 := F0 m 43 ls []) rfl ?_
  refine lv_aload_n hx hb dX9_image_43 rfl (lv_at hl 0 rfl) ?_
  refine mm_get C0 hP iw_X9 0 rfl rfl 15 (by decide) fl_X9_135 rfl dX9_image_44 ?_
  apply mm_sub14 hf
  exact mm_iret C0 hP hD hS dX9_image_47

theorem dX9_back_0 : decode cX9_back 0 = .ok (.aload_n 0, 1) := by decide +kernel
theorem dX9_back_1 : decode cX9_back 1 = .ok (.getfield 380, 3) := by decide +kernel
theorem dX9_back_4 : decode cX9_back 4 = .ok (.ifCond .ne 6, 3) := by decide +kernel
theorem dX9_back_7 : decode cX9_back 7 = .ok (.bipush (-5), 2) := by decide +kernel
theorem dX9_back_9 : decode cX9_back 9 = .ok (.ireturn, 1) := by decide +kernel
theorem dX9_back_10 : decode cX9_back 10 = .ok (.aload_n 0, 1) := by decide +kernel
theorem dX9_back_11 : decode cX9_back 11 = .ok (.aload_n 0, 1) := by decide +kernel
theorem dX9_back_12 : decode cX9_back 12 = .ok (.getfield 383, 3) := by decide +kernel
theorem dX9_back_15 : decode cX9_back 15 = .ok (.putfield 121, 3) := by decide +kernel
theorem dX9_back_18 : decode cX9_back 18 = .ok (.aload_n 0, 1) := by decide +kernel
theorem dX9_back_19 : decode cX9_back 19 = .ok (.aload_n 0, 1) := by decide +kernel
theorem dX9_back_20 : decode cX9_back 20 = .ok (.getfield 386, 3) := by decide +kernel
theorem dX9_back_23 : decode cX9_back 23 = .ok (.putfield 124, 3) := by decide +kernel
theorem dX9_back_26 : decode cX9_back 26 = .ok (.aload_n 0, 1) := by decide +kernel
theorem dX9_back_27 : decode cX9_back 27 = .ok (.aload_n 0, 1) := by decide +kernel
theorem dX9_back_28 : decode cX9_back 28 = .ok (.getfield 389, 3) := by decide +kernel
theorem dX9_back_31 : decode cX9_back 31 = .ok (.putfield 135, 3) := by decide +kernel
theorem dX9_back_34 : decode cX9_back 34 = .ok (.aload_n 0, 1) := by decide +kernel
theorem dX9_back_35 : decode cX9_back 35 = .ok (.aload_n 0, 1) := by decide +kernel
theorem dX9_back_36 : decode cX9_back 36 = .ok (.getfield 392, 3) := by decide +kernel
theorem dX9_back_39 : decode cX9_back 39 = .ok (.putfield 138, 3) := by decide +kernel
theorem dX9_back_42 : decode cX9_back 42 = .ok (.aload_n 0, 1) := by decide +kernel
theorem dX9_back_43 : decode cX9_back 43 = .ok (.iconst 5, 1) := by decide +kernel
theorem dX9_back_44 : decode cX9_back 44 = .ok (.iconst 0, 1) := by decide +kernel
theorem dX9_back_45 : decode cX9_back 45 = .ok (.invokevirtual 326, 3) := by decide +kernel
theorem dX9_back_48 : decode cX9_back 48 = .ok (.aload_n 0, 1) := by decide +kernel
theorem dX9_back_49 : decode cX9_back 49 = .ok (.getfield 135, 3) := by decide +kernel
theorem dX9_back_52 : decode cX9_back 52 = .ok (.ireturn, 1) := by decide +kernel
def fX9_back (N : Nat) (v_rowsOf : Int32) (v_columnsOf : Int32) (v_folded : Int32) (v_wronged : Int32) (v_isKept : Bool) (v_imageRows : Int32) (v_imageColumns : Int32) (v_imageFolded : Int32) (v_imageWronged : Int32) (v_shapeRows : List Int32) (v_shapeColumns : List Int32) (v_row : List Int32) (v_column : List Int32) (v_below : List Int32) (v_face : List Int32) (v_worn : List Int32) (v_lastBend : List Int32) : Option (Int32 × Int32 × Int32 × Int32 × Int32 × List Int32 × List Int32 × List Int32 × List Int32 × List Int32 × List Int32 × List Int32 × List Int32) :=
    if v_isKept = false then
    (some ((-5 : Int32), v_rowsOf, v_columnsOf, v_folded, v_wronged, v_shapeRows, v_shapeColumns, v_row, v_column, v_below, v_face, v_worn, v_lastBend))
    else (mm_bd8 (fX9_copies N (5 : Int32) (0 : Int32) v_shapeRows v_shapeColumns v_row v_column v_below v_face v_worn v_lastBend) (fun (w_2 : List Int32) (w_3 : List Int32) (w_4 : List Int32) (w_5 : List Int32) (w_6 : List Int32) (w_7 : List Int32) (w_8 : List Int32) (w_9 : List Int32) =>
    some (v_imageFolded, v_imageRows, v_imageColumns, v_imageFolded, v_imageWronged, w_2, w_3, w_4, w_5, w_6, w_7, w_8, w_9)))

set_option maxHeartbeats 4000000 in
set_option maxRecDepth 100000 in
theorem ctX9_back {l : Launch} {D : va_G} {cI cL cS cH : ClassId} {a : Nat → Nat}  {v_keptMany : Int32} {v_done : Int32} {v_rowsOf : Int32} {v_columnsOf : Int32} {v_folded : Int32} {v_wronged : Int32} {v_tapeMany : Int32} {v_textMany : Int32} {v_base : Int32} {v_at : Int32} {v_ends : Int32} {v_fault : Int32} {v_opened : Int32} {v_bentMany : Int32} {v_bentWrong : Int32} {v_moreWorn : Int32} {v_planned : Int32} {v_allWrong : Int32} {v_allWorn : Int32} {v_z : Int32} {v_wishedField : Int32} {v_isFound : Bool} {v_bestWrong : Int32} {v_bestWorn : Int32} {v_bestMany : Int32} {v_soughtBy : Int32} {v_sought : Int32} {v_soughtAt : Int32} {v_foundMany : Int32} {v_foundOrder : Int32} {v_isKept : Bool} {v_imageRows : Int32} {v_imageColumns : Int32} {v_imageFolded : Int32} {v_imageWronged : Int32} {v_bodies : Int32} {v_ran : Int32} {v_ownKind : Int32} {v_ownNumber : Int32} {v_limit : List Int32} {v_changeWas : List Int32} {v_changeIs : List Int32} {v_shapeRows : List Int32} {v_shapeColumns : List Int32} {v_row : List Int32} {v_column : List Int32} {v_below : List Int32} {v_face : List Int32} {v_worn : List Int32} {v_lastBend : List Int32} {v_tape : List Int32} {v_text : List Int32} {v_names : List Int32} {v_bends : List Int32} {v_high : List Int32} {v_to : List Int32} {v_pileSize : List Int32} {v_planLine : List Int32} {v_planWay : List Int32} {v_way1 : List Int32} {v_bestWay : List Int32} {v_order1 : List Int32} {v_placeIn : List Int32} {v_bodyKind : List Int32} {v_trace : List Int32} {v_shelf : List Int32} {v_many : List Int32} {v_items : List Int64} {v_carried : List Int64} {r : Int32} {w_rowsOf : Int32} {w_columnsOf : Int32} {w_folded : Int32} {w_wronged : Int32} {w_shapeRows : List Int32} {w_shapeColumns : List Int32} {w_row : List Int32} {w_column : List Int32} {w_below : List Int32} {w_face : List Int32} {w_worn : List Int32} {w_lastBend : List Int32} {N d : Nat} (hd : 2 ≤ d) (hf : fX9_back N v_rowsOf v_columnsOf v_folded v_wronged v_isKept v_imageRows v_imageColumns v_imageFolded v_imageWronged v_shapeRows v_shapeColumns v_row v_column v_below v_face v_worn v_lastBend = some (r, w_rowsOf, w_columnsOf, w_folded, w_wronged, w_shapeRows, w_shapeColumns, w_row, w_column, w_below, w_face, w_worn, w_lastBend)) : mm_Ct l yX9_back cX9_back 1 (some .int) d D (mm_T cI cL cS cH) [.ref (a 0)] (wd_X9 cI cL cS cH a v_keptMany v_done v_rowsOf v_columnsOf v_folded v_wronged v_tapeMany v_textMany v_base v_at v_ends v_fault v_opened v_bentMany v_bentWrong v_moreWorn v_planned v_allWrong v_allWorn v_z v_wishedField v_isFound v_bestWrong v_bestWorn v_bestMany v_soughtBy v_sought v_soughtAt v_foundMany v_foundOrder v_isKept v_imageRows v_imageColumns v_imageFolded v_imageWronged v_bodies v_ran v_ownKind v_ownNumber v_limit v_changeWas v_changeIs v_shapeRows v_shapeColumns v_row v_column v_below v_face v_worn v_lastBend v_tape v_text v_names v_bends v_high v_to v_pileSize v_planLine v_planWay v_way1 v_bestWay v_order1 v_placeIn v_bodyKind v_trace v_shelf v_many v_items v_carried) (wd_X9 cI cL cS cH a v_keptMany v_done w_rowsOf w_columnsOf w_folded w_wronged v_tapeMany v_textMany v_base v_at v_ends v_fault v_opened v_bentMany v_bentWrong v_moreWorn v_planned v_allWrong v_allWorn v_z v_wishedField v_isFound v_bestWrong v_bestWorn v_bestMany v_soughtBy v_sought v_soughtAt v_foundMany v_foundOrder v_isKept v_imageRows v_imageColumns v_imageFolded v_imageWronged v_bodies v_ran v_ownKind v_ownNumber v_limit v_changeWas v_changeIs w_shapeRows w_shapeColumns w_row w_column w_below w_face w_worn w_lastBend v_tape v_text v_names v_bends v_high v_to v_pileSize v_planLine v_planWay v_way1 v_bestWay v_order1 v_placeIn v_bodyKind v_trace v_shelf v_many v_items v_carried) (some (.int r)) := by
  refine mm_of (by decide) (Nat.le_of_ble_eq_true rfl) ?_
  intro p e s m args below meth c A H locs ls C0 hP hD hA hS hl
  have C0 : mm_Cx p s m args meth c RX9 cX9_back 1 (some .int) D (mm_T cI cL cS cH) A := C0
  obtain ⟨hx, hb, hml, hown, hts, hr, hlocks, hK, hSt⟩ := id C0
  have hl : lv_has ls 1 [(0, .ref (a 0))] := hl
  unfold fX9_back at hf
  refine lv_aload_n hx hb dX9_back_0 rfl (lv_at hl 0 rfl) ?_
  refine mm_get C0 hP iw_X9 0 rfl rfl 54 (by decide) fl_X9_380 rfl dX9_back_1 ?_
  refine lv_if_ne (tgt := 10) hx hb dX9_back_4 (by decide) (fun c_1 => ?_) (fun c_1 => ?_)
  · have hf := mm_in hf (mm_b1 c_1)
    refine lv_aload_n hx hb dX9_back_10 rfl (lv_at hl 0 rfl) ?_
    refine lv_aload_n hx hb dX9_back_11 rfl (lv_at hl 0 rfl) ?_
    refine mm_get C0 hP iw_X9 0 rfl rfl 55 (by decide) fl_X9_383 rfl dX9_back_12 ?_
    refine mm_put C0 hP hD hS iw_X9 tyX9 tyX9_ok nmX9 0 rfl rfl 5 (by decide) fl_X9_121 rfl rfl rfl (Nat.le_of_ble_eq_true rfl) dX9_back_15 (w2 := (wd_X9 cI cL cS cH a v_keptMany v_done v_imageRows v_columnsOf v_folded v_wronged v_tapeMany v_textMany v_base v_at v_ends v_fault v_opened v_bentMany v_bentWrong v_moreWorn v_planned v_allWrong v_allWorn v_z v_wishedField v_isFound v_bestWrong v_bestWorn v_bestMany v_soughtBy v_sought v_soughtAt v_foundMany v_foundOrder v_isKept v_imageRows v_imageColumns v_imageFolded v_imageWronged v_bodies v_ran v_ownKind v_ownNumber v_limit v_changeWas v_changeIs v_shapeRows v_shapeColumns v_row v_column v_below v_face v_worn v_lastBend v_tape v_text v_names v_bends v_high v_to v_pileSize v_planLine v_planWay v_way1 v_bestWay v_order1 v_placeIn v_bodyKind v_trace v_shelf v_many v_items v_carried)) rfl (fun H locs hP hD hS => ?_)
    refine lv_aload_n hx hb dX9_back_18 rfl (lv_at hl 0 rfl) ?_
    refine lv_aload_n hx hb dX9_back_19 rfl (lv_at hl 0 rfl) ?_
    refine mm_get C0 hP iw_X9 0 rfl rfl 56 (by decide) fl_X9_386 rfl dX9_back_20 ?_
    refine mm_put C0 hP hD hS iw_X9 tyX9 tyX9_ok nmX9 0 rfl rfl 6 (by decide) fl_X9_124 rfl rfl rfl (Nat.le_of_ble_eq_true rfl) dX9_back_23 (w2 := (wd_X9 cI cL cS cH a v_keptMany v_done v_imageRows v_imageColumns v_folded v_wronged v_tapeMany v_textMany v_base v_at v_ends v_fault v_opened v_bentMany v_bentWrong v_moreWorn v_planned v_allWrong v_allWorn v_z v_wishedField v_isFound v_bestWrong v_bestWorn v_bestMany v_soughtBy v_sought v_soughtAt v_foundMany v_foundOrder v_isKept v_imageRows v_imageColumns v_imageFolded v_imageWronged v_bodies v_ran v_ownKind v_ownNumber v_limit v_changeWas v_changeIs v_shapeRows v_shapeColumns v_row v_column v_below v_face v_worn v_lastBend v_tape v_text v_names v_bends v_high v_to v_pileSize v_planLine v_planWay v_way1 v_bestWay v_order1 v_placeIn v_bodyKind v_trace v_shelf v_many v_items v_carried)) rfl (fun H locs hP hD hS => ?_)
    refine lv_aload_n hx hb dX9_back_26 rfl (lv_at hl 0 rfl) ?_
    refine lv_aload_n hx hb dX9_back_27 rfl (lv_at hl 0 rfl) ?_
    refine mm_get C0 hP iw_X9 0 rfl rfl 57 (by decide) fl_X9_389 rfl dX9_back_28 ?_
    refine mm_put C0 hP hD hS iw_X9 tyX9 tyX9_ok nmX9 0 rfl rfl 15 (by decide) fl_X9_135 rfl rfl rfl (Nat.le_of_ble_eq_true rfl) dX9_back_31 (w2 := (wd_X9 cI cL cS cH a v_keptMany v_done v_imageRows v_imageColumns v_imageFolded v_wronged v_tapeMany v_textMany v_base v_at v_ends v_fault v_opened v_bentMany v_bentWrong v_moreWorn v_planned v_allWrong v_allWorn v_z v_wishedField v_isFound v_bestWrong v_bestWorn v_bestMany v_soughtBy v_sought v_soughtAt v_foundMany v_foundOrder v_isKept v_imageRows v_imageColumns v_imageFolded v_imageWronged v_bodies v_ran v_ownKind v_ownNumber v_limit v_changeWas v_changeIs v_shapeRows v_shapeColumns v_row v_column v_below v_face v_worn v_lastBend v_tape v_text v_names v_bends v_high v_to v_pileSize v_planLine v_planWay v_way1 v_bestWay v_order1 v_placeIn v_bodyKind v_trace v_shelf v_many v_items v_carried)) rfl (fun H locs hP hD hS => ?_)
    refine lv_aload_n hx hb dX9_back_34 rfl (lv_at hl 0 rfl) ?_
    refine lv_aload_n hx hb dX9_back_35 rfl (lv_at hl 0 rfl) ?_
    refine mm_get C0 hP iw_X9 0 rfl rfl 58 (by decide) fl_X9_392 rfl dX9_back_36 ?_
    refine mm_put C0 hP hD hS iw_X9 tyX9 tyX9_ok nmX9 0 rfl rfl 16 (by decide) fl_X9_138 rfl rfl rfl (Nat.le_of_ble_eq_true rfl) dX9_back_39 (w2 := (wd_X9 cI cL cS cH a v_keptMany v_done v_imageRows v_imageColumns v_imageFolded v_imageWronged v_tapeMany v_textMany v_base v_at v_ends v_fault v_opened v_bentMany v_bentWrong v_moreWorn v_planned v_allWrong v_allWorn v_z v_wishedField v_isFound v_bestWrong v_bestWorn v_bestMany v_soughtBy v_sought v_soughtAt v_foundMany v_foundOrder v_isKept v_imageRows v_imageColumns v_imageFolded v_imageWronged v_bodies v_ran v_ownKind v_ownNumber v_limit v_changeWas v_changeIs v_shapeRows v_shapeColumns v_row v_column v_below v_face v_worn v_lastBend v_tape v_text v_names v_bends v_high v_to v_pileSize v_planLine v_planWay v_way1 v_bestWay v_order1 v_placeIn v_bodyKind v_trace v_shelf v_many v_items v_carried)) rfl (fun H locs hP hD hS => ?_)
    refine lv_aload_n hx hb dX9_back_42 rfl (lv_at hl 0 rfl) ?_
    refine lv_iconst (v := 5) hx hb dX9_back_43 (by decide) ?_
    refine lv_iconst (v := 0) hx hb dX9_back_44 (by decide) ?_
    refine mm_ct8 hf (fun w_2 w_3 w_4 w_5 w_6 w_7 w_8 w_9 hc_10 hf => ?_)
    refine mm_callVF (q0 := 0) (ci := 9) (rest := []) C0 lk_X9_326 (ctX9_copies (a := a) (d := d - 1) (by omega) hc_10) (by omega) rfl hl.1 rfl (mm_cat rfl) dX9_back_45 hP hD hA hS rfl rfl (fun H locs hP hD hS => ?_)
    refine W.eq (g2 := F0 m 48 ls []) rfl ?_
    refine lv_aload_n hx hb dX9_back_48 rfl (lv_at hl 0 rfl) ?_
    refine mm_get C0 hP iw_X9 0 rfl rfl 15 (by decide) fl_X9_135 rfl dX9_back_49 ?_
    apply mm_sub13 hf
    exact mm_iret C0 hP hD hS dX9_back_52
  · have hf := mm_ip hf (mm_b0 c_1)
    refine lv_bipush (v := -5) hx hb dX9_back_7 (by decide) ?_
    apply mm_sub13 hf
    exact mm_iret C0 hP hD hS dX9_back_9

theorem dX9_isBody_0 : decode cX9_isBody 0 = .ok (.iload_n 1, 1) := by decide +kernel
theorem dX9_isBody_1 : decode cX9_isBody 1 = .ok (.i2l, 1) := by decide +kernel
theorem dX9_isBody_2 : decode cX9_isBody 2 = .ok (.lconst 0, 1) := by decide +kernel
theorem dX9_isBody_3 : decode cX9_isBody 3 = .ok (.aload_n 0, 1) := by decide +kernel
theorem dX9_isBody_4 : decode cX9_isBody 4 = .ok (.getfield 395, 3) := by decide +kernel
theorem dX9_isBody_7 : decode cX9_isBody 7 = .ok (.iconst 1, 1) := by decide +kernel
theorem dX9_isBody_8 : decode cX9_isBody 8 = .ok (.isub, 1) := by decide +kernel
theorem dX9_isBody_9 : decode cX9_isBody 9 = .ok (.i2l, 1) := by decide +kernel
theorem dX9_isBody_10 : decode cX9_isBody 10 = .ok (.invokestatic 111, 3) := by decide +kernel
theorem dX9_isBody_13 : decode cX9_isBody 13 = .ok (.ireturn, 1) := by decide +kernel
def fX9_isBody (N : Nat) (x1 : Int32) (v_bodies : Int32) : Option (Bool) :=
    mm_bd1 (fX9_within N ((x1).toInt64) (0 : Int64) ((v_bodies - (1 : Int32)).toInt64)) (fun (r_1 : Bool) =>
    some (r_1))

set_option maxHeartbeats 4000000 in
set_option maxRecDepth 100000 in
theorem ctX9_isBody {l : Launch} {D : va_G} {cI cL cS cH : ClassId} {a : Nat → Nat} {x1 : Int32} {v_keptMany : Int32} {v_done : Int32} {v_rowsOf : Int32} {v_columnsOf : Int32} {v_folded : Int32} {v_wronged : Int32} {v_tapeMany : Int32} {v_textMany : Int32} {v_base : Int32} {v_at : Int32} {v_ends : Int32} {v_fault : Int32} {v_opened : Int32} {v_bentMany : Int32} {v_bentWrong : Int32} {v_moreWorn : Int32} {v_planned : Int32} {v_allWrong : Int32} {v_allWorn : Int32} {v_z : Int32} {v_wishedField : Int32} {v_isFound : Bool} {v_bestWrong : Int32} {v_bestWorn : Int32} {v_bestMany : Int32} {v_soughtBy : Int32} {v_sought : Int32} {v_soughtAt : Int32} {v_foundMany : Int32} {v_foundOrder : Int32} {v_isKept : Bool} {v_imageRows : Int32} {v_imageColumns : Int32} {v_imageFolded : Int32} {v_imageWronged : Int32} {v_bodies : Int32} {v_ran : Int32} {v_ownKind : Int32} {v_ownNumber : Int32} {v_limit : List Int32} {v_changeWas : List Int32} {v_changeIs : List Int32} {v_shapeRows : List Int32} {v_shapeColumns : List Int32} {v_row : List Int32} {v_column : List Int32} {v_below : List Int32} {v_face : List Int32} {v_worn : List Int32} {v_lastBend : List Int32} {v_tape : List Int32} {v_text : List Int32} {v_names : List Int32} {v_bends : List Int32} {v_high : List Int32} {v_to : List Int32} {v_pileSize : List Int32} {v_planLine : List Int32} {v_planWay : List Int32} {v_way1 : List Int32} {v_bestWay : List Int32} {v_order1 : List Int32} {v_placeIn : List Int32} {v_bodyKind : List Int32} {v_trace : List Int32} {v_shelf : List Int32} {v_many : List Int32} {v_items : List Int64} {v_carried : List Int64} {r : Bool} {N d : Nat} (hd : 2 ≤ d) (hf : fX9_isBody N x1 v_bodies = some r) : mm_Ct l yX9_isBody cX9_isBody 2 (some .boolean) d D (mm_T cI cL cS cH) [.ref (a 0), .int x1] (wd_X9 cI cL cS cH a v_keptMany v_done v_rowsOf v_columnsOf v_folded v_wronged v_tapeMany v_textMany v_base v_at v_ends v_fault v_opened v_bentMany v_bentWrong v_moreWorn v_planned v_allWrong v_allWorn v_z v_wishedField v_isFound v_bestWrong v_bestWorn v_bestMany v_soughtBy v_sought v_soughtAt v_foundMany v_foundOrder v_isKept v_imageRows v_imageColumns v_imageFolded v_imageWronged v_bodies v_ran v_ownKind v_ownNumber v_limit v_changeWas v_changeIs v_shapeRows v_shapeColumns v_row v_column v_below v_face v_worn v_lastBend v_tape v_text v_names v_bends v_high v_to v_pileSize v_planLine v_planWay v_way1 v_bestWay v_order1 v_placeIn v_bodyKind v_trace v_shelf v_many v_items v_carried) (wd_X9 cI cL cS cH a v_keptMany v_done v_rowsOf v_columnsOf v_folded v_wronged v_tapeMany v_textMany v_base v_at v_ends v_fault v_opened v_bentMany v_bentWrong v_moreWorn v_planned v_allWrong v_allWorn v_z v_wishedField v_isFound v_bestWrong v_bestWorn v_bestMany v_soughtBy v_sought v_soughtAt v_foundMany v_foundOrder v_isKept v_imageRows v_imageColumns v_imageFolded v_imageWronged v_bodies v_ran v_ownKind v_ownNumber v_limit v_changeWas v_changeIs v_shapeRows v_shapeColumns v_row v_column v_below v_face v_worn v_lastBend v_tape v_text v_names v_bends v_high v_to v_pileSize v_planLine v_planWay v_way1 v_bestWay v_order1 v_placeIn v_bodyKind v_trace v_shelf v_many v_items v_carried) (some (.int (mm_b r))) := by
  refine mm_of (by decide) (Nat.le_of_ble_eq_true rfl) ?_
  intro p e s m args below meth c A H locs ls C0 hP hD hA hS hl
  have C0 : mm_Cx p s m args meth c RX9 cX9_isBody 2 (some .boolean) D (mm_T cI cL cS cH) A := C0
  obtain ⟨hx, hb, hml, hown, hts, hr, hlocks, hK, hSt⟩ := id C0
  have hl : lv_has ls 2 [(0, .ref (a 0)), (1, .int x1)] := hl
  unfold fX9_isBody at hf
  refine lv_iload_n hx hb dX9_isBody_0 rfl (lv_at hl 1 rfl) ?_
  refine lv_i2l hx hb dX9_isBody_1 rfl ?_
  refine lv_lconst (v := 0) hx hb dX9_isBody_2 (by decide) ?_
  refine lv_aload_n hx hb dX9_isBody_3 rfl (lv_at hl 0 rfl) ?_
  refine mm_get C0 hP iw_X9 0 rfl rfl 59 (by decide) fl_X9_395 rfl dX9_isBody_4 ?_
  refine lv_iconst (v := 1) hx hb dX9_isBody_7 (by decide) ?_
  refine lv_isub hx hb dX9_isBody_8 ?_
  refine lv_i2l hx hb dX9_isBody_9 rfl ?_
  obtain ⟨r_1, hc_2, hf⟩ := mm_bd1s hf
  refine mm_callS0 (rest := []) C0 lk_X9_111 (ctX9_within (d := d - 1) (by omega) hc_2) (by omega) rfl hl.1 rfl (mm_cat rfl) dX9_isBody_10 hP hD hA hS (fun H locs hP hS => ?_)
  refine W.eq (g2 := F0 m 13 ls [.int (mm_b r_1)]) rfl ?_
  obtain rfl := mm_inj1 hf
  exact mm_zret C0 hP hD hS dX9_isBody_13 rfl

theorem dX9_kindOf_0 : decode cX9_kindOf 0 = .ok (.aload_n 0, 1) := by decide +kernel
theorem dX9_kindOf_1 : decode cX9_kindOf 1 = .ok (.getfield 82, 3) := by decide +kernel
theorem dX9_kindOf_4 : decode cX9_kindOf 4 = .ok (.iload_n 1, 1) := by decide +kernel
theorem dX9_kindOf_5 : decode cX9_kindOf 5 = .ok (.iaload, 1) := by decide +kernel
theorem dX9_kindOf_6 : decode cX9_kindOf 6 = .ok (.ireturn, 1) := by decide +kernel
def fX9_kindOf (N : Nat) (x1 : Int32) (v_bodyKind : List Int32) : Option (Int32) :=
    mm_ck (mm_inb x1 v_bodyKind.length) (some ((mm_ig v_bodyKind x1)))

set_option maxHeartbeats 4000000 in
set_option maxRecDepth 100000 in
theorem ctX9_kindOf {l : Launch} {D : va_G} {cI cL cS cH : ClassId} {a : Nat → Nat} {x1 : Int32} {v_keptMany : Int32} {v_done : Int32} {v_rowsOf : Int32} {v_columnsOf : Int32} {v_folded : Int32} {v_wronged : Int32} {v_tapeMany : Int32} {v_textMany : Int32} {v_base : Int32} {v_at : Int32} {v_ends : Int32} {v_fault : Int32} {v_opened : Int32} {v_bentMany : Int32} {v_bentWrong : Int32} {v_moreWorn : Int32} {v_planned : Int32} {v_allWrong : Int32} {v_allWorn : Int32} {v_z : Int32} {v_wishedField : Int32} {v_isFound : Bool} {v_bestWrong : Int32} {v_bestWorn : Int32} {v_bestMany : Int32} {v_soughtBy : Int32} {v_sought : Int32} {v_soughtAt : Int32} {v_foundMany : Int32} {v_foundOrder : Int32} {v_isKept : Bool} {v_imageRows : Int32} {v_imageColumns : Int32} {v_imageFolded : Int32} {v_imageWronged : Int32} {v_bodies : Int32} {v_ran : Int32} {v_ownKind : Int32} {v_ownNumber : Int32} {v_limit : List Int32} {v_changeWas : List Int32} {v_changeIs : List Int32} {v_shapeRows : List Int32} {v_shapeColumns : List Int32} {v_row : List Int32} {v_column : List Int32} {v_below : List Int32} {v_face : List Int32} {v_worn : List Int32} {v_lastBend : List Int32} {v_tape : List Int32} {v_text : List Int32} {v_names : List Int32} {v_bends : List Int32} {v_high : List Int32} {v_to : List Int32} {v_pileSize : List Int32} {v_planLine : List Int32} {v_planWay : List Int32} {v_way1 : List Int32} {v_bestWay : List Int32} {v_order1 : List Int32} {v_placeIn : List Int32} {v_bodyKind : List Int32} {v_trace : List Int32} {v_shelf : List Int32} {v_many : List Int32} {v_items : List Int64} {v_carried : List Int64} {r : Int32} {N d : Nat} (hd : 1 ≤ d) (hf : fX9_kindOf N x1 v_bodyKind = some r) : mm_Ct l yX9_kindOf cX9_kindOf 2 (some .int) d D (mm_T cI cL cS cH) [.ref (a 0), .int x1] (wd_X9 cI cL cS cH a v_keptMany v_done v_rowsOf v_columnsOf v_folded v_wronged v_tapeMany v_textMany v_base v_at v_ends v_fault v_opened v_bentMany v_bentWrong v_moreWorn v_planned v_allWrong v_allWorn v_z v_wishedField v_isFound v_bestWrong v_bestWorn v_bestMany v_soughtBy v_sought v_soughtAt v_foundMany v_foundOrder v_isKept v_imageRows v_imageColumns v_imageFolded v_imageWronged v_bodies v_ran v_ownKind v_ownNumber v_limit v_changeWas v_changeIs v_shapeRows v_shapeColumns v_row v_column v_below v_face v_worn v_lastBend v_tape v_text v_names v_bends v_high v_to v_pileSize v_planLine v_planWay v_way1 v_bestWay v_order1 v_placeIn v_bodyKind v_trace v_shelf v_many v_items v_carried) (wd_X9 cI cL cS cH a v_keptMany v_done v_rowsOf v_columnsOf v_folded v_wronged v_tapeMany v_textMany v_base v_at v_ends v_fault v_opened v_bentMany v_bentWrong v_moreWorn v_planned v_allWrong v_allWorn v_z v_wishedField v_isFound v_bestWrong v_bestWorn v_bestMany v_soughtBy v_sought v_soughtAt v_foundMany v_foundOrder v_isKept v_imageRows v_imageColumns v_imageFolded v_imageWronged v_bodies v_ran v_ownKind v_ownNumber v_limit v_changeWas v_changeIs v_shapeRows v_shapeColumns v_row v_column v_below v_face v_worn v_lastBend v_tape v_text v_names v_bends v_high v_to v_pileSize v_planLine v_planWay v_way1 v_bestWay v_order1 v_placeIn v_bodyKind v_trace v_shelf v_many v_items v_carried) (some (.int r)) := by
  refine mm_of (by decide) (Nat.le_of_ble_eq_true rfl) ?_
  intro p e s m args below meth c A H locs ls C0 hP hD hA hS hl
  have C0 : mm_Cx p s m args meth c RX9 cX9_kindOf 2 (some .int) D (mm_T cI cL cS cH) A := C0
  obtain ⟨hx, hb, hml, hown, hts, hr, hlocks, hK, hSt⟩ := id C0
  have hl : lv_has ls 2 [(0, .ref (a 0)), (1, .int x1)] := hl
  unfold fX9_kindOf at hf
  refine lv_aload_n hx hb dX9_kindOf_0 rfl (lv_at hl 0 rfl) ?_
  refine mm_get C0 hP iw_X9 0 rfl rfl 60 (by decide) fl_X9_82 rfl dX9_kindOf_1 ?_
  refine lv_iload_n hx hb dX9_kindOf_4 rfl (lv_at hl 1 rfl) ?_
  obtain ⟨h_1, hf⟩ := mm_cks hf
  refine mm_iald C0 hP 25 rfl h_1 dX9_kindOf_5 ?_
  obtain rfl := mm_inj1 hf
  exact mm_iret C0 hP hD hS dX9_kindOf_6

theorem dX9_body_0 : decode cX9_body 0 = .ok (.iload_n 1, 1) := by decide +kernel
theorem dX9_body_1 : decode cX9_body 1 = .ok (.i2l, 1) := by decide +kernel
theorem dX9_body_2 : decode cX9_body 2 = .ok (.lconst 0, 1) := by decide +kernel
theorem dX9_body_3 : decode cX9_body 3 = .ok (.ldc2_w 238, 3) := by decide +kernel
theorem dX9_body_6 : decode cX9_body 6 = .ok (.invokestatic 111, 3) := by decide +kernel
theorem dX9_body_9 : decode cX9_body 9 = .ok (.ifCond .ne 5, 3) := by decide +kernel
theorem dX9_body_12 : decode cX9_body 12 = .ok (.iconst (-1), 1) := by decide +kernel
theorem dX9_body_13 : decode cX9_body 13 = .ok (.ireturn, 1) := by decide +kernel
theorem dX9_body_14 : decode cX9_body 14 = .ok (.aload_n 0, 1) := by decide +kernel
theorem dX9_body_15 : decode cX9_body 15 = .ok (.getfield 395, 3) := by decide +kernel
theorem dX9_body_18 : decode cX9_body 18 = .ok (.bipush 50, 2) := by decide +kernel
theorem dX9_body_20 : decode cX9_body 20 = .ok (.if_icmp .ne 6, 3) := by decide +kernel
theorem dX9_body_23 : decode cX9_body 23 = .ok (.bipush (-3), 2) := by decide +kernel
theorem dX9_body_25 : decode cX9_body 25 = .ok (.ireturn, 1) := by decide +kernel
theorem dX9_body_26 : decode cX9_body 26 = .ok (.aload_n 0, 1) := by decide +kernel
theorem dX9_body_27 : decode cX9_body 27 = .ok (.getfield 82, 3) := by decide +kernel
theorem dX9_body_30 : decode cX9_body 30 = .ok (.aload_n 0, 1) := by decide +kernel
theorem dX9_body_31 : decode cX9_body 31 = .ok (.getfield 395, 3) := by decide +kernel
theorem dX9_body_34 : decode cX9_body 34 = .ok (.iload_n 1, 1) := by decide +kernel
theorem dX9_body_35 : decode cX9_body 35 = .ok (.iastore, 1) := by decide +kernel
theorem dX9_body_36 : decode cX9_body 36 = .ok (.aload_n 0, 1) := by decide +kernel
theorem dX9_body_37 : decode cX9_body 37 = .ok (.dup, 1) := by decide +kernel
theorem dX9_body_38 : decode cX9_body 38 = .ok (.getfield 395, 3) := by decide +kernel
theorem dX9_body_41 : decode cX9_body 41 = .ok (.iconst 1, 1) := by decide +kernel
theorem dX9_body_42 : decode cX9_body 42 = .ok (.iadd, 1) := by decide +kernel
theorem dX9_body_43 : decode cX9_body 43 = .ok (.putfield 395, 3) := by decide +kernel
theorem dX9_body_46 : decode cX9_body 46 = .ok (.aload_n 0, 1) := by decide +kernel
theorem dX9_body_47 : decode cX9_body 47 = .ok (.getfield 395, 3) := by decide +kernel
theorem dX9_body_50 : decode cX9_body 50 = .ok (.iconst 1, 1) := by decide +kernel
theorem dX9_body_51 : decode cX9_body 51 = .ok (.isub, 1) := by decide +kernel
theorem dX9_body_52 : decode cX9_body 52 = .ok (.ireturn, 1) := by decide +kernel
def fX9_body (N : Nat) (x1 : Int32) (v_bodies : Int32) (v_bodyKind : List Int32) : Option (Int32 × Int32 × List Int32) :=
    mm_bd1 (fX9_within N ((x1).toInt64) (0 : Int64) (7 : Int64)) (fun (r_1 : Bool) =>
    if r_1 = false then
    (some ((-1 : Int32), v_bodies, v_bodyKind))
    else (if v_bodies = (50 : Int32) then
    (some ((-3 : Int32), v_bodies, v_bodyKind))
    else (mm_ck (mm_inb v_bodies v_bodyKind.length) (mm_nm (mm_is v_bodyKind v_bodies x1) (fun (l_6 : List Int32) =>
    mm_nm ((v_bodies + (1 : Int32))) (fun (y_7 : Int32) =>
    some ((y_7 - (1 : Int32)), y_7, l_6)))))))

set_option maxHeartbeats 4000000 in
set_option maxRecDepth 100000 in
theorem ctX9_body {l : Launch} {D : va_G} {cI cL cS cH : ClassId} {a : Nat → Nat} {x1 : Int32} {v_keptMany : Int32} {v_done : Int32} {v_rowsOf : Int32} {v_columnsOf : Int32} {v_folded : Int32} {v_wronged : Int32} {v_tapeMany : Int32} {v_textMany : Int32} {v_base : Int32} {v_at : Int32} {v_ends : Int32} {v_fault : Int32} {v_opened : Int32} {v_bentMany : Int32} {v_bentWrong : Int32} {v_moreWorn : Int32} {v_planned : Int32} {v_allWrong : Int32} {v_allWorn : Int32} {v_z : Int32} {v_wishedField : Int32} {v_isFound : Bool} {v_bestWrong : Int32} {v_bestWorn : Int32} {v_bestMany : Int32} {v_soughtBy : Int32} {v_sought : Int32} {v_soughtAt : Int32} {v_foundMany : Int32} {v_foundOrder : Int32} {v_isKept : Bool} {v_imageRows : Int32} {v_imageColumns : Int32} {v_imageFolded : Int32} {v_imageWronged : Int32} {v_bodies : Int32} {v_ran : Int32} {v_ownKind : Int32} {v_ownNumber : Int32} {v_limit : List Int32} {v_changeWas : List Int32} {v_changeIs : List Int32} {v_shapeRows : List Int32} {v_shapeColumns : List Int32} {v_row : List Int32} {v_column : List Int32} {v_below : List Int32} {v_face : List Int32} {v_worn : List Int32} {v_lastBend : List Int32} {v_tape : List Int32} {v_text : List Int32} {v_names : List Int32} {v_bends : List Int32} {v_high : List Int32} {v_to : List Int32} {v_pileSize : List Int32} {v_planLine : List Int32} {v_planWay : List Int32} {v_way1 : List Int32} {v_bestWay : List Int32} {v_order1 : List Int32} {v_placeIn : List Int32} {v_bodyKind : List Int32} {v_trace : List Int32} {v_shelf : List Int32} {v_many : List Int32} {v_items : List Int64} {v_carried : List Int64} {r : Int32} {w_bodies : Int32} {w_bodyKind : List Int32} {N d : Nat} (hd : 2 ≤ d) (hf : fX9_body N x1 v_bodies v_bodyKind = some (r, w_bodies, w_bodyKind)) : mm_Ct l yX9_body cX9_body 2 (some .int) d D (mm_T cI cL cS cH) [.ref (a 0), .int x1] (wd_X9 cI cL cS cH a v_keptMany v_done v_rowsOf v_columnsOf v_folded v_wronged v_tapeMany v_textMany v_base v_at v_ends v_fault v_opened v_bentMany v_bentWrong v_moreWorn v_planned v_allWrong v_allWorn v_z v_wishedField v_isFound v_bestWrong v_bestWorn v_bestMany v_soughtBy v_sought v_soughtAt v_foundMany v_foundOrder v_isKept v_imageRows v_imageColumns v_imageFolded v_imageWronged v_bodies v_ran v_ownKind v_ownNumber v_limit v_changeWas v_changeIs v_shapeRows v_shapeColumns v_row v_column v_below v_face v_worn v_lastBend v_tape v_text v_names v_bends v_high v_to v_pileSize v_planLine v_planWay v_way1 v_bestWay v_order1 v_placeIn v_bodyKind v_trace v_shelf v_many v_items v_carried) (wd_X9 cI cL cS cH a v_keptMany v_done v_rowsOf v_columnsOf v_folded v_wronged v_tapeMany v_textMany v_base v_at v_ends v_fault v_opened v_bentMany v_bentWrong v_moreWorn v_planned v_allWrong v_allWorn v_z v_wishedField v_isFound v_bestWrong v_bestWorn v_bestMany v_soughtBy v_sought v_soughtAt v_foundMany v_foundOrder v_isKept v_imageRows v_imageColumns v_imageFolded v_imageWronged w_bodies v_ran v_ownKind v_ownNumber v_limit v_changeWas v_changeIs v_shapeRows v_shapeColumns v_row v_column v_below v_face v_worn v_lastBend v_tape v_text v_names v_bends v_high v_to v_pileSize v_planLine v_planWay v_way1 v_bestWay v_order1 v_placeIn w_bodyKind v_trace v_shelf v_many v_items v_carried) (some (.int r)) := by
  refine mm_of (by decide) (Nat.le_of_ble_eq_true rfl) ?_
  intro p e s m args below meth c A H locs ls C0 hP hD hA hS hl
  have C0 : mm_Cx p s m args meth c RX9 cX9_body 2 (some .int) D (mm_T cI cL cS cH) A := C0
  obtain ⟨hx, hb, hml, hown, hts, hr, hlocks, hK, hSt⟩ := id C0
  have hl : lv_has ls 2 [(0, .ref (a 0)), (1, .int x1)] := hl
  unfold fX9_body at hf
  refine lv_iload_n hx hb dX9_body_0 rfl (lv_at hl 1 rfl) ?_
  refine lv_i2l hx hb dX9_body_1 rfl ?_
  refine lv_lconst (v := 0) hx hb dX9_body_2 (by decide) ?_
  refine lv_ldc2 hx hb hown (hts _ kc_X9_238) dX9_body_3 ?_
  obtain ⟨r_1, hc_2, hf⟩ := mm_bd1s hf
  refine mm_callS0 (rest := []) C0 lk_X9_111 (ctX9_within (d := d - 1) (by omega) hc_2) (by omega) rfl hl.1 rfl (mm_cat rfl) dX9_body_6 hP hD hA hS (fun H locs hP hS => ?_)
  refine W.eq (g2 := F0 m 9 ls [.int (mm_b r_1)]) rfl ?_
  refine lv_if_ne (tgt := 14) hx hb dX9_body_9 (by decide) (fun c_3 => ?_) (fun c_3 => ?_)
  · have hf := mm_in hf (mm_b1 c_3)
    refine lv_aload_n hx hb dX9_body_14 rfl (lv_at hl 0 rfl) ?_
    refine mm_get C0 hP iw_X9 0 rfl rfl 59 (by decide) fl_X9_395 rfl dX9_body_15 ?_
    refine lv_bipush (v := 50) hx hb dX9_body_18 (by decide) ?_
    refine lv_icmp_ne (tgt := 26) hx hb dX9_body_20 (by decide) (fun c_4 => ?_) (fun c_4 => ?_)
    · have hf := mm_in hf c_4
      refine lv_aload_n hx hb dX9_body_26 rfl (lv_at hl 0 rfl) ?_
      refine mm_get C0 hP iw_X9 0 rfl rfl 60 (by decide) fl_X9_82 rfl dX9_body_27 ?_
      refine lv_aload_n hx hb dX9_body_30 rfl (lv_at hl 0 rfl) ?_
      refine mm_get C0 hP iw_X9 0 rfl rfl 59 (by decide) fl_X9_395 rfl dX9_body_31 ?_
      refine lv_iload_n hx hb dX9_body_34 rfl (lv_at hl 1 rfl) ?_
      obtain ⟨h_5, hf⟩ := mm_cks hf
      refine mm_iast C0 hP hD hS 25 rfl h_5 dX9_body_35 (w2 := (wd_X9 cI cL cS cH a v_keptMany v_done v_rowsOf v_columnsOf v_folded v_wronged v_tapeMany v_textMany v_base v_at v_ends v_fault v_opened v_bentMany v_bentWrong v_moreWorn v_planned v_allWrong v_allWorn v_z v_wishedField v_isFound v_bestWrong v_bestWorn v_bestMany v_soughtBy v_sought v_soughtAt v_foundMany v_foundOrder v_isKept v_imageRows v_imageColumns v_imageFolded v_imageWronged v_bodies v_ran v_ownKind v_ownNumber v_limit v_changeWas v_changeIs v_shapeRows v_shapeColumns v_row v_column v_below v_face v_worn v_lastBend v_tape v_text v_names v_bends v_high v_to v_pileSize v_planLine v_planWay v_way1 v_bestWay v_order1 v_placeIn (mm_is v_bodyKind v_bodies x1) v_trace v_shelf v_many v_items v_carried)) rfl (fun H locs hP hD hS => ?_)
      generalize el_6 : (mm_is v_bodyKind v_bodies x1) = l_6 at hP hD
      have hf := mm_nms hf el_6.symm
      refine lv_aload_n hx hb dX9_body_36 rfl (lv_at hl 0 rfl) ?_
      refine lv_dup hx hb dX9_body_37 rfl ?_
      refine mm_get C0 hP iw_X9 0 rfl rfl 59 (by decide) fl_X9_395 rfl dX9_body_38 ?_
      refine lv_iconst (v := 1) hx hb dX9_body_41 (by decide) ?_
      refine lv_iadd hx hb dX9_body_42 ?_
      refine lv_topi (fun y_7 ey_7 => ?_)
      have hf := mm_nms hf ey_7
      refine mm_put C0 hP hD hS iw_X9 tyX9 tyX9_ok nmX9 0 rfl rfl 59 (by decide) fl_X9_395 rfl rfl rfl (Nat.le_of_ble_eq_true rfl) dX9_body_43 (w2 := (wd_X9 cI cL cS cH a v_keptMany v_done v_rowsOf v_columnsOf v_folded v_wronged v_tapeMany v_textMany v_base v_at v_ends v_fault v_opened v_bentMany v_bentWrong v_moreWorn v_planned v_allWrong v_allWorn v_z v_wishedField v_isFound v_bestWrong v_bestWorn v_bestMany v_soughtBy v_sought v_soughtAt v_foundMany v_foundOrder v_isKept v_imageRows v_imageColumns v_imageFolded v_imageWronged y_7 v_ran v_ownKind v_ownNumber v_limit v_changeWas v_changeIs v_shapeRows v_shapeColumns v_row v_column v_below v_face v_worn v_lastBend v_tape v_text v_names v_bends v_high v_to v_pileSize v_planLine v_planWay v_way1 v_bestWay v_order1 v_placeIn l_6 v_trace v_shelf v_many v_items v_carried)) rfl (fun H locs hP hD hS => ?_)
      refine lv_aload_n hx hb dX9_body_46 rfl (lv_at hl 0 rfl) ?_
      refine mm_get C0 hP iw_X9 0 rfl rfl 59 (by decide) fl_X9_395 rfl dX9_body_47 ?_
      refine lv_iconst (v := 1) hx hb dX9_body_50 (by decide) ?_
      refine lv_isub hx hb dX9_body_51 ?_
      apply mm_sub3 hf
      exact mm_iret C0 hP hD hS dX9_body_52
    · have hf := mm_ip hf c_4
      refine lv_bipush (v := -3) hx hb dX9_body_23 (by decide) ?_
      apply mm_sub3 hf
      exact mm_iret C0 hP hD hS dX9_body_25
  · have hf := mm_ip hf (mm_b0 c_3)
    refine lv_iconst (v := -1) hx hb dX9_body_12 (by decide) ?_
    apply mm_sub3 hf
    exact mm_iret C0 hP hD hS dX9_body_13

theorem dX9_above_0 : decode cX9_above 0 = .ok (.iload_n 0, 1) := by decide +kernel
theorem dX9_above_1 : decode cX9_above 1 = .ok (.iconst 3, 1) := by decide +kernel
theorem dX9_above_2 : decode cX9_above 2 = .ok (.if_icmp .ne 7, 3) := by decide +kernel
theorem dX9_above_5 : decode cX9_above 5 = .ok (.iconst 2, 1) := by decide +kernel
theorem dX9_above_6 : decode cX9_above 6 = .ok (.goto 33, 3) := by decide +kernel
theorem dX9_above_9 : decode cX9_above 9 = .ok (.iload_n 0, 1) := by decide +kernel
theorem dX9_above_10 : decode cX9_above 10 = .ok (.iconst 5, 1) := by decide +kernel
theorem dX9_above_11 : decode cX9_above 11 = .ok (.if_icmp .ne 7, 3) := by decide +kernel
theorem dX9_above_14 : decode cX9_above 14 = .ok (.iconst 3, 1) := by decide +kernel
theorem dX9_above_15 : decode cX9_above 15 = .ok (.goto 24, 3) := by decide +kernel
theorem dX9_above_18 : decode cX9_above 18 = .ok (.iload_n 0, 1) := by decide +kernel
theorem dX9_above_19 : decode cX9_above 19 = .ok (.bipush 6, 2) := by decide +kernel
theorem dX9_above_21 : decode cX9_above 21 = .ok (.if_icmp .ne 7, 3) := by decide +kernel
theorem dX9_above_24 : decode cX9_above 24 = .ok (.iconst 1, 1) := by decide +kernel
theorem dX9_above_25 : decode cX9_above 25 = .ok (.goto 14, 3) := by decide +kernel
theorem dX9_above_28 : decode cX9_above 28 = .ok (.iload_n 0, 1) := by decide +kernel
theorem dX9_above_29 : decode cX9_above 29 = .ok (.bipush 7, 2) := by decide +kernel
theorem dX9_above_31 : decode cX9_above 31 = .ok (.if_icmp .ne 7, 3) := by decide +kernel
theorem dX9_above_34 : decode cX9_above 34 = .ok (.iconst 4, 1) := by decide +kernel
theorem dX9_above_35 : decode cX9_above 35 = .ok (.goto 4, 3) := by decide +kernel
theorem dX9_above_38 : decode cX9_above 38 = .ok (.iconst 0, 1) := by decide +kernel
theorem dX9_above_39 : decode cX9_above 39 = .ok (.ireturn, 1) := by decide +kernel
def fX9_above (N : Nat) (x0 : Int32) : Option (Int32) :=
    if x0 = (3 : Int32) then
    (some ((2 : Int32)))
    else (if x0 = (5 : Int32) then
    (some ((3 : Int32)))
    else (if x0 = (6 : Int32) then
    (some ((1 : Int32)))
    else (if x0 = (7 : Int32) then
    (some ((4 : Int32)))
    else (some ((0 : Int32))))))

set_option maxHeartbeats 4000000 in
set_option maxRecDepth 100000 in
theorem ctX9_above {l : Launch} {D : va_G} {cI cL cS cH : ClassId} {x0 : Int32}  {r : Int32} {N d : Nat} (hd : 1 ≤ d) (hf : fX9_above N x0 = some r) : mm_Ct l yX9_above cX9_above 1 (some .int) d D (mm_T cI cL cS cH) [.int x0] ([] : va_W) ([] : va_W) (some (.int r)) := by
  refine mm_of (by decide) (Nat.le_of_ble_eq_true rfl) ?_
  intro p e s m args below meth c A H locs ls C0 hP hD hA hS hl
  have C0 : mm_Cx p s m args meth c RX9 cX9_above 1 (some .int) D (mm_T cI cL cS cH) A := C0
  obtain ⟨hx, hb, hml, hown, hts, hr, hlocks, hK, hSt⟩ := id C0
  have hl : lv_has ls 1 [(0, .int x0)] := hl
  unfold fX9_above at hf
  refine lv_iload_n hx hb dX9_above_0 rfl (lv_at hl 0 rfl) ?_
  refine lv_iconst (v := 3) hx hb dX9_above_1 (by decide) ?_
  refine lv_icmp_ne (tgt := 9) hx hb dX9_above_2 (by decide) (fun c_1 => ?_) (fun c_1 => ?_)
  · have hf := mm_in hf c_1
    refine lv_iload_n hx hb dX9_above_9 rfl (lv_at hl 0 rfl) ?_
    refine lv_iconst (v := 5) hx hb dX9_above_10 (by decide) ?_
    refine lv_icmp_ne (tgt := 18) hx hb dX9_above_11 (by decide) (fun c_2 => ?_) (fun c_2 => ?_)
    · have hf := mm_in hf c_2
      refine lv_iload_n hx hb dX9_above_18 rfl (lv_at hl 0 rfl) ?_
      refine lv_bipush (v := 6) hx hb dX9_above_19 (by decide) ?_
      refine lv_icmp_ne (tgt := 28) hx hb dX9_above_21 (by decide) (fun c_3 => ?_) (fun c_3 => ?_)
      · have hf := mm_in hf c_3
        refine lv_iload_n hx hb dX9_above_28 rfl (lv_at hl 0 rfl) ?_
        refine lv_bipush (v := 7) hx hb dX9_above_29 (by decide) ?_
        refine lv_icmp_ne (tgt := 38) hx hb dX9_above_31 (by decide) (fun c_4 => ?_) (fun c_4 => ?_)
        · have hf := mm_in hf c_4
          refine lv_iconst (v := 0) hx hb dX9_above_38 (by decide) ?_
          obtain rfl := mm_inj1 hf
          exact mm_iret C0 hP hD hS dX9_above_39
        · have hf := mm_ip hf c_4
          refine lv_iconst (v := 4) hx hb dX9_above_34 (by decide) ?_
          refine lv_goto (tgt := 39) hx hb dX9_above_35 (by decide) ?_
          obtain rfl := mm_inj1 hf
          exact mm_iret C0 hP hD hS dX9_above_39
      · have hf := mm_ip hf c_3
        refine lv_iconst (v := 1) hx hb dX9_above_24 (by decide) ?_
        refine lv_goto (tgt := 39) hx hb dX9_above_25 (by decide) ?_
        obtain rfl := mm_inj1 hf
        exact mm_iret C0 hP hD hS dX9_above_39
    · have hf := mm_ip hf c_2
      refine lv_iconst (v := 3) hx hb dX9_above_14 (by decide) ?_
      refine lv_goto (tgt := 39) hx hb dX9_above_15 (by decide) ?_
      obtain rfl := mm_inj1 hf
      exact mm_iret C0 hP hD hS dX9_above_39
  · have hf := mm_ip hf c_1
    refine lv_iconst (v := 2) hx hb dX9_above_5 (by decide) ?_
    refine lv_goto (tgt := 39) hx hb dX9_above_6 (by decide) ?_
    obtain rfl := mm_inj1 hf
    exact mm_iret C0 hP hD hS dX9_above_39

