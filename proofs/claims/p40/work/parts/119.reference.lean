/-! reference: X9_begins, X9_foldsAs, X9_wearsAs, X9_laysAs, X9_tellsAs, X9_act -/
theorem dX9_begins_0 : decode cX9_begins 0 = .ok (.aload_n 0, 1) := by decide +kernel
theorem dX9_begins_1 : decode cX9_begins 1 = .ok (.getfield 398, 3) := by decide +kernel
theorem dX9_begins_4 : decode cX9_begins 4 = .ok (.bipush 24, 2) := by decide +kernel
theorem dX9_begins_6 : decode cX9_begins 6 = .ok (.if_icmp .ge 13, 3) := by decide +kernel
theorem dX9_begins_9 : decode cX9_begins 9 = .ok (.aload_n 0, 1) := by decide +kernel
theorem dX9_begins_10 : decode cX9_begins 10 = .ok (.getfield 85, 3) := by decide +kernel
theorem dX9_begins_13 : decode cX9_begins 13 = .ok (.aload_n 0, 1) := by decide +kernel
theorem dX9_begins_14 : decode cX9_begins 14 = .ok (.getfield 398, 3) := by decide +kernel
theorem dX9_begins_17 : decode cX9_begins 17 = .ok (.iload_n 1, 1) := by decide +kernel
theorem dX9_begins_18 : decode cX9_begins 18 = .ok (.iastore, 1) := by decide +kernel
theorem dX9_begins_19 : decode cX9_begins 19 = .ok (.aload_n 0, 1) := by decide +kernel
theorem dX9_begins_20 : decode cX9_begins 20 = .ok (.dup, 1) := by decide +kernel
theorem dX9_begins_21 : decode cX9_begins 21 = .ok (.getfield 398, 3) := by decide +kernel
theorem dX9_begins_24 : decode cX9_begins 24 = .ok (.iconst 1, 1) := by decide +kernel
theorem dX9_begins_25 : decode cX9_begins 25 = .ok (.iadd, 1) := by decide +kernel
theorem dX9_begins_26 : decode cX9_begins 26 = .ok (.putfield 398, 3) := by decide +kernel
theorem dX9_begins_29 : decode cX9_begins 29 = .ok (.return_, 1) := by decide +kernel
def fX9_begins_19 (N : Nat)  (v_ran : Int32) (v_trace : List Int32) : Option (Int32 × List Int32) :=
    mm_nm ((v_ran + (1 : Int32))) (fun (y_4 : Int32) =>
    some (y_4, v_trace))

set_option maxHeartbeats 4000000 in
set_option maxRecDepth 100000 in
theorem tX9_begins_19 {p : Program} {l : Launch} {e : Env} {s : State} {m : MethodId} {args : Array Value} {below : List Frame} {meth : Method} {c : Code} {D : va_G} {cI cL cS cH : ClassId} {A : Nat → Prop} {d : Nat} {a : Nat → Nat} (hd : 1 ≤ d) (C0 : mm_Cx p s m args meth c RX9 cX9_begins 2 none D (mm_T cI cL cS cH) A) (hA : ∀ q, s.heap.size ≤ q → A q) {v_keptMany : Int32} {v_done : Int32} {v_rowsOf : Int32} {v_columnsOf : Int32} {v_folded : Int32} {v_wronged : Int32} {v_tapeMany : Int32} {v_textMany : Int32} {v_base : Int32} {v_at : Int32} {v_ends : Int32} {v_fault : Int32} {v_opened : Int32} {v_bentMany : Int32} {v_bentWrong : Int32} {v_moreWorn : Int32} {v_planned : Int32} {v_allWrong : Int32} {v_allWorn : Int32} {v_z : Int32} {v_wishedField : Int32} {v_isFound : Bool} {v_bestWrong : Int32} {v_bestWorn : Int32} {v_bestMany : Int32} {v_soughtBy : Int32} {v_sought : Int32} {v_soughtAt : Int32} {v_foundMany : Int32} {v_foundOrder : Int32} {v_isKept : Bool} {v_imageRows : Int32} {v_imageColumns : Int32} {v_imageFolded : Int32} {v_imageWronged : Int32} {v_bodies : Int32} {v_ownKind : Int32} {v_ownNumber : Int32} {v_limit : List Int32} {v_changeWas : List Int32} {v_changeIs : List Int32} {v_shapeRows : List Int32} {v_shapeColumns : List Int32} {v_row : List Int32} {v_column : List Int32} {v_below : List Int32} {v_face : List Int32} {v_worn : List Int32} {v_lastBend : List Int32} {v_tape : List Int32} {v_text : List Int32} {v_names : List Int32} {v_bends : List Int32} {v_high : List Int32} {v_to : List Int32} {v_pileSize : List Int32} {v_planLine : List Int32} {v_planWay : List Int32} {v_way1 : List Int32} {v_bestWay : List Int32} {v_order1 : List Int32} {v_placeIn : List Int32} {v_bodyKind : List Int32} {v_shelf : List Int32} {v_many : List Int32} {v_items : List Int64} {v_carried : List Int64} {w_ran : Int32} {w_trace : List Int32} (N : Nat)  : ∀ (v_ran : Int32) (v_trace : List Int32) (H : Heap) (locs : List Loc) (ls : Array Slot), fX9_begins_19 N v_ran v_trace = some (w_ran, w_trace) → va_P D mm_cl (wd_X9 cI cL cS cH a v_keptMany v_done v_rowsOf v_columnsOf v_folded v_wronged v_tapeMany v_textMany v_base v_at v_ends v_fault v_opened v_bentMany v_bentWrong v_moreWorn v_planned v_allWrong v_allWorn v_z v_wishedField v_isFound v_bestWrong v_bestWorn v_bestMany v_soughtBy v_sought v_soughtAt v_foundMany v_foundOrder v_isKept v_imageRows v_imageColumns v_imageFolded v_imageWronged v_bodies v_ran v_ownKind v_ownNumber v_limit v_changeWas v_changeIs v_shapeRows v_shapeColumns v_row v_column v_below v_face v_worn v_lastBend v_tape v_text v_names v_bends v_high v_to v_pileSize v_planLine v_planWay v_way1 v_bestWay v_order1 v_placeIn v_bodyKind v_trace v_shelf v_many v_items v_carried) H → va_D A (wd_X9 cI cL cS cH a v_keptMany v_done v_rowsOf v_columnsOf v_folded v_wronged v_tapeMany v_textMany v_base v_at v_ends v_fault v_opened v_bentMany v_bentWrong v_moreWorn v_planned v_allWrong v_allWorn v_z v_wishedField v_isFound v_bestWrong v_bestWorn v_bestMany v_soughtBy v_sought v_soughtAt v_foundMany v_foundOrder v_isKept v_imageRows v_imageColumns v_imageFolded v_imageWronged v_bodies v_ran v_ownKind v_ownNumber v_limit v_changeWas v_changeIs v_shapeRows v_shapeColumns v_row v_column v_below v_face v_worn v_lastBend v_tape v_text v_names v_bends v_high v_to v_pileSize v_planLine v_planWay v_way1 v_bestWay v_order1 v_placeIn v_bodyKind v_trace v_shelf v_many v_items v_carried) → va_S A s.heap H locs → lv_has ls 2 [(0, .ref (a 0))] → W p l e (mm_rr d) s m args below meth c H locs 0 0 (mm_Z below D A (wd_X9 cI cL cS cH a v_keptMany v_done v_rowsOf v_columnsOf v_folded v_wronged v_tapeMany v_textMany v_base v_at v_ends v_fault v_opened v_bentMany v_bentWrong v_moreWorn v_planned v_allWrong v_allWorn v_z v_wishedField v_isFound v_bestWrong v_bestWorn v_bestMany v_soughtBy v_sought v_soughtAt v_foundMany v_foundOrder v_isKept v_imageRows v_imageColumns v_imageFolded v_imageWronged v_bodies w_ran v_ownKind v_ownNumber v_limit v_changeWas v_changeIs v_shapeRows v_shapeColumns v_row v_column v_below v_face v_worn v_lastBend v_tape v_text v_names v_bends v_high v_to v_pileSize v_planLine v_planWay v_way1 v_bestWay v_order1 v_placeIn v_bodyKind w_trace v_shelf v_many v_items v_carried) none args s) (F0 m 19 ls []) := by
  obtain ⟨hx, hb, hml, hown, hts, hr, hlocks, hK, hSt⟩ := id C0
  intro v_ran v_trace H locs ls hf hP hD hS hl
  unfold fX9_begins_19 at hf
  refine lv_aload_n hx hb dX9_begins_19 rfl (lv_at hl 0 rfl) ?_
  refine lv_dup hx hb dX9_begins_20 rfl ?_
  refine mm_get C0 hP iw_X9 0 rfl rfl 62 (by decide) fl_X9_398 rfl dX9_begins_21 ?_
  refine lv_iconst (v := 1) hx hb dX9_begins_24 (by decide) ?_
  refine lv_iadd hx hb dX9_begins_25 ?_
  refine lv_topi (fun y_4 ey_4 => ?_)
  have hf := mm_nms hf ey_4
  refine mm_put C0 hP hD hS iw_X9 tyX9 tyX9_ok nmX9 0 rfl rfl 62 (by decide) fl_X9_398 rfl rfl rfl (Nat.le_of_ble_eq_true rfl) dX9_begins_26 (w2 := (wd_X9 cI cL cS cH a v_keptMany v_done v_rowsOf v_columnsOf v_folded v_wronged v_tapeMany v_textMany v_base v_at v_ends v_fault v_opened v_bentMany v_bentWrong v_moreWorn v_planned v_allWrong v_allWorn v_z v_wishedField v_isFound v_bestWrong v_bestWorn v_bestMany v_soughtBy v_sought v_soughtAt v_foundMany v_foundOrder v_isKept v_imageRows v_imageColumns v_imageFolded v_imageWronged v_bodies y_4 v_ownKind v_ownNumber v_limit v_changeWas v_changeIs v_shapeRows v_shapeColumns v_row v_column v_below v_face v_worn v_lastBend v_tape v_text v_names v_bends v_high v_to v_pileSize v_planLine v_planWay v_way1 v_bestWay v_order1 v_placeIn v_bodyKind v_trace v_shelf v_many v_items v_carried)) rfl (fun H locs hP hD hS => ?_)
  apply mm_sub2 hf
  exact mm_vret C0 hP hD hS dX9_begins_29

def fX9_begins (N : Nat) (x1 : Int32) (v_ran : Int32) (v_trace : List Int32) : Option (Int32 × List Int32) :=
    if (24 : Int32) ≤ v_ran then
    (fX9_begins_19 N v_ran v_trace)
    else (mm_ck (mm_inb v_ran v_trace.length) (mm_nm (mm_is v_trace v_ran x1) (fun (l_3 : List Int32) =>
    fX9_begins_19 N v_ran l_3)))

set_option maxHeartbeats 4000000 in
set_option maxRecDepth 100000 in
theorem ctX9_begins {l : Launch} {D : va_G} {cI cL cS cH : ClassId} {a : Nat → Nat} {x1 : Int32} {v_keptMany : Int32} {v_done : Int32} {v_rowsOf : Int32} {v_columnsOf : Int32} {v_folded : Int32} {v_wronged : Int32} {v_tapeMany : Int32} {v_textMany : Int32} {v_base : Int32} {v_at : Int32} {v_ends : Int32} {v_fault : Int32} {v_opened : Int32} {v_bentMany : Int32} {v_bentWrong : Int32} {v_moreWorn : Int32} {v_planned : Int32} {v_allWrong : Int32} {v_allWorn : Int32} {v_z : Int32} {v_wishedField : Int32} {v_isFound : Bool} {v_bestWrong : Int32} {v_bestWorn : Int32} {v_bestMany : Int32} {v_soughtBy : Int32} {v_sought : Int32} {v_soughtAt : Int32} {v_foundMany : Int32} {v_foundOrder : Int32} {v_isKept : Bool} {v_imageRows : Int32} {v_imageColumns : Int32} {v_imageFolded : Int32} {v_imageWronged : Int32} {v_bodies : Int32} {v_ran : Int32} {v_ownKind : Int32} {v_ownNumber : Int32} {v_limit : List Int32} {v_changeWas : List Int32} {v_changeIs : List Int32} {v_shapeRows : List Int32} {v_shapeColumns : List Int32} {v_row : List Int32} {v_column : List Int32} {v_below : List Int32} {v_face : List Int32} {v_worn : List Int32} {v_lastBend : List Int32} {v_tape : List Int32} {v_text : List Int32} {v_names : List Int32} {v_bends : List Int32} {v_high : List Int32} {v_to : List Int32} {v_pileSize : List Int32} {v_planLine : List Int32} {v_planWay : List Int32} {v_way1 : List Int32} {v_bestWay : List Int32} {v_order1 : List Int32} {v_placeIn : List Int32} {v_bodyKind : List Int32} {v_trace : List Int32} {v_shelf : List Int32} {v_many : List Int32} {v_items : List Int64} {v_carried : List Int64} {w_ran : Int32} {w_trace : List Int32} {N d : Nat} (hd : 1 ≤ d) (hf : fX9_begins N x1 v_ran v_trace = some (w_ran, w_trace)) : mm_Ct l yX9_begins cX9_begins 2 none d D (mm_T cI cL cS cH) [.ref (a 0), .int x1] (wd_X9 cI cL cS cH a v_keptMany v_done v_rowsOf v_columnsOf v_folded v_wronged v_tapeMany v_textMany v_base v_at v_ends v_fault v_opened v_bentMany v_bentWrong v_moreWorn v_planned v_allWrong v_allWorn v_z v_wishedField v_isFound v_bestWrong v_bestWorn v_bestMany v_soughtBy v_sought v_soughtAt v_foundMany v_foundOrder v_isKept v_imageRows v_imageColumns v_imageFolded v_imageWronged v_bodies v_ran v_ownKind v_ownNumber v_limit v_changeWas v_changeIs v_shapeRows v_shapeColumns v_row v_column v_below v_face v_worn v_lastBend v_tape v_text v_names v_bends v_high v_to v_pileSize v_planLine v_planWay v_way1 v_bestWay v_order1 v_placeIn v_bodyKind v_trace v_shelf v_many v_items v_carried) (wd_X9 cI cL cS cH a v_keptMany v_done v_rowsOf v_columnsOf v_folded v_wronged v_tapeMany v_textMany v_base v_at v_ends v_fault v_opened v_bentMany v_bentWrong v_moreWorn v_planned v_allWrong v_allWorn v_z v_wishedField v_isFound v_bestWrong v_bestWorn v_bestMany v_soughtBy v_sought v_soughtAt v_foundMany v_foundOrder v_isKept v_imageRows v_imageColumns v_imageFolded v_imageWronged v_bodies w_ran v_ownKind v_ownNumber v_limit v_changeWas v_changeIs v_shapeRows v_shapeColumns v_row v_column v_below v_face v_worn v_lastBend v_tape v_text v_names v_bends v_high v_to v_pileSize v_planLine v_planWay v_way1 v_bestWay v_order1 v_placeIn v_bodyKind w_trace v_shelf v_many v_items v_carried) none := by
  refine mm_of (by decide) (Nat.le_of_ble_eq_true rfl) ?_
  intro p e s m args below meth c A H locs ls C0 hP hD hA hS hl
  have C0 : mm_Cx p s m args meth c RX9 cX9_begins 2 none D (mm_T cI cL cS cH) A := C0
  obtain ⟨hx, hb, hml, hown, hts, hr, hlocks, hK, hSt⟩ := id C0
  have hl : lv_has ls 2 [(0, .ref (a 0)), (1, .int x1)] := hl
  unfold fX9_begins at hf
  refine lv_aload_n hx hb dX9_begins_0 rfl (lv_at hl 0 rfl) ?_
  refine mm_get C0 hP iw_X9 0 rfl rfl 62 (by decide) fl_X9_398 rfl dX9_begins_1 ?_
  refine lv_bipush (v := 24) hx hb dX9_begins_4 (by decide) ?_
  refine lv_icmp_ge (tgt := 19) hx hb dX9_begins_6 (by decide) (fun c_1 => ?_) (fun c_1 => ?_)
  · have hf := mm_ip hf c_1
    exact tX9_begins_19 hd C0 hA N  _ _ H locs ls hf hP hD hS (lv_sub hl [0] rfl)
  · have hf := mm_in hf c_1
    refine lv_aload_n hx hb dX9_begins_9 rfl (lv_at hl 0 rfl) ?_
    refine mm_get C0 hP iw_X9 0 rfl rfl 61 (by decide) fl_X9_85 rfl dX9_begins_10 ?_
    refine lv_aload_n hx hb dX9_begins_13 rfl (lv_at hl 0 rfl) ?_
    refine mm_get C0 hP iw_X9 0 rfl rfl 62 (by decide) fl_X9_398 rfl dX9_begins_14 ?_
    refine lv_iload_n hx hb dX9_begins_17 rfl (lv_at hl 1 rfl) ?_
    obtain ⟨h_2, hf⟩ := mm_cks hf
    refine mm_iast C0 hP hD hS 26 rfl h_2 dX9_begins_18 (w2 := (wd_X9 cI cL cS cH a v_keptMany v_done v_rowsOf v_columnsOf v_folded v_wronged v_tapeMany v_textMany v_base v_at v_ends v_fault v_opened v_bentMany v_bentWrong v_moreWorn v_planned v_allWrong v_allWorn v_z v_wishedField v_isFound v_bestWrong v_bestWorn v_bestMany v_soughtBy v_sought v_soughtAt v_foundMany v_foundOrder v_isKept v_imageRows v_imageColumns v_imageFolded v_imageWronged v_bodies v_ran v_ownKind v_ownNumber v_limit v_changeWas v_changeIs v_shapeRows v_shapeColumns v_row v_column v_below v_face v_worn v_lastBend v_tape v_text v_names v_bends v_high v_to v_pileSize v_planLine v_planWay v_way1 v_bestWay v_order1 v_placeIn v_bodyKind (mm_is v_trace v_ran x1) v_shelf v_many v_items v_carried)) rfl (fun H locs hP hD hS => ?_)
    generalize el_3 : (mm_is v_trace v_ran x1) = l_3 at hP hD
    have hf := mm_nms hf el_3.symm
    exact tX9_begins_19 hd C0 hA N  _ _ H locs ls hf hP hD hS (lv_sub hl [0] rfl)

theorem dX9_foldsAs_0 : decode cX9_foldsAs 0 = .ok (.iload_n 1, 1) := by decide +kernel
theorem dX9_foldsAs_1 : decode cX9_foldsAs 1 = .ok (.bipush 6, 2) := by decide +kernel
theorem dX9_foldsAs_3 : decode cX9_foldsAs 3 = .ok (.if_icmp .ne 18, 3) := by decide +kernel
theorem dX9_foldsAs_6 : decode cX9_foldsAs 6 = .ok (.aload_n 0, 1) := by decide +kernel
theorem dX9_foldsAs_7 : decode cX9_foldsAs 7 = .ok (.bipush 70, 2) := by decide +kernel
theorem dX9_foldsAs_9 : decode cX9_foldsAs 9 = .ok (.invokevirtual 401, 3) := by decide +kernel
theorem dX9_foldsAs_12 : decode cX9_foldsAs 12 = .ok (.aload_n 0, 1) := by decide +kernel
theorem dX9_foldsAs_13 : decode cX9_foldsAs 13 = .ok (.iconst 1, 1) := by decide +kernel
theorem dX9_foldsAs_14 : decode cX9_foldsAs 14 = .ok (.iload_n 2, 1) := by decide +kernel
theorem dX9_foldsAs_15 : decode cX9_foldsAs 15 = .ok (.invokevirtual 404, 3) := by decide +kernel
theorem dX9_foldsAs_18 : decode cX9_foldsAs 18 = .ok (.iconst 2, 1) := by decide +kernel
theorem dX9_foldsAs_19 : decode cX9_foldsAs 19 = .ok (.imul, 1) := by decide +kernel
theorem dX9_foldsAs_20 : decode cX9_foldsAs 20 = .ok (.ireturn, 1) := by decide +kernel
theorem dX9_foldsAs_21 : decode cX9_foldsAs 21 = .ok (.iload_n 1, 1) := by decide +kernel
theorem dX9_foldsAs_22 : decode cX9_foldsAs 22 = .ok (.iconst 1, 1) := by decide +kernel
theorem dX9_foldsAs_23 : decode cX9_foldsAs 23 = .ok (.if_icmp .ne 18, 3) := by decide +kernel
theorem dX9_foldsAs_26 : decode cX9_foldsAs 26 = .ok (.aload_n 0, 1) := by decide +kernel
theorem dX9_foldsAs_27 : decode cX9_foldsAs 27 = .ok (.bipush 20, 2) := by decide +kernel
theorem dX9_foldsAs_29 : decode cX9_foldsAs 29 = .ok (.invokevirtual 401, 3) := by decide +kernel
theorem dX9_foldsAs_32 : decode cX9_foldsAs 32 = .ok (.aload_n 0, 1) := by decide +kernel
theorem dX9_foldsAs_33 : decode cX9_foldsAs 33 = .ok (.iconst 0, 1) := by decide +kernel
theorem dX9_foldsAs_34 : decode cX9_foldsAs 34 = .ok (.iload_n 2, 1) := by decide +kernel
theorem dX9_foldsAs_35 : decode cX9_foldsAs 35 = .ok (.invokevirtual 404, 3) := by decide +kernel
theorem dX9_foldsAs_38 : decode cX9_foldsAs 38 = .ok (.iconst 3, 1) := by decide +kernel
theorem dX9_foldsAs_39 : decode cX9_foldsAs 39 = .ok (.iadd, 1) := by decide +kernel
theorem dX9_foldsAs_40 : decode cX9_foldsAs 40 = .ok (.ireturn, 1) := by decide +kernel
theorem dX9_foldsAs_41 : decode cX9_foldsAs 41 = .ok (.aload_n 0, 1) := by decide +kernel
theorem dX9_foldsAs_42 : decode cX9_foldsAs 42 = .ok (.iconst 1, 1) := by decide +kernel
theorem dX9_foldsAs_43 : decode cX9_foldsAs 43 = .ok (.invokevirtual 401, 3) := by decide +kernel
theorem dX9_foldsAs_46 : decode cX9_foldsAs 46 = .ok (.iload_n 2, 1) := by decide +kernel
theorem dX9_foldsAs_47 : decode cX9_foldsAs 47 = .ok (.aload_n 0, 1) := by decide +kernel
theorem dX9_foldsAs_48 : decode cX9_foldsAs 48 = .ok (.getfield 407, 3) := by decide +kernel
theorem dX9_foldsAs_51 : decode cX9_foldsAs 51 = .ok (.iadd, 1) := by decide +kernel
theorem dX9_foldsAs_52 : decode cX9_foldsAs 52 = .ok (.ireturn, 1) := by decide +kernel
def fX9_foldsAso (N : Nat) (go : Int32 → Int32 → Int32 → Int32 → List Int32 → Option (Int32 × Int32 × List Int32)) (x1 : Int32) (x2 : Int32) (v_ran : Int32) (v_ownNumber : Int32) (v_trace : List Int32) : Option (Int32 × Int32 × List Int32) :=
    if x1 = (6 : Int32) then
    (mm_bd2 (fX9_begins N (70 : Int32) v_ran v_trace) (fun (w_13 : Int32) (w_14 : List Int32) =>
    mm_bd3 (go (1 : Int32) x2 w_13 v_ownNumber w_14) (fun (r_16 : Int32) (w_17 : Int32) (w_18 : List Int32) =>
    some ((r_16 * (2 : Int32)), w_17, w_18))))
    else (if x1 = (1 : Int32) then
    (mm_bd2 (fX9_begins N (20 : Int32) v_ran v_trace) (fun (w_6 : Int32) (w_7 : List Int32) =>
    mm_bd3 (go (0 : Int32) x2 w_6 v_ownNumber w_7) (fun (r_9 : Int32) (w_10 : Int32) (w_11 : List Int32) =>
    some ((r_9 + (3 : Int32)), w_10, w_11))))
    else (mm_bd2 (fX9_begins N (1 : Int32) v_ran v_trace) (fun (w_3 : Int32) (w_4 : List Int32) =>
    some ((x2 + v_ownNumber), w_3, w_4))))

set_option maxHeartbeats 4000000 in
set_option maxRecDepth 100000 in
theorem ctX9_foldsAso {l : Launch} {D : va_G} {cI cL cS cH : ClassId} {a : Nat → Nat} {x1 : Int32} {x2 : Int32} {v_keptMany : Int32} {v_done : Int32} {v_rowsOf : Int32} {v_columnsOf : Int32} {v_folded : Int32} {v_wronged : Int32} {v_tapeMany : Int32} {v_textMany : Int32} {v_base : Int32} {v_at : Int32} {v_ends : Int32} {v_fault : Int32} {v_opened : Int32} {v_bentMany : Int32} {v_bentWrong : Int32} {v_moreWorn : Int32} {v_planned : Int32} {v_allWrong : Int32} {v_allWorn : Int32} {v_z : Int32} {v_wishedField : Int32} {v_isFound : Bool} {v_bestWrong : Int32} {v_bestWorn : Int32} {v_bestMany : Int32} {v_soughtBy : Int32} {v_sought : Int32} {v_soughtAt : Int32} {v_foundMany : Int32} {v_foundOrder : Int32} {v_isKept : Bool} {v_imageRows : Int32} {v_imageColumns : Int32} {v_imageFolded : Int32} {v_imageWronged : Int32} {v_bodies : Int32} {v_ran : Int32} {v_ownKind : Int32} {v_ownNumber : Int32} {v_limit : List Int32} {v_changeWas : List Int32} {v_changeIs : List Int32} {v_shapeRows : List Int32} {v_shapeColumns : List Int32} {v_row : List Int32} {v_column : List Int32} {v_below : List Int32} {v_face : List Int32} {v_worn : List Int32} {v_lastBend : List Int32} {v_tape : List Int32} {v_text : List Int32} {v_names : List Int32} {v_bends : List Int32} {v_high : List Int32} {v_to : List Int32} {v_pileSize : List Int32} {v_planLine : List Int32} {v_planWay : List Int32} {v_way1 : List Int32} {v_bestWay : List Int32} {v_order1 : List Int32} {v_placeIn : List Int32} {v_bodyKind : List Int32} {v_trace : List Int32} {v_shelf : List Int32} {v_many : List Int32} {v_items : List Int64} {v_carried : List Int64} {r : Int32} {w_ran : Int32} {w_trace : List Int32} {N d : Nat} {go : Int32 → Int32 → Int32 → Int32 → List Int32 → Option (Int32 × Int32 × List Int32)} {dgo : Nat} (hgo : ∀ (a : Nat → Nat) (x1 : Int32) (x2 : Int32) (v_keptMany : Int32) (v_done : Int32) (v_rowsOf : Int32) (v_columnsOf : Int32) (v_folded : Int32) (v_wronged : Int32) (v_tapeMany : Int32) (v_textMany : Int32) (v_base : Int32) (v_at : Int32) (v_ends : Int32) (v_fault : Int32) (v_opened : Int32) (v_bentMany : Int32) (v_bentWrong : Int32) (v_moreWorn : Int32) (v_planned : Int32) (v_allWrong : Int32) (v_allWorn : Int32) (v_z : Int32) (v_wishedField : Int32) (v_isFound : Bool) (v_bestWrong : Int32) (v_bestWorn : Int32) (v_bestMany : Int32) (v_soughtBy : Int32) (v_sought : Int32) (v_soughtAt : Int32) (v_foundMany : Int32) (v_foundOrder : Int32) (v_isKept : Bool) (v_imageRows : Int32) (v_imageColumns : Int32) (v_imageFolded : Int32) (v_imageWronged : Int32) (v_bodies : Int32) (v_ran : Int32) (v_ownKind : Int32) (v_ownNumber : Int32) (v_limit : List Int32) (v_changeWas : List Int32) (v_changeIs : List Int32) (v_shapeRows : List Int32) (v_shapeColumns : List Int32) (v_row : List Int32) (v_column : List Int32) (v_below : List Int32) (v_face : List Int32) (v_worn : List Int32) (v_lastBend : List Int32) (v_tape : List Int32) (v_text : List Int32) (v_names : List Int32) (v_bends : List Int32) (v_high : List Int32) (v_to : List Int32) (v_pileSize : List Int32) (v_planLine : List Int32) (v_planWay : List Int32) (v_way1 : List Int32) (v_bestWay : List Int32) (v_order1 : List Int32) (v_placeIn : List Int32) (v_bodyKind : List Int32) (v_trace : List Int32) (v_shelf : List Int32) (v_many : List Int32) (v_items : List Int64) (v_carried : List Int64) (r : Int32) (w_ran : Int32) (w_trace : List Int32), go x1 x2 v_ran v_ownNumber v_trace = some (r, w_ran, w_trace) → mm_Ct l yX9_foldsAs cX9_foldsAs 3 (some .int) dgo D (mm_T cI cL cS cH) [.ref (a 0), .int x1, .int x2] (wd_X9 cI cL cS cH a v_keptMany v_done v_rowsOf v_columnsOf v_folded v_wronged v_tapeMany v_textMany v_base v_at v_ends v_fault v_opened v_bentMany v_bentWrong v_moreWorn v_planned v_allWrong v_allWorn v_z v_wishedField v_isFound v_bestWrong v_bestWorn v_bestMany v_soughtBy v_sought v_soughtAt v_foundMany v_foundOrder v_isKept v_imageRows v_imageColumns v_imageFolded v_imageWronged v_bodies v_ran v_ownKind v_ownNumber v_limit v_changeWas v_changeIs v_shapeRows v_shapeColumns v_row v_column v_below v_face v_worn v_lastBend v_tape v_text v_names v_bends v_high v_to v_pileSize v_planLine v_planWay v_way1 v_bestWay v_order1 v_placeIn v_bodyKind v_trace v_shelf v_many v_items v_carried) (wd_X9 cI cL cS cH a v_keptMany v_done v_rowsOf v_columnsOf v_folded v_wronged v_tapeMany v_textMany v_base v_at v_ends v_fault v_opened v_bentMany v_bentWrong v_moreWorn v_planned v_allWrong v_allWorn v_z v_wishedField v_isFound v_bestWrong v_bestWorn v_bestMany v_soughtBy v_sought v_soughtAt v_foundMany v_foundOrder v_isKept v_imageRows v_imageColumns v_imageFolded v_imageWronged v_bodies w_ran v_ownKind v_ownNumber v_limit v_changeWas v_changeIs v_shapeRows v_shapeColumns v_row v_column v_below v_face v_worn v_lastBend v_tape v_text v_names v_bends v_high v_to v_pileSize v_planLine v_planWay v_way1 v_bestWay v_order1 v_placeIn v_bodyKind w_trace v_shelf v_many v_items v_carried) (some (.int r))) (hE : 1 ≤ dgo) (hd : dgo + 1 ≤ d) (hf : fX9_foldsAso N go x1 x2 v_ran v_ownNumber v_trace = some (r, w_ran, w_trace)) : mm_Ct l yX9_foldsAs cX9_foldsAs 3 (some .int) d D (mm_T cI cL cS cH) [.ref (a 0), .int x1, .int x2] (wd_X9 cI cL cS cH a v_keptMany v_done v_rowsOf v_columnsOf v_folded v_wronged v_tapeMany v_textMany v_base v_at v_ends v_fault v_opened v_bentMany v_bentWrong v_moreWorn v_planned v_allWrong v_allWorn v_z v_wishedField v_isFound v_bestWrong v_bestWorn v_bestMany v_soughtBy v_sought v_soughtAt v_foundMany v_foundOrder v_isKept v_imageRows v_imageColumns v_imageFolded v_imageWronged v_bodies v_ran v_ownKind v_ownNumber v_limit v_changeWas v_changeIs v_shapeRows v_shapeColumns v_row v_column v_below v_face v_worn v_lastBend v_tape v_text v_names v_bends v_high v_to v_pileSize v_planLine v_planWay v_way1 v_bestWay v_order1 v_placeIn v_bodyKind v_trace v_shelf v_many v_items v_carried) (wd_X9 cI cL cS cH a v_keptMany v_done v_rowsOf v_columnsOf v_folded v_wronged v_tapeMany v_textMany v_base v_at v_ends v_fault v_opened v_bentMany v_bentWrong v_moreWorn v_planned v_allWrong v_allWorn v_z v_wishedField v_isFound v_bestWrong v_bestWorn v_bestMany v_soughtBy v_sought v_soughtAt v_foundMany v_foundOrder v_isKept v_imageRows v_imageColumns v_imageFolded v_imageWronged v_bodies w_ran v_ownKind v_ownNumber v_limit v_changeWas v_changeIs v_shapeRows v_shapeColumns v_row v_column v_below v_face v_worn v_lastBend v_tape v_text v_names v_bends v_high v_to v_pileSize v_planLine v_planWay v_way1 v_bestWay v_order1 v_placeIn v_bodyKind w_trace v_shelf v_many v_items v_carried) (some (.int r)) := by
  refine mm_of (by decide) (Nat.le_of_ble_eq_true rfl) ?_
  intro p e s m args below meth c A H locs ls C0 hP hD hA hS hl
  have C0 : mm_Cx p s m args meth c RX9 cX9_foldsAs 3 (some .int) D (mm_T cI cL cS cH) A := C0
  obtain ⟨hx, hb, hml, hown, hts, hr, hlocks, hK, hSt⟩ := id C0
  have hl : lv_has ls 3 [(0, .ref (a 0)), (1, .int x1), (2, .int x2)] := hl
  unfold fX9_foldsAso at hf
  refine lv_iload_n hx hb dX9_foldsAs_0 rfl (lv_at hl 1 rfl) ?_
  refine lv_bipush (v := 6) hx hb dX9_foldsAs_1 (by decide) ?_
  refine lv_icmp_ne (tgt := 21) hx hb dX9_foldsAs_3 (by decide) (fun c_1 => ?_) (fun c_1 => ?_)
  · have hf := mm_in hf c_1
    refine lv_iload_n hx hb dX9_foldsAs_21 rfl (lv_at hl 1 rfl) ?_
    refine lv_iconst (v := 1) hx hb dX9_foldsAs_22 (by decide) ?_
    refine lv_icmp_ne (tgt := 41) hx hb dX9_foldsAs_23 (by decide) (fun c_2 => ?_) (fun c_2 => ?_)
    · have hf := mm_in hf c_2
      refine lv_aload_n hx hb dX9_foldsAs_41 rfl (lv_at hl 0 rfl) ?_
      refine lv_iconst (v := 1) hx hb dX9_foldsAs_42 (by decide) ?_
      obtain ⟨w_3, w_4, hc_5, hf⟩ := mm_bd2s hf
      refine mm_callVF (q0 := 0) (ci := 9) (rest := []) C0 lk_X9_401 (ctX9_begins (a := a) (d := d - 1) (by omega) hc_5) (by omega) rfl hl.1 rfl (mm_cat rfl) dX9_foldsAs_43 hP hD hA hS rfl rfl (fun H locs hP hD hS => ?_)
      refine W.eq (g2 := F0 m 46 ls []) rfl ?_
      refine lv_iload_n hx hb dX9_foldsAs_46 rfl (lv_at hl 2 rfl) ?_
      refine lv_aload_n hx hb dX9_foldsAs_47 rfl (lv_at hl 0 rfl) ?_
      refine mm_get C0 hP iw_X9 0 rfl rfl 64 (by decide) fl_X9_407 rfl dX9_foldsAs_48 ?_
      refine lv_iadd hx hb dX9_foldsAs_51 ?_
      apply mm_sub3 hf
      exact mm_iret C0 hP hD hS dX9_foldsAs_52
    · have hf := mm_ip hf c_2
      refine lv_aload_n hx hb dX9_foldsAs_26 rfl (lv_at hl 0 rfl) ?_
      refine lv_bipush (v := 20) hx hb dX9_foldsAs_27 (by decide) ?_
      obtain ⟨w_6, w_7, hc_8, hf⟩ := mm_bd2s hf
      refine mm_callVF (q0 := 0) (ci := 9) (rest := []) C0 lk_X9_401 (ctX9_begins (a := a) (d := d - 1) (by omega) hc_8) (by omega) rfl hl.1 rfl (mm_cat rfl) dX9_foldsAs_29 hP hD hA hS rfl rfl (fun H locs hP hD hS => ?_)
      refine W.eq (g2 := F0 m 32 ls []) rfl ?_
      refine lv_aload_n hx hb dX9_foldsAs_32 rfl (lv_at hl 0 rfl) ?_
      refine lv_iconst (v := 0) hx hb dX9_foldsAs_33 (by decide) ?_
      refine lv_iload_n hx hb dX9_foldsAs_34 rfl (lv_at hl 2 rfl) ?_
      obtain ⟨r_9, w_10, w_11, hc_12, hf⟩ := mm_bd3s hf
      refine mm_callVF (q0 := 0) (ci := 9) (rest := []) C0 lk_X9_404 (hgo a _ _ _ _ _ _ _ _ _ _ _ _ _ _ _ _ _ _ _ _ _ _ _ _ _ _ _ _ _ _ _ _ _ _ _ _ _ _ _ _ _ _ _ _ _ _ _ _ _ _ _ _ _ _ _ _ _ _ _ _ _ _ _ _ _ _ _ _ _ _ _ _ _ _ hc_12) (by omega) rfl hl.1 rfl (mm_cat rfl) dX9_foldsAs_35 hP hD hA hS rfl rfl (fun H locs hP hD hS => ?_)
      refine W.eq (g2 := F0 m 38 ls [.int r_9]) rfl ?_
      refine lv_iconst (v := 3) hx hb dX9_foldsAs_38 (by decide) ?_
      refine lv_iadd hx hb dX9_foldsAs_39 ?_
      apply mm_sub3 hf
      exact mm_iret C0 hP hD hS dX9_foldsAs_40
  · have hf := mm_ip hf c_1
    refine lv_aload_n hx hb dX9_foldsAs_6 rfl (lv_at hl 0 rfl) ?_
    refine lv_bipush (v := 70) hx hb dX9_foldsAs_7 (by decide) ?_
    obtain ⟨w_13, w_14, hc_15, hf⟩ := mm_bd2s hf
    refine mm_callVF (q0 := 0) (ci := 9) (rest := []) C0 lk_X9_401 (ctX9_begins (a := a) (d := d - 1) (by omega) hc_15) (by omega) rfl hl.1 rfl (mm_cat rfl) dX9_foldsAs_9 hP hD hA hS rfl rfl (fun H locs hP hD hS => ?_)
    refine W.eq (g2 := F0 m 12 ls []) rfl ?_
    refine lv_aload_n hx hb dX9_foldsAs_12 rfl (lv_at hl 0 rfl) ?_
    refine lv_iconst (v := 1) hx hb dX9_foldsAs_13 (by decide) ?_
    refine lv_iload_n hx hb dX9_foldsAs_14 rfl (lv_at hl 2 rfl) ?_
    obtain ⟨r_16, w_17, w_18, hc_19, hf⟩ := mm_bd3s hf
    refine mm_callVF (q0 := 0) (ci := 9) (rest := []) C0 lk_X9_404 (hgo a _ _ _ _ _ _ _ _ _ _ _ _ _ _ _ _ _ _ _ _ _ _ _ _ _ _ _ _ _ _ _ _ _ _ _ _ _ _ _ _ _ _ _ _ _ _ _ _ _ _ _ _ _ _ _ _ _ _ _ _ _ _ _ _ _ _ _ _ _ _ _ _ _ _ hc_19) (by omega) rfl hl.1 rfl (mm_cat rfl) dX9_foldsAs_15 hP hD hA hS rfl rfl (fun H locs hP hD hS => ?_)
    refine W.eq (g2 := F0 m 18 ls [.int r_16]) rfl ?_
    refine lv_iconst (v := 2) hx hb dX9_foldsAs_18 (by decide) ?_
    refine lv_imul hx hb dX9_foldsAs_19 ?_
    apply mm_sub3 hf
    exact mm_iret C0 hP hD hS dX9_foldsAs_20

def fX9_foldsAs (N : Nat) : Nat → Int32 → Int32 → Int32 → Int32 → List Int32 → Option (Int32 × Int32 × List Int32)
  | 0 => fun _ _ _ _ _ => none
  | M + 1 => fX9_foldsAso N (fX9_foldsAs N M)
set_option maxHeartbeats 4000000 in
set_option maxRecDepth 100000 in
theorem ctX9_foldsAs {l : Launch} {D : va_G} {cI cL cS cH : ClassId} {N : Nat} : ∀ (M d : Nat), 1 + 1 * M ≤ d → ∀ (a : Nat → Nat) (x1 : Int32) (x2 : Int32) (v_keptMany : Int32) (v_done : Int32) (v_rowsOf : Int32) (v_columnsOf : Int32) (v_folded : Int32) (v_wronged : Int32) (v_tapeMany : Int32) (v_textMany : Int32) (v_base : Int32) (v_at : Int32) (v_ends : Int32) (v_fault : Int32) (v_opened : Int32) (v_bentMany : Int32) (v_bentWrong : Int32) (v_moreWorn : Int32) (v_planned : Int32) (v_allWrong : Int32) (v_allWorn : Int32) (v_z : Int32) (v_wishedField : Int32) (v_isFound : Bool) (v_bestWrong : Int32) (v_bestWorn : Int32) (v_bestMany : Int32) (v_soughtBy : Int32) (v_sought : Int32) (v_soughtAt : Int32) (v_foundMany : Int32) (v_foundOrder : Int32) (v_isKept : Bool) (v_imageRows : Int32) (v_imageColumns : Int32) (v_imageFolded : Int32) (v_imageWronged : Int32) (v_bodies : Int32) (v_ran : Int32) (v_ownKind : Int32) (v_ownNumber : Int32) (v_limit : List Int32) (v_changeWas : List Int32) (v_changeIs : List Int32) (v_shapeRows : List Int32) (v_shapeColumns : List Int32) (v_row : List Int32) (v_column : List Int32) (v_below : List Int32) (v_face : List Int32) (v_worn : List Int32) (v_lastBend : List Int32) (v_tape : List Int32) (v_text : List Int32) (v_names : List Int32) (v_bends : List Int32) (v_high : List Int32) (v_to : List Int32) (v_pileSize : List Int32) (v_planLine : List Int32) (v_planWay : List Int32) (v_way1 : List Int32) (v_bestWay : List Int32) (v_order1 : List Int32) (v_placeIn : List Int32) (v_bodyKind : List Int32) (v_trace : List Int32) (v_shelf : List Int32) (v_many : List Int32) (v_items : List Int64) (v_carried : List Int64) (r : Int32) (w_ran : Int32) (w_trace : List Int32), fX9_foldsAs N M x1 x2 v_ran v_ownNumber v_trace = some (r, w_ran, w_trace) → mm_Ct l yX9_foldsAs cX9_foldsAs 3 (some .int) d D (mm_T cI cL cS cH) [.ref (a 0), .int x1, .int x2] (wd_X9 cI cL cS cH a v_keptMany v_done v_rowsOf v_columnsOf v_folded v_wronged v_tapeMany v_textMany v_base v_at v_ends v_fault v_opened v_bentMany v_bentWrong v_moreWorn v_planned v_allWrong v_allWorn v_z v_wishedField v_isFound v_bestWrong v_bestWorn v_bestMany v_soughtBy v_sought v_soughtAt v_foundMany v_foundOrder v_isKept v_imageRows v_imageColumns v_imageFolded v_imageWronged v_bodies v_ran v_ownKind v_ownNumber v_limit v_changeWas v_changeIs v_shapeRows v_shapeColumns v_row v_column v_below v_face v_worn v_lastBend v_tape v_text v_names v_bends v_high v_to v_pileSize v_planLine v_planWay v_way1 v_bestWay v_order1 v_placeIn v_bodyKind v_trace v_shelf v_many v_items v_carried) (wd_X9 cI cL cS cH a v_keptMany v_done v_rowsOf v_columnsOf v_folded v_wronged v_tapeMany v_textMany v_base v_at v_ends v_fault v_opened v_bentMany v_bentWrong v_moreWorn v_planned v_allWrong v_allWorn v_z v_wishedField v_isFound v_bestWrong v_bestWorn v_bestMany v_soughtBy v_sought v_soughtAt v_foundMany v_foundOrder v_isKept v_imageRows v_imageColumns v_imageFolded v_imageWronged v_bodies w_ran v_ownKind v_ownNumber v_limit v_changeWas v_changeIs v_shapeRows v_shapeColumns v_row v_column v_below v_face v_worn v_lastBend v_tape v_text v_names v_bends v_high v_to v_pileSize v_planLine v_planWay v_way1 v_bestWay v_order1 v_placeIn v_bodyKind w_trace v_shelf v_many v_items v_carried) (some (.int r)) := by
  intro M
  induction M with
  | zero =>
    intro d hd a x1 x2 v_keptMany v_done v_rowsOf v_columnsOf v_folded v_wronged v_tapeMany v_textMany v_base v_at v_ends v_fault v_opened v_bentMany v_bentWrong v_moreWorn v_planned v_allWrong v_allWorn v_z v_wishedField v_isFound v_bestWrong v_bestWorn v_bestMany v_soughtBy v_sought v_soughtAt v_foundMany v_foundOrder v_isKept v_imageRows v_imageColumns v_imageFolded v_imageWronged v_bodies v_ran v_ownKind v_ownNumber v_limit v_changeWas v_changeIs v_shapeRows v_shapeColumns v_row v_column v_below v_face v_worn v_lastBend v_tape v_text v_names v_bends v_high v_to v_pileSize v_planLine v_planWay v_way1 v_bestWay v_order1 v_placeIn v_bodyKind v_trace v_shelf v_many v_items v_carried r w_ran w_trace hf
    cases (show none = some _ from hf)
  | succ M ih =>
    intro d hd a x1 x2 v_keptMany v_done v_rowsOf v_columnsOf v_folded v_wronged v_tapeMany v_textMany v_base v_at v_ends v_fault v_opened v_bentMany v_bentWrong v_moreWorn v_planned v_allWrong v_allWorn v_z v_wishedField v_isFound v_bestWrong v_bestWorn v_bestMany v_soughtBy v_sought v_soughtAt v_foundMany v_foundOrder v_isKept v_imageRows v_imageColumns v_imageFolded v_imageWronged v_bodies v_ran v_ownKind v_ownNumber v_limit v_changeWas v_changeIs v_shapeRows v_shapeColumns v_row v_column v_below v_face v_worn v_lastBend v_tape v_text v_names v_bends v_high v_to v_pileSize v_planLine v_planWay v_way1 v_bestWay v_order1 v_placeIn v_bodyKind v_trace v_shelf v_many v_items v_carried r w_ran w_trace hf
    exact ctX9_foldsAso (N := N) (ih (1 + 1 * M) (Nat.le_refl _)) (Nat.le_add_right _ _) (by omega) hf

theorem dX9_wearsAs_0 : decode cX9_wearsAs 0 = .ok (.iload_n 1, 1) := by decide +kernel
theorem dX9_wearsAs_1 : decode cX9_wearsAs 1 = .ok (.iconst 3, 1) := by decide +kernel
theorem dX9_wearsAs_2 : decode cX9_wearsAs 2 = .ok (.if_icmp .eq 8, 3) := by decide +kernel
theorem dX9_wearsAs_5 : decode cX9_wearsAs 5 = .ok (.iload_n 1, 1) := by decide +kernel
theorem dX9_wearsAs_6 : decode cX9_wearsAs 6 = .ok (.iconst 5, 1) := by decide +kernel
theorem dX9_wearsAs_7 : decode cX9_wearsAs 7 = .ok (.if_icmp .ne 18, 3) := by decide +kernel
theorem dX9_wearsAs_10 : decode cX9_wearsAs 10 = .ok (.aload_n 0, 1) := by decide +kernel
theorem dX9_wearsAs_11 : decode cX9_wearsAs 11 = .ok (.bipush 40, 2) := by decide +kernel
theorem dX9_wearsAs_13 : decode cX9_wearsAs 13 = .ok (.invokevirtual 401, 3) := by decide +kernel
theorem dX9_wearsAs_16 : decode cX9_wearsAs 16 = .ok (.aload_n 0, 1) := by decide +kernel
theorem dX9_wearsAs_17 : decode cX9_wearsAs 17 = .ok (.iconst 2, 1) := by decide +kernel
theorem dX9_wearsAs_18 : decode cX9_wearsAs 18 = .ok (.iload_n 2, 1) := by decide +kernel
theorem dX9_wearsAs_19 : decode cX9_wearsAs 19 = .ok (.invokevirtual 416, 3) := by decide +kernel
theorem dX9_wearsAs_22 : decode cX9_wearsAs 22 = .ok (.iconst 3, 1) := by decide +kernel
theorem dX9_wearsAs_23 : decode cX9_wearsAs 23 = .ok (.imul, 1) := by decide +kernel
theorem dX9_wearsAs_24 : decode cX9_wearsAs 24 = .ok (.ireturn, 1) := by decide +kernel
theorem dX9_wearsAs_25 : decode cX9_wearsAs 25 = .ok (.iload_n 1, 1) := by decide +kernel
theorem dX9_wearsAs_26 : decode cX9_wearsAs 26 = .ok (.iconst 4, 1) := by decide +kernel
theorem dX9_wearsAs_27 : decode cX9_wearsAs 27 = .ok (.if_icmp .eq 9, 3) := by decide +kernel
theorem dX9_wearsAs_30 : decode cX9_wearsAs 30 = .ok (.iload_n 1, 1) := by decide +kernel
theorem dX9_wearsAs_31 : decode cX9_wearsAs 31 = .ok (.bipush 7, 2) := by decide +kernel
theorem dX9_wearsAs_33 : decode cX9_wearsAs 33 = .ok (.if_icmp .ne 28, 3) := by decide +kernel
theorem dX9_wearsAs_36 : decode cX9_wearsAs 36 = .ok (.aload_n 0, 1) := by decide +kernel
theorem dX9_wearsAs_37 : decode cX9_wearsAs 37 = .ok (.bipush 50, 2) := by decide +kernel
theorem dX9_wearsAs_39 : decode cX9_wearsAs 39 = .ok (.invokevirtual 401, 3) := by decide +kernel
theorem dX9_wearsAs_42 : decode cX9_wearsAs 42 = .ok (.aload_n 0, 1) := by decide +kernel
theorem dX9_wearsAs_43 : decode cX9_wearsAs 43 = .ok (.iconst 0, 1) := by decide +kernel
theorem dX9_wearsAs_44 : decode cX9_wearsAs 44 = .ok (.iload_n 2, 1) := by decide +kernel
theorem dX9_wearsAs_45 : decode cX9_wearsAs 45 = .ok (.invokevirtual 416, 3) := by decide +kernel
theorem dX9_wearsAs_48 : decode cX9_wearsAs 48 = .ok (.istore_n 3, 1) := by decide +kernel
theorem dX9_wearsAs_49 : decode cX9_wearsAs 49 = .ok (.iload_n 3, 1) := by decide +kernel
theorem dX9_wearsAs_50 : decode cX9_wearsAs 50 = .ok (.aload_n 0, 1) := by decide +kernel
theorem dX9_wearsAs_51 : decode cX9_wearsAs 51 = .ok (.aload_n 0, 1) := by decide +kernel
theorem dX9_wearsAs_52 : decode cX9_wearsAs 52 = .ok (.getfield 413, 3) := by decide +kernel
theorem dX9_wearsAs_55 : decode cX9_wearsAs 55 = .ok (.iconst 2, 1) := by decide +kernel
theorem dX9_wearsAs_56 : decode cX9_wearsAs 56 = .ok (.invokevirtual 404, 3) := by decide +kernel
theorem dX9_wearsAs_59 : decode cX9_wearsAs 59 = .ok (.isub, 1) := by decide +kernel
theorem dX9_wearsAs_60 : decode cX9_wearsAs 60 = .ok (.ireturn, 1) := by decide +kernel
theorem dX9_wearsAs_61 : decode cX9_wearsAs 61 = .ok (.aload_n 0, 1) := by decide +kernel
theorem dX9_wearsAs_62 : decode cX9_wearsAs 62 = .ok (.bipush 11, 2) := by decide +kernel
theorem dX9_wearsAs_64 : decode cX9_wearsAs 64 = .ok (.invokevirtual 401, 3) := by decide +kernel
theorem dX9_wearsAs_67 : decode cX9_wearsAs 67 = .ok (.iload_n 2, 1) := by decide +kernel
theorem dX9_wearsAs_68 : decode cX9_wearsAs 68 = .ok (.aload_n 0, 1) := by decide +kernel
theorem dX9_wearsAs_69 : decode cX9_wearsAs 69 = .ok (.getfield 407, 3) := by decide +kernel
theorem dX9_wearsAs_72 : decode cX9_wearsAs 72 = .ok (.ixor, 1) := by decide +kernel
theorem dX9_wearsAs_73 : decode cX9_wearsAs 73 = .ok (.ireturn, 1) := by decide +kernel
def fX9_wearsAs_10 (N : Nat) (go : Int32 → Int32 → Int32 → Int32 → Int32 → List Int32 → Option (Int32 × Int32 × List Int32))  (x2 : Int32) (v_ran : Int32) (v_ownKind : Int32) (v_ownNumber : Int32) (v_trace : List Int32) : Option (Int32 × Int32 × List Int32) :=
    mm_bd2 (fX9_begins N (40 : Int32) v_ran v_trace) (fun (w_19 : Int32) (w_20 : List Int32) =>
    mm_bd3 (go (2 : Int32) x2 w_19 v_ownKind v_ownNumber w_20) (fun (r_22 : Int32) (w_23 : Int32) (w_24 : List Int32) =>
    some ((r_22 * (3 : Int32)), w_23, w_24)))

set_option maxHeartbeats 4000000 in
set_option maxRecDepth 100000 in
theorem tX9_wearsAs_10 {p : Program} {l : Launch} {e : Env} {s : State} {m : MethodId} {args : Array Value} {below : List Frame} {meth : Method} {c : Code} {D : va_G} {cI cL cS cH : ClassId} {A : Nat → Prop} {d : Nat} {a : Nat → Nat} {go : Int32 → Int32 → Int32 → Int32 → Int32 → List Int32 → Option (Int32 × Int32 × List Int32)} {dgo : Nat} (hgo : ∀ (a : Nat → Nat) (x1 : Int32) (x2 : Int32) (v_keptMany : Int32) (v_done : Int32) (v_rowsOf : Int32) (v_columnsOf : Int32) (v_folded : Int32) (v_wronged : Int32) (v_tapeMany : Int32) (v_textMany : Int32) (v_base : Int32) (v_at : Int32) (v_ends : Int32) (v_fault : Int32) (v_opened : Int32) (v_bentMany : Int32) (v_bentWrong : Int32) (v_moreWorn : Int32) (v_planned : Int32) (v_allWrong : Int32) (v_allWorn : Int32) (v_z : Int32) (v_wishedField : Int32) (v_isFound : Bool) (v_bestWrong : Int32) (v_bestWorn : Int32) (v_bestMany : Int32) (v_soughtBy : Int32) (v_sought : Int32) (v_soughtAt : Int32) (v_foundMany : Int32) (v_foundOrder : Int32) (v_isKept : Bool) (v_imageRows : Int32) (v_imageColumns : Int32) (v_imageFolded : Int32) (v_imageWronged : Int32) (v_bodies : Int32) (v_ran : Int32) (v_ownKind : Int32) (v_ownNumber : Int32) (v_limit : List Int32) (v_changeWas : List Int32) (v_changeIs : List Int32) (v_shapeRows : List Int32) (v_shapeColumns : List Int32) (v_row : List Int32) (v_column : List Int32) (v_below : List Int32) (v_face : List Int32) (v_worn : List Int32) (v_lastBend : List Int32) (v_tape : List Int32) (v_text : List Int32) (v_names : List Int32) (v_bends : List Int32) (v_high : List Int32) (v_to : List Int32) (v_pileSize : List Int32) (v_planLine : List Int32) (v_planWay : List Int32) (v_way1 : List Int32) (v_bestWay : List Int32) (v_order1 : List Int32) (v_placeIn : List Int32) (v_bodyKind : List Int32) (v_trace : List Int32) (v_shelf : List Int32) (v_many : List Int32) (v_items : List Int64) (v_carried : List Int64) (r : Int32) (w_ran : Int32) (w_trace : List Int32), go x1 x2 v_ran v_ownKind v_ownNumber v_trace = some (r, w_ran, w_trace) → mm_Ct l yX9_wearsAs cX9_wearsAs 4 (some .int) dgo D (mm_T cI cL cS cH) [.ref (a 0), .int x1, .int x2] (wd_X9 cI cL cS cH a v_keptMany v_done v_rowsOf v_columnsOf v_folded v_wronged v_tapeMany v_textMany v_base v_at v_ends v_fault v_opened v_bentMany v_bentWrong v_moreWorn v_planned v_allWrong v_allWorn v_z v_wishedField v_isFound v_bestWrong v_bestWorn v_bestMany v_soughtBy v_sought v_soughtAt v_foundMany v_foundOrder v_isKept v_imageRows v_imageColumns v_imageFolded v_imageWronged v_bodies v_ran v_ownKind v_ownNumber v_limit v_changeWas v_changeIs v_shapeRows v_shapeColumns v_row v_column v_below v_face v_worn v_lastBend v_tape v_text v_names v_bends v_high v_to v_pileSize v_planLine v_planWay v_way1 v_bestWay v_order1 v_placeIn v_bodyKind v_trace v_shelf v_many v_items v_carried) (wd_X9 cI cL cS cH a v_keptMany v_done v_rowsOf v_columnsOf v_folded v_wronged v_tapeMany v_textMany v_base v_at v_ends v_fault v_opened v_bentMany v_bentWrong v_moreWorn v_planned v_allWrong v_allWorn v_z v_wishedField v_isFound v_bestWrong v_bestWorn v_bestMany v_soughtBy v_sought v_soughtAt v_foundMany v_foundOrder v_isKept v_imageRows v_imageColumns v_imageFolded v_imageWronged v_bodies w_ran v_ownKind v_ownNumber v_limit v_changeWas v_changeIs v_shapeRows v_shapeColumns v_row v_column v_below v_face v_worn v_lastBend v_tape v_text v_names v_bends v_high v_to v_pileSize v_planLine v_planWay v_way1 v_bestWay v_order1 v_placeIn v_bodyKind w_trace v_shelf v_many v_items v_carried) (some (.int r))) (hE : 5 ≤ dgo) (hd : dgo + 1 ≤ d) (C0 : mm_Cx p s m args meth c RX9 cX9_wearsAs 4 (some .int) D (mm_T cI cL cS cH) A) (hA : ∀ q, s.heap.size ≤ q → A q) {v_keptMany : Int32} {v_done : Int32} {v_rowsOf : Int32} {v_columnsOf : Int32} {v_folded : Int32} {v_wronged : Int32} {v_tapeMany : Int32} {v_textMany : Int32} {v_base : Int32} {v_at : Int32} {v_ends : Int32} {v_fault : Int32} {v_opened : Int32} {v_bentMany : Int32} {v_bentWrong : Int32} {v_moreWorn : Int32} {v_planned : Int32} {v_allWrong : Int32} {v_allWorn : Int32} {v_z : Int32} {v_wishedField : Int32} {v_isFound : Bool} {v_bestWrong : Int32} {v_bestWorn : Int32} {v_bestMany : Int32} {v_soughtBy : Int32} {v_sought : Int32} {v_soughtAt : Int32} {v_foundMany : Int32} {v_foundOrder : Int32} {v_isKept : Bool} {v_imageRows : Int32} {v_imageColumns : Int32} {v_imageFolded : Int32} {v_imageWronged : Int32} {v_bodies : Int32} {v_limit : List Int32} {v_changeWas : List Int32} {v_changeIs : List Int32} {v_shapeRows : List Int32} {v_shapeColumns : List Int32} {v_row : List Int32} {v_column : List Int32} {v_below : List Int32} {v_face : List Int32} {v_worn : List Int32} {v_lastBend : List Int32} {v_tape : List Int32} {v_text : List Int32} {v_names : List Int32} {v_bends : List Int32} {v_high : List Int32} {v_to : List Int32} {v_pileSize : List Int32} {v_planLine : List Int32} {v_planWay : List Int32} {v_way1 : List Int32} {v_bestWay : List Int32} {v_order1 : List Int32} {v_placeIn : List Int32} {v_bodyKind : List Int32} {v_shelf : List Int32} {v_many : List Int32} {v_items : List Int64} {v_carried : List Int64} {r : Int32} {w_ran : Int32} {w_trace : List Int32} (N : Nat)  : ∀ (x2 : Int32) (v_ran : Int32) (v_ownKind : Int32) (v_ownNumber : Int32) (v_trace : List Int32) (H : Heap) (locs : List Loc) (ls : Array Slot), fX9_wearsAs_10 N go x2 v_ran v_ownKind v_ownNumber v_trace = some (r, w_ran, w_trace) → va_P D mm_cl (wd_X9 cI cL cS cH a v_keptMany v_done v_rowsOf v_columnsOf v_folded v_wronged v_tapeMany v_textMany v_base v_at v_ends v_fault v_opened v_bentMany v_bentWrong v_moreWorn v_planned v_allWrong v_allWorn v_z v_wishedField v_isFound v_bestWrong v_bestWorn v_bestMany v_soughtBy v_sought v_soughtAt v_foundMany v_foundOrder v_isKept v_imageRows v_imageColumns v_imageFolded v_imageWronged v_bodies v_ran v_ownKind v_ownNumber v_limit v_changeWas v_changeIs v_shapeRows v_shapeColumns v_row v_column v_below v_face v_worn v_lastBend v_tape v_text v_names v_bends v_high v_to v_pileSize v_planLine v_planWay v_way1 v_bestWay v_order1 v_placeIn v_bodyKind v_trace v_shelf v_many v_items v_carried) H → va_D A (wd_X9 cI cL cS cH a v_keptMany v_done v_rowsOf v_columnsOf v_folded v_wronged v_tapeMany v_textMany v_base v_at v_ends v_fault v_opened v_bentMany v_bentWrong v_moreWorn v_planned v_allWrong v_allWorn v_z v_wishedField v_isFound v_bestWrong v_bestWorn v_bestMany v_soughtBy v_sought v_soughtAt v_foundMany v_foundOrder v_isKept v_imageRows v_imageColumns v_imageFolded v_imageWronged v_bodies v_ran v_ownKind v_ownNumber v_limit v_changeWas v_changeIs v_shapeRows v_shapeColumns v_row v_column v_below v_face v_worn v_lastBend v_tape v_text v_names v_bends v_high v_to v_pileSize v_planLine v_planWay v_way1 v_bestWay v_order1 v_placeIn v_bodyKind v_trace v_shelf v_many v_items v_carried) → va_S A s.heap H locs → lv_has ls 4 [(0, .ref (a 0)), (2, .int x2)] → W p l e (mm_rr d) s m args below meth c H locs 0 0 (mm_Z below D A (wd_X9 cI cL cS cH a v_keptMany v_done v_rowsOf v_columnsOf v_folded v_wronged v_tapeMany v_textMany v_base v_at v_ends v_fault v_opened v_bentMany v_bentWrong v_moreWorn v_planned v_allWrong v_allWorn v_z v_wishedField v_isFound v_bestWrong v_bestWorn v_bestMany v_soughtBy v_sought v_soughtAt v_foundMany v_foundOrder v_isKept v_imageRows v_imageColumns v_imageFolded v_imageWronged v_bodies w_ran v_ownKind v_ownNumber v_limit v_changeWas v_changeIs v_shapeRows v_shapeColumns v_row v_column v_below v_face v_worn v_lastBend v_tape v_text v_names v_bends v_high v_to v_pileSize v_planLine v_planWay v_way1 v_bestWay v_order1 v_placeIn v_bodyKind w_trace v_shelf v_many v_items v_carried) (some (.int r)) args s) (F0 m 10 ls []) := by
  obtain ⟨hx, hb, hml, hown, hts, hr, hlocks, hK, hSt⟩ := id C0
  intro x2 v_ran v_ownKind v_ownNumber v_trace H locs ls hf hP hD hS hl
  unfold fX9_wearsAs_10 at hf
  refine lv_aload_n hx hb dX9_wearsAs_10 rfl (lv_at hl 0 rfl) ?_
  refine lv_bipush (v := 40) hx hb dX9_wearsAs_11 (by decide) ?_
  obtain ⟨w_19, w_20, hc_21, hf⟩ := mm_bd2s hf
  refine mm_callVF (q0 := 0) (ci := 9) (rest := []) C0 lk_X9_401 (ctX9_begins (a := a) (d := d - 1) (by omega) hc_21) (by omega) rfl hl.1 rfl (mm_cat rfl) dX9_wearsAs_13 hP hD hA hS rfl rfl (fun H locs hP hD hS => ?_)
  refine W.eq (g2 := F0 m 16 ls []) rfl ?_
  refine lv_aload_n hx hb dX9_wearsAs_16 rfl (lv_at hl 0 rfl) ?_
  refine lv_iconst (v := 2) hx hb dX9_wearsAs_17 (by decide) ?_
  refine lv_iload_n hx hb dX9_wearsAs_18 rfl (lv_at hl 1 rfl) ?_
  obtain ⟨r_22, w_23, w_24, hc_25, hf⟩ := mm_bd3s hf
  refine mm_callVF (q0 := 0) (ci := 9) (rest := []) C0 lk_X9_416 (hgo a _ _ _ _ _ _ _ _ _ _ _ _ _ _ _ _ _ _ _ _ _ _ _ _ _ _ _ _ _ _ _ _ _ _ _ _ _ _ _ _ _ _ _ _ _ _ _ _ _ _ _ _ _ _ _ _ _ _ _ _ _ _ _ _ _ _ _ _ _ _ _ _ _ _ hc_25) (by omega) rfl hl.1 rfl (mm_cat rfl) dX9_wearsAs_19 hP hD hA hS rfl rfl (fun H locs hP hD hS => ?_)
  refine W.eq (g2 := F0 m 22 ls [.int r_22]) rfl ?_
  refine lv_iconst (v := 3) hx hb dX9_wearsAs_22 (by decide) ?_
  refine lv_imul hx hb dX9_wearsAs_23 ?_
  apply mm_sub3 hf
  exact mm_iret C0 hP hD hS dX9_wearsAs_24

def fX9_wearsAs_36 (N : Nat) (go : Int32 → Int32 → Int32 → Int32 → Int32 → List Int32 → Option (Int32 × Int32 × List Int32))  (x2 : Int32) (v_ran : Int32) (v_ownKind : Int32) (v_ownNumber : Int32) (v_trace : List Int32) : Option (Int32 × Int32 × List Int32) :=
    mm_bd2 (fX9_begins N (50 : Int32) v_ran v_trace) (fun (w_8 : Int32) (w_9 : List Int32) =>
    mm_bd3 (go (0 : Int32) x2 w_8 v_ownKind v_ownNumber w_9) (fun (r_11 : Int32) (w_12 : Int32) (w_13 : List Int32) =>
    mm_bd3 (fX9_foldsAs N 4 v_ownKind (2 : Int32) w_12 v_ownNumber w_13) (fun (r_15 : Int32) (w_16 : Int32) (w_17 : List Int32) =>
    some ((r_11 - r_15), w_16, w_17))))

set_option maxHeartbeats 4000000 in
set_option maxRecDepth 100000 in
theorem tX9_wearsAs_36 {p : Program} {l : Launch} {e : Env} {s : State} {m : MethodId} {args : Array Value} {below : List Frame} {meth : Method} {c : Code} {D : va_G} {cI cL cS cH : ClassId} {A : Nat → Prop} {d : Nat} {a : Nat → Nat} {go : Int32 → Int32 → Int32 → Int32 → Int32 → List Int32 → Option (Int32 × Int32 × List Int32)} {dgo : Nat} (hgo : ∀ (a : Nat → Nat) (x1 : Int32) (x2 : Int32) (v_keptMany : Int32) (v_done : Int32) (v_rowsOf : Int32) (v_columnsOf : Int32) (v_folded : Int32) (v_wronged : Int32) (v_tapeMany : Int32) (v_textMany : Int32) (v_base : Int32) (v_at : Int32) (v_ends : Int32) (v_fault : Int32) (v_opened : Int32) (v_bentMany : Int32) (v_bentWrong : Int32) (v_moreWorn : Int32) (v_planned : Int32) (v_allWrong : Int32) (v_allWorn : Int32) (v_z : Int32) (v_wishedField : Int32) (v_isFound : Bool) (v_bestWrong : Int32) (v_bestWorn : Int32) (v_bestMany : Int32) (v_soughtBy : Int32) (v_sought : Int32) (v_soughtAt : Int32) (v_foundMany : Int32) (v_foundOrder : Int32) (v_isKept : Bool) (v_imageRows : Int32) (v_imageColumns : Int32) (v_imageFolded : Int32) (v_imageWronged : Int32) (v_bodies : Int32) (v_ran : Int32) (v_ownKind : Int32) (v_ownNumber : Int32) (v_limit : List Int32) (v_changeWas : List Int32) (v_changeIs : List Int32) (v_shapeRows : List Int32) (v_shapeColumns : List Int32) (v_row : List Int32) (v_column : List Int32) (v_below : List Int32) (v_face : List Int32) (v_worn : List Int32) (v_lastBend : List Int32) (v_tape : List Int32) (v_text : List Int32) (v_names : List Int32) (v_bends : List Int32) (v_high : List Int32) (v_to : List Int32) (v_pileSize : List Int32) (v_planLine : List Int32) (v_planWay : List Int32) (v_way1 : List Int32) (v_bestWay : List Int32) (v_order1 : List Int32) (v_placeIn : List Int32) (v_bodyKind : List Int32) (v_trace : List Int32) (v_shelf : List Int32) (v_many : List Int32) (v_items : List Int64) (v_carried : List Int64) (r : Int32) (w_ran : Int32) (w_trace : List Int32), go x1 x2 v_ran v_ownKind v_ownNumber v_trace = some (r, w_ran, w_trace) → mm_Ct l yX9_wearsAs cX9_wearsAs 4 (some .int) dgo D (mm_T cI cL cS cH) [.ref (a 0), .int x1, .int x2] (wd_X9 cI cL cS cH a v_keptMany v_done v_rowsOf v_columnsOf v_folded v_wronged v_tapeMany v_textMany v_base v_at v_ends v_fault v_opened v_bentMany v_bentWrong v_moreWorn v_planned v_allWrong v_allWorn v_z v_wishedField v_isFound v_bestWrong v_bestWorn v_bestMany v_soughtBy v_sought v_soughtAt v_foundMany v_foundOrder v_isKept v_imageRows v_imageColumns v_imageFolded v_imageWronged v_bodies v_ran v_ownKind v_ownNumber v_limit v_changeWas v_changeIs v_shapeRows v_shapeColumns v_row v_column v_below v_face v_worn v_lastBend v_tape v_text v_names v_bends v_high v_to v_pileSize v_planLine v_planWay v_way1 v_bestWay v_order1 v_placeIn v_bodyKind v_trace v_shelf v_many v_items v_carried) (wd_X9 cI cL cS cH a v_keptMany v_done v_rowsOf v_columnsOf v_folded v_wronged v_tapeMany v_textMany v_base v_at v_ends v_fault v_opened v_bentMany v_bentWrong v_moreWorn v_planned v_allWrong v_allWorn v_z v_wishedField v_isFound v_bestWrong v_bestWorn v_bestMany v_soughtBy v_sought v_soughtAt v_foundMany v_foundOrder v_isKept v_imageRows v_imageColumns v_imageFolded v_imageWronged v_bodies w_ran v_ownKind v_ownNumber v_limit v_changeWas v_changeIs v_shapeRows v_shapeColumns v_row v_column v_below v_face v_worn v_lastBend v_tape v_text v_names v_bends v_high v_to v_pileSize v_planLine v_planWay v_way1 v_bestWay v_order1 v_placeIn v_bodyKind w_trace v_shelf v_many v_items v_carried) (some (.int r))) (hE : 5 ≤ dgo) (hd : dgo + 1 ≤ d) (C0 : mm_Cx p s m args meth c RX9 cX9_wearsAs 4 (some .int) D (mm_T cI cL cS cH) A) (hA : ∀ q, s.heap.size ≤ q → A q) {v_keptMany : Int32} {v_done : Int32} {v_rowsOf : Int32} {v_columnsOf : Int32} {v_folded : Int32} {v_wronged : Int32} {v_tapeMany : Int32} {v_textMany : Int32} {v_base : Int32} {v_at : Int32} {v_ends : Int32} {v_fault : Int32} {v_opened : Int32} {v_bentMany : Int32} {v_bentWrong : Int32} {v_moreWorn : Int32} {v_planned : Int32} {v_allWrong : Int32} {v_allWorn : Int32} {v_z : Int32} {v_wishedField : Int32} {v_isFound : Bool} {v_bestWrong : Int32} {v_bestWorn : Int32} {v_bestMany : Int32} {v_soughtBy : Int32} {v_sought : Int32} {v_soughtAt : Int32} {v_foundMany : Int32} {v_foundOrder : Int32} {v_isKept : Bool} {v_imageRows : Int32} {v_imageColumns : Int32} {v_imageFolded : Int32} {v_imageWronged : Int32} {v_bodies : Int32} {v_limit : List Int32} {v_changeWas : List Int32} {v_changeIs : List Int32} {v_shapeRows : List Int32} {v_shapeColumns : List Int32} {v_row : List Int32} {v_column : List Int32} {v_below : List Int32} {v_face : List Int32} {v_worn : List Int32} {v_lastBend : List Int32} {v_tape : List Int32} {v_text : List Int32} {v_names : List Int32} {v_bends : List Int32} {v_high : List Int32} {v_to : List Int32} {v_pileSize : List Int32} {v_planLine : List Int32} {v_planWay : List Int32} {v_way1 : List Int32} {v_bestWay : List Int32} {v_order1 : List Int32} {v_placeIn : List Int32} {v_bodyKind : List Int32} {v_shelf : List Int32} {v_many : List Int32} {v_items : List Int64} {v_carried : List Int64} {r : Int32} {w_ran : Int32} {w_trace : List Int32} (N : Nat)  : ∀ (x2 : Int32) (v_ran : Int32) (v_ownKind : Int32) (v_ownNumber : Int32) (v_trace : List Int32) (H : Heap) (locs : List Loc) (ls : Array Slot), fX9_wearsAs_36 N go x2 v_ran v_ownKind v_ownNumber v_trace = some (r, w_ran, w_trace) → va_P D mm_cl (wd_X9 cI cL cS cH a v_keptMany v_done v_rowsOf v_columnsOf v_folded v_wronged v_tapeMany v_textMany v_base v_at v_ends v_fault v_opened v_bentMany v_bentWrong v_moreWorn v_planned v_allWrong v_allWorn v_z v_wishedField v_isFound v_bestWrong v_bestWorn v_bestMany v_soughtBy v_sought v_soughtAt v_foundMany v_foundOrder v_isKept v_imageRows v_imageColumns v_imageFolded v_imageWronged v_bodies v_ran v_ownKind v_ownNumber v_limit v_changeWas v_changeIs v_shapeRows v_shapeColumns v_row v_column v_below v_face v_worn v_lastBend v_tape v_text v_names v_bends v_high v_to v_pileSize v_planLine v_planWay v_way1 v_bestWay v_order1 v_placeIn v_bodyKind v_trace v_shelf v_many v_items v_carried) H → va_D A (wd_X9 cI cL cS cH a v_keptMany v_done v_rowsOf v_columnsOf v_folded v_wronged v_tapeMany v_textMany v_base v_at v_ends v_fault v_opened v_bentMany v_bentWrong v_moreWorn v_planned v_allWrong v_allWorn v_z v_wishedField v_isFound v_bestWrong v_bestWorn v_bestMany v_soughtBy v_sought v_soughtAt v_foundMany v_foundOrder v_isKept v_imageRows v_imageColumns v_imageFolded v_imageWronged v_bodies v_ran v_ownKind v_ownNumber v_limit v_changeWas v_changeIs v_shapeRows v_shapeColumns v_row v_column v_below v_face v_worn v_lastBend v_tape v_text v_names v_bends v_high v_to v_pileSize v_planLine v_planWay v_way1 v_bestWay v_order1 v_placeIn v_bodyKind v_trace v_shelf v_many v_items v_carried) → va_S A s.heap H locs → lv_has ls 4 [(0, .ref (a 0)), (2, .int x2)] → W p l e (mm_rr d) s m args below meth c H locs 0 0 (mm_Z below D A (wd_X9 cI cL cS cH a v_keptMany v_done v_rowsOf v_columnsOf v_folded v_wronged v_tapeMany v_textMany v_base v_at v_ends v_fault v_opened v_bentMany v_bentWrong v_moreWorn v_planned v_allWrong v_allWorn v_z v_wishedField v_isFound v_bestWrong v_bestWorn v_bestMany v_soughtBy v_sought v_soughtAt v_foundMany v_foundOrder v_isKept v_imageRows v_imageColumns v_imageFolded v_imageWronged v_bodies w_ran v_ownKind v_ownNumber v_limit v_changeWas v_changeIs v_shapeRows v_shapeColumns v_row v_column v_below v_face v_worn v_lastBend v_tape v_text v_names v_bends v_high v_to v_pileSize v_planLine v_planWay v_way1 v_bestWay v_order1 v_placeIn v_bodyKind w_trace v_shelf v_many v_items v_carried) (some (.int r)) args s) (F0 m 36 ls []) := by
  obtain ⟨hx, hb, hml, hown, hts, hr, hlocks, hK, hSt⟩ := id C0
  intro x2 v_ran v_ownKind v_ownNumber v_trace H locs ls hf hP hD hS hl
  unfold fX9_wearsAs_36 at hf
  refine lv_aload_n hx hb dX9_wearsAs_36 rfl (lv_at hl 0 rfl) ?_
  refine lv_bipush (v := 50) hx hb dX9_wearsAs_37 (by decide) ?_
  obtain ⟨w_8, w_9, hc_10, hf⟩ := mm_bd2s hf
  refine mm_callVF (q0 := 0) (ci := 9) (rest := []) C0 lk_X9_401 (ctX9_begins (a := a) (d := d - 1) (by omega) hc_10) (by omega) rfl hl.1 rfl (mm_cat rfl) dX9_wearsAs_39 hP hD hA hS rfl rfl (fun H locs hP hD hS => ?_)
  refine W.eq (g2 := F0 m 42 ls []) rfl ?_
  refine lv_aload_n hx hb dX9_wearsAs_42 rfl (lv_at hl 0 rfl) ?_
  refine lv_iconst (v := 0) hx hb dX9_wearsAs_43 (by decide) ?_
  refine lv_iload_n hx hb dX9_wearsAs_44 rfl (lv_at hl 1 rfl) ?_
  obtain ⟨r_11, w_12, w_13, hc_14, hf⟩ := mm_bd3s hf
  refine mm_callVF (q0 := 0) (ci := 9) (rest := []) C0 lk_X9_416 (hgo a _ _ _ _ _ _ _ _ _ _ _ _ _ _ _ _ _ _ _ _ _ _ _ _ _ _ _ _ _ _ _ _ _ _ _ _ _ _ _ _ _ _ _ _ _ _ _ _ _ _ _ _ _ _ _ _ _ _ _ _ _ _ _ _ _ _ _ _ _ _ _ _ _ _ hc_14) (by omega) rfl hl.1 rfl (mm_cat rfl) dX9_wearsAs_45 hP hD hA hS rfl rfl (fun H locs hP hD hS => ?_)
  refine W.eq (g2 := F0 m 48 ls [.int r_11]) rfl ?_
  refine lv_istore_n (lv' := [(3, .int r_11), (0, .ref (a 0)), (2, .int x2)]) hx hb dX9_wearsAs_48 rfl hl (by decide) rfl (fun ls hl => ?_)
  refine lv_iload_n hx hb dX9_wearsAs_49 rfl (lv_at hl 0 rfl) ?_
  refine lv_aload_n hx hb dX9_wearsAs_50 rfl (lv_at hl 1 rfl) ?_
  refine lv_aload_n hx hb dX9_wearsAs_51 rfl (lv_at hl 1 rfl) ?_
  refine mm_get C0 hP iw_X9 0 rfl rfl 63 (by decide) fl_X9_413 rfl dX9_wearsAs_52 ?_
  refine lv_iconst (v := 2) hx hb dX9_wearsAs_55 (by decide) ?_
  obtain ⟨r_15, w_16, w_17, hc_18, hf⟩ := mm_bd3s hf
  refine mm_callVF (q0 := 0) (ci := 9) (rest := [.int r_11]) C0 lk_X9_404 (ctX9_foldsAs (N := N) 4 (d - 1) (by omega) a _ _ _ _ _ _ _ _ _ _ _ _ _ _ _ _ _ _ _ _ _ _ _ _ _ _ _ _ _ _ _ _ _ _ _ _ _ _ _ _ _ _ _ _ _ _ _ _ _ _ _ _ _ _ _ _ _ _ _ _ _ _ _ _ _ _ _ _ _ _ _ _ _ _ hc_18) (by omega) rfl hl.1 rfl (mm_cat rfl) dX9_wearsAs_56 hP hD hA hS rfl rfl (fun H locs hP hD hS => ?_)
  refine W.eq (g2 := F0 m 59 ls [.int r_15, .int r_11]) rfl ?_
  refine lv_isub hx hb dX9_wearsAs_59 ?_
  apply mm_sub3 hf
  exact mm_iret C0 hP hD hS dX9_wearsAs_60

def fX9_wearsAso (N : Nat) (go : Int32 → Int32 → Int32 → Int32 → Int32 → List Int32 → Option (Int32 × Int32 × List Int32)) (x1 : Int32) (x2 : Int32) (v_ran : Int32) (v_ownKind : Int32) (v_ownNumber : Int32) (v_trace : List Int32) : Option (Int32 × Int32 × List Int32) :=
    if x1 = (3 : Int32) then
    (fX9_wearsAs_10 N go x2 v_ran v_ownKind v_ownNumber v_trace)
    else (if x1 = (5 : Int32) then
    (fX9_wearsAs_10 N go x2 v_ran v_ownKind v_ownNumber v_trace)
    else (if x1 = (4 : Int32) then
    (fX9_wearsAs_36 N go x2 v_ran v_ownKind v_ownNumber v_trace)
    else (if x1 = (7 : Int32) then
    (fX9_wearsAs_36 N go x2 v_ran v_ownKind v_ownNumber v_trace)
    else (mm_bd2 (fX9_begins N (11 : Int32) v_ran v_trace) (fun (w_5 : Int32) (w_6 : List Int32) =>
    some ((x2 ^^^ v_ownNumber), w_5, w_6))))))

set_option maxHeartbeats 4000000 in
set_option maxRecDepth 100000 in
theorem ctX9_wearsAso {l : Launch} {D : va_G} {cI cL cS cH : ClassId} {a : Nat → Nat} {x1 : Int32} {x2 : Int32} {v_keptMany : Int32} {v_done : Int32} {v_rowsOf : Int32} {v_columnsOf : Int32} {v_folded : Int32} {v_wronged : Int32} {v_tapeMany : Int32} {v_textMany : Int32} {v_base : Int32} {v_at : Int32} {v_ends : Int32} {v_fault : Int32} {v_opened : Int32} {v_bentMany : Int32} {v_bentWrong : Int32} {v_moreWorn : Int32} {v_planned : Int32} {v_allWrong : Int32} {v_allWorn : Int32} {v_z : Int32} {v_wishedField : Int32} {v_isFound : Bool} {v_bestWrong : Int32} {v_bestWorn : Int32} {v_bestMany : Int32} {v_soughtBy : Int32} {v_sought : Int32} {v_soughtAt : Int32} {v_foundMany : Int32} {v_foundOrder : Int32} {v_isKept : Bool} {v_imageRows : Int32} {v_imageColumns : Int32} {v_imageFolded : Int32} {v_imageWronged : Int32} {v_bodies : Int32} {v_ran : Int32} {v_ownKind : Int32} {v_ownNumber : Int32} {v_limit : List Int32} {v_changeWas : List Int32} {v_changeIs : List Int32} {v_shapeRows : List Int32} {v_shapeColumns : List Int32} {v_row : List Int32} {v_column : List Int32} {v_below : List Int32} {v_face : List Int32} {v_worn : List Int32} {v_lastBend : List Int32} {v_tape : List Int32} {v_text : List Int32} {v_names : List Int32} {v_bends : List Int32} {v_high : List Int32} {v_to : List Int32} {v_pileSize : List Int32} {v_planLine : List Int32} {v_planWay : List Int32} {v_way1 : List Int32} {v_bestWay : List Int32} {v_order1 : List Int32} {v_placeIn : List Int32} {v_bodyKind : List Int32} {v_trace : List Int32} {v_shelf : List Int32} {v_many : List Int32} {v_items : List Int64} {v_carried : List Int64} {r : Int32} {w_ran : Int32} {w_trace : List Int32} {N d : Nat} {go : Int32 → Int32 → Int32 → Int32 → Int32 → List Int32 → Option (Int32 × Int32 × List Int32)} {dgo : Nat} (hgo : ∀ (a : Nat → Nat) (x1 : Int32) (x2 : Int32) (v_keptMany : Int32) (v_done : Int32) (v_rowsOf : Int32) (v_columnsOf : Int32) (v_folded : Int32) (v_wronged : Int32) (v_tapeMany : Int32) (v_textMany : Int32) (v_base : Int32) (v_at : Int32) (v_ends : Int32) (v_fault : Int32) (v_opened : Int32) (v_bentMany : Int32) (v_bentWrong : Int32) (v_moreWorn : Int32) (v_planned : Int32) (v_allWrong : Int32) (v_allWorn : Int32) (v_z : Int32) (v_wishedField : Int32) (v_isFound : Bool) (v_bestWrong : Int32) (v_bestWorn : Int32) (v_bestMany : Int32) (v_soughtBy : Int32) (v_sought : Int32) (v_soughtAt : Int32) (v_foundMany : Int32) (v_foundOrder : Int32) (v_isKept : Bool) (v_imageRows : Int32) (v_imageColumns : Int32) (v_imageFolded : Int32) (v_imageWronged : Int32) (v_bodies : Int32) (v_ran : Int32) (v_ownKind : Int32) (v_ownNumber : Int32) (v_limit : List Int32) (v_changeWas : List Int32) (v_changeIs : List Int32) (v_shapeRows : List Int32) (v_shapeColumns : List Int32) (v_row : List Int32) (v_column : List Int32) (v_below : List Int32) (v_face : List Int32) (v_worn : List Int32) (v_lastBend : List Int32) (v_tape : List Int32) (v_text : List Int32) (v_names : List Int32) (v_bends : List Int32) (v_high : List Int32) (v_to : List Int32) (v_pileSize : List Int32) (v_planLine : List Int32) (v_planWay : List Int32) (v_way1 : List Int32) (v_bestWay : List Int32) (v_order1 : List Int32) (v_placeIn : List Int32) (v_bodyKind : List Int32) (v_trace : List Int32) (v_shelf : List Int32) (v_many : List Int32) (v_items : List Int64) (v_carried : List Int64) (r : Int32) (w_ran : Int32) (w_trace : List Int32), go x1 x2 v_ran v_ownKind v_ownNumber v_trace = some (r, w_ran, w_trace) → mm_Ct l yX9_wearsAs cX9_wearsAs 4 (some .int) dgo D (mm_T cI cL cS cH) [.ref (a 0), .int x1, .int x2] (wd_X9 cI cL cS cH a v_keptMany v_done v_rowsOf v_columnsOf v_folded v_wronged v_tapeMany v_textMany v_base v_at v_ends v_fault v_opened v_bentMany v_bentWrong v_moreWorn v_planned v_allWrong v_allWorn v_z v_wishedField v_isFound v_bestWrong v_bestWorn v_bestMany v_soughtBy v_sought v_soughtAt v_foundMany v_foundOrder v_isKept v_imageRows v_imageColumns v_imageFolded v_imageWronged v_bodies v_ran v_ownKind v_ownNumber v_limit v_changeWas v_changeIs v_shapeRows v_shapeColumns v_row v_column v_below v_face v_worn v_lastBend v_tape v_text v_names v_bends v_high v_to v_pileSize v_planLine v_planWay v_way1 v_bestWay v_order1 v_placeIn v_bodyKind v_trace v_shelf v_many v_items v_carried) (wd_X9 cI cL cS cH a v_keptMany v_done v_rowsOf v_columnsOf v_folded v_wronged v_tapeMany v_textMany v_base v_at v_ends v_fault v_opened v_bentMany v_bentWrong v_moreWorn v_planned v_allWrong v_allWorn v_z v_wishedField v_isFound v_bestWrong v_bestWorn v_bestMany v_soughtBy v_sought v_soughtAt v_foundMany v_foundOrder v_isKept v_imageRows v_imageColumns v_imageFolded v_imageWronged v_bodies w_ran v_ownKind v_ownNumber v_limit v_changeWas v_changeIs v_shapeRows v_shapeColumns v_row v_column v_below v_face v_worn v_lastBend v_tape v_text v_names v_bends v_high v_to v_pileSize v_planLine v_planWay v_way1 v_bestWay v_order1 v_placeIn v_bodyKind w_trace v_shelf v_many v_items v_carried) (some (.int r))) (hE : 5 ≤ dgo) (hd : dgo + 1 ≤ d) (hf : fX9_wearsAso N go x1 x2 v_ran v_ownKind v_ownNumber v_trace = some (r, w_ran, w_trace)) : mm_Ct l yX9_wearsAs cX9_wearsAs 4 (some .int) d D (mm_T cI cL cS cH) [.ref (a 0), .int x1, .int x2] (wd_X9 cI cL cS cH a v_keptMany v_done v_rowsOf v_columnsOf v_folded v_wronged v_tapeMany v_textMany v_base v_at v_ends v_fault v_opened v_bentMany v_bentWrong v_moreWorn v_planned v_allWrong v_allWorn v_z v_wishedField v_isFound v_bestWrong v_bestWorn v_bestMany v_soughtBy v_sought v_soughtAt v_foundMany v_foundOrder v_isKept v_imageRows v_imageColumns v_imageFolded v_imageWronged v_bodies v_ran v_ownKind v_ownNumber v_limit v_changeWas v_changeIs v_shapeRows v_shapeColumns v_row v_column v_below v_face v_worn v_lastBend v_tape v_text v_names v_bends v_high v_to v_pileSize v_planLine v_planWay v_way1 v_bestWay v_order1 v_placeIn v_bodyKind v_trace v_shelf v_many v_items v_carried) (wd_X9 cI cL cS cH a v_keptMany v_done v_rowsOf v_columnsOf v_folded v_wronged v_tapeMany v_textMany v_base v_at v_ends v_fault v_opened v_bentMany v_bentWrong v_moreWorn v_planned v_allWrong v_allWorn v_z v_wishedField v_isFound v_bestWrong v_bestWorn v_bestMany v_soughtBy v_sought v_soughtAt v_foundMany v_foundOrder v_isKept v_imageRows v_imageColumns v_imageFolded v_imageWronged v_bodies w_ran v_ownKind v_ownNumber v_limit v_changeWas v_changeIs v_shapeRows v_shapeColumns v_row v_column v_below v_face v_worn v_lastBend v_tape v_text v_names v_bends v_high v_to v_pileSize v_planLine v_planWay v_way1 v_bestWay v_order1 v_placeIn v_bodyKind w_trace v_shelf v_many v_items v_carried) (some (.int r)) := by
  refine mm_of (by decide) (Nat.le_of_ble_eq_true rfl) ?_
  intro p e s m args below meth c A H locs ls C0 hP hD hA hS hl
  have C0 : mm_Cx p s m args meth c RX9 cX9_wearsAs 4 (some .int) D (mm_T cI cL cS cH) A := C0
  obtain ⟨hx, hb, hml, hown, hts, hr, hlocks, hK, hSt⟩ := id C0
  have hl : lv_has ls 4 [(0, .ref (a 0)), (1, .int x1), (2, .int x2)] := hl
  unfold fX9_wearsAso at hf
  refine lv_iload_n hx hb dX9_wearsAs_0 rfl (lv_at hl 1 rfl) ?_
  refine lv_iconst (v := 3) hx hb dX9_wearsAs_1 (by decide) ?_
  refine lv_icmp_eq (tgt := 10) hx hb dX9_wearsAs_2 (by decide) (fun c_1 => ?_) (fun c_1 => ?_)
  · have hf := mm_ip hf c_1
    exact tX9_wearsAs_10 hgo hE hd C0 hA N  _ _ _ _ _ H locs ls hf hP hD hS (lv_sub hl [0, 2] rfl)
  · have hf := mm_in hf c_1
    refine lv_iload_n hx hb dX9_wearsAs_5 rfl (lv_at hl 1 rfl) ?_
    refine lv_iconst (v := 5) hx hb dX9_wearsAs_6 (by decide) ?_
    refine lv_icmp_ne (tgt := 25) hx hb dX9_wearsAs_7 (by decide) (fun c_2 => ?_) (fun c_2 => ?_)
    · have hf := mm_in hf c_2
      refine lv_iload_n hx hb dX9_wearsAs_25 rfl (lv_at hl 1 rfl) ?_
      refine lv_iconst (v := 4) hx hb dX9_wearsAs_26 (by decide) ?_
      refine lv_icmp_eq (tgt := 36) hx hb dX9_wearsAs_27 (by decide) (fun c_3 => ?_) (fun c_3 => ?_)
      · have hf := mm_ip hf c_3
        exact tX9_wearsAs_36 hgo hE hd C0 hA N  _ _ _ _ _ H locs ls hf hP hD hS (lv_sub hl [0, 2] rfl)
      · have hf := mm_in hf c_3
        refine lv_iload_n hx hb dX9_wearsAs_30 rfl (lv_at hl 1 rfl) ?_
        refine lv_bipush (v := 7) hx hb dX9_wearsAs_31 (by decide) ?_
        refine lv_icmp_ne (tgt := 61) hx hb dX9_wearsAs_33 (by decide) (fun c_4 => ?_) (fun c_4 => ?_)
        · have hf := mm_in hf c_4
          refine lv_aload_n hx hb dX9_wearsAs_61 rfl (lv_at hl 0 rfl) ?_
          refine lv_bipush (v := 11) hx hb dX9_wearsAs_62 (by decide) ?_
          obtain ⟨w_5, w_6, hc_7, hf⟩ := mm_bd2s hf
          refine mm_callVF (q0 := 0) (ci := 9) (rest := []) C0 lk_X9_401 (ctX9_begins (a := a) (d := d - 1) (by omega) hc_7) (by omega) rfl hl.1 rfl (mm_cat rfl) dX9_wearsAs_64 hP hD hA hS rfl rfl (fun H locs hP hD hS => ?_)
          refine W.eq (g2 := F0 m 67 ls []) rfl ?_
          refine lv_iload_n hx hb dX9_wearsAs_67 rfl (lv_at hl 2 rfl) ?_
          refine lv_aload_n hx hb dX9_wearsAs_68 rfl (lv_at hl 0 rfl) ?_
          refine mm_get C0 hP iw_X9 0 rfl rfl 64 (by decide) fl_X9_407 rfl dX9_wearsAs_69 ?_
          refine lv_ixor hx hb dX9_wearsAs_72 ?_
          apply mm_sub3 hf
          exact mm_iret C0 hP hD hS dX9_wearsAs_73
        · have hf := mm_ip hf c_4
          exact tX9_wearsAs_36 hgo hE hd C0 hA N  _ _ _ _ _ H locs ls hf hP hD hS (lv_sub hl [0, 2] rfl)
    · have hf := mm_ip hf c_2
      exact tX9_wearsAs_10 hgo hE hd C0 hA N  _ _ _ _ _ H locs ls hf hP hD hS (lv_sub hl [0, 2] rfl)

def fX9_wearsAs (N : Nat) : Nat → Int32 → Int32 → Int32 → Int32 → Int32 → List Int32 → Option (Int32 × Int32 × List Int32)
  | 0 => fun _ _ _ _ _ _ => none
  | M + 1 => fX9_wearsAso N (fX9_wearsAs N M)
set_option maxHeartbeats 4000000 in
set_option maxRecDepth 100000 in
theorem ctX9_wearsAs {l : Launch} {D : va_G} {cI cL cS cH : ClassId} {N : Nat} : ∀ (M d : Nat), 5 + 1 * M ≤ d → ∀ (a : Nat → Nat) (x1 : Int32) (x2 : Int32) (v_keptMany : Int32) (v_done : Int32) (v_rowsOf : Int32) (v_columnsOf : Int32) (v_folded : Int32) (v_wronged : Int32) (v_tapeMany : Int32) (v_textMany : Int32) (v_base : Int32) (v_at : Int32) (v_ends : Int32) (v_fault : Int32) (v_opened : Int32) (v_bentMany : Int32) (v_bentWrong : Int32) (v_moreWorn : Int32) (v_planned : Int32) (v_allWrong : Int32) (v_allWorn : Int32) (v_z : Int32) (v_wishedField : Int32) (v_isFound : Bool) (v_bestWrong : Int32) (v_bestWorn : Int32) (v_bestMany : Int32) (v_soughtBy : Int32) (v_sought : Int32) (v_soughtAt : Int32) (v_foundMany : Int32) (v_foundOrder : Int32) (v_isKept : Bool) (v_imageRows : Int32) (v_imageColumns : Int32) (v_imageFolded : Int32) (v_imageWronged : Int32) (v_bodies : Int32) (v_ran : Int32) (v_ownKind : Int32) (v_ownNumber : Int32) (v_limit : List Int32) (v_changeWas : List Int32) (v_changeIs : List Int32) (v_shapeRows : List Int32) (v_shapeColumns : List Int32) (v_row : List Int32) (v_column : List Int32) (v_below : List Int32) (v_face : List Int32) (v_worn : List Int32) (v_lastBend : List Int32) (v_tape : List Int32) (v_text : List Int32) (v_names : List Int32) (v_bends : List Int32) (v_high : List Int32) (v_to : List Int32) (v_pileSize : List Int32) (v_planLine : List Int32) (v_planWay : List Int32) (v_way1 : List Int32) (v_bestWay : List Int32) (v_order1 : List Int32) (v_placeIn : List Int32) (v_bodyKind : List Int32) (v_trace : List Int32) (v_shelf : List Int32) (v_many : List Int32) (v_items : List Int64) (v_carried : List Int64) (r : Int32) (w_ran : Int32) (w_trace : List Int32), fX9_wearsAs N M x1 x2 v_ran v_ownKind v_ownNumber v_trace = some (r, w_ran, w_trace) → mm_Ct l yX9_wearsAs cX9_wearsAs 4 (some .int) d D (mm_T cI cL cS cH) [.ref (a 0), .int x1, .int x2] (wd_X9 cI cL cS cH a v_keptMany v_done v_rowsOf v_columnsOf v_folded v_wronged v_tapeMany v_textMany v_base v_at v_ends v_fault v_opened v_bentMany v_bentWrong v_moreWorn v_planned v_allWrong v_allWorn v_z v_wishedField v_isFound v_bestWrong v_bestWorn v_bestMany v_soughtBy v_sought v_soughtAt v_foundMany v_foundOrder v_isKept v_imageRows v_imageColumns v_imageFolded v_imageWronged v_bodies v_ran v_ownKind v_ownNumber v_limit v_changeWas v_changeIs v_shapeRows v_shapeColumns v_row v_column v_below v_face v_worn v_lastBend v_tape v_text v_names v_bends v_high v_to v_pileSize v_planLine v_planWay v_way1 v_bestWay v_order1 v_placeIn v_bodyKind v_trace v_shelf v_many v_items v_carried) (wd_X9 cI cL cS cH a v_keptMany v_done v_rowsOf v_columnsOf v_folded v_wronged v_tapeMany v_textMany v_base v_at v_ends v_fault v_opened v_bentMany v_bentWrong v_moreWorn v_planned v_allWrong v_allWorn v_z v_wishedField v_isFound v_bestWrong v_bestWorn v_bestMany v_soughtBy v_sought v_soughtAt v_foundMany v_foundOrder v_isKept v_imageRows v_imageColumns v_imageFolded v_imageWronged v_bodies w_ran v_ownKind v_ownNumber v_limit v_changeWas v_changeIs v_shapeRows v_shapeColumns v_row v_column v_below v_face v_worn v_lastBend v_tape v_text v_names v_bends v_high v_to v_pileSize v_planLine v_planWay v_way1 v_bestWay v_order1 v_placeIn v_bodyKind w_trace v_shelf v_many v_items v_carried) (some (.int r)) := by
  intro M
  induction M with
  | zero =>
    intro d hd a x1 x2 v_keptMany v_done v_rowsOf v_columnsOf v_folded v_wronged v_tapeMany v_textMany v_base v_at v_ends v_fault v_opened v_bentMany v_bentWrong v_moreWorn v_planned v_allWrong v_allWorn v_z v_wishedField v_isFound v_bestWrong v_bestWorn v_bestMany v_soughtBy v_sought v_soughtAt v_foundMany v_foundOrder v_isKept v_imageRows v_imageColumns v_imageFolded v_imageWronged v_bodies v_ran v_ownKind v_ownNumber v_limit v_changeWas v_changeIs v_shapeRows v_shapeColumns v_row v_column v_below v_face v_worn v_lastBend v_tape v_text v_names v_bends v_high v_to v_pileSize v_planLine v_planWay v_way1 v_bestWay v_order1 v_placeIn v_bodyKind v_trace v_shelf v_many v_items v_carried r w_ran w_trace hf
    cases (show none = some _ from hf)
  | succ M ih =>
    intro d hd a x1 x2 v_keptMany v_done v_rowsOf v_columnsOf v_folded v_wronged v_tapeMany v_textMany v_base v_at v_ends v_fault v_opened v_bentMany v_bentWrong v_moreWorn v_planned v_allWrong v_allWorn v_z v_wishedField v_isFound v_bestWrong v_bestWorn v_bestMany v_soughtBy v_sought v_soughtAt v_foundMany v_foundOrder v_isKept v_imageRows v_imageColumns v_imageFolded v_imageWronged v_bodies v_ran v_ownKind v_ownNumber v_limit v_changeWas v_changeIs v_shapeRows v_shapeColumns v_row v_column v_below v_face v_worn v_lastBend v_tape v_text v_names v_bends v_high v_to v_pileSize v_planLine v_planWay v_way1 v_bestWay v_order1 v_placeIn v_bodyKind v_trace v_shelf v_many v_items v_carried r w_ran w_trace hf
    exact ctX9_wearsAso (N := N) (ih (5 + 1 * M) (Nat.le_refl _)) (Nat.le_add_right _ _) (by omega) hf

theorem dX9_laysAs_0 : decode cX9_laysAs 0 = .ok (.iload_n 1, 1) := by decide +kernel
theorem dX9_laysAs_1 : decode cX9_laysAs 1 = .ok (.iconst 3, 1) := by decide +kernel
theorem dX9_laysAs_2 : decode cX9_laysAs 2 = .ok (.if_icmp .eq 8, 3) := by decide +kernel
theorem dX9_laysAs_5 : decode cX9_laysAs 5 = .ok (.iload_n 1, 1) := by decide +kernel
theorem dX9_laysAs_6 : decode cX9_laysAs 6 = .ok (.iconst 5, 1) := by decide +kernel
theorem dX9_laysAs_7 : decode cX9_laysAs 7 = .ok (.if_icmp .ne 18, 3) := by decide +kernel
theorem dX9_laysAs_10 : decode cX9_laysAs 10 = .ok (.aload_n 0, 1) := by decide +kernel
theorem dX9_laysAs_11 : decode cX9_laysAs 11 = .ok (.bipush 41, 2) := by decide +kernel
theorem dX9_laysAs_13 : decode cX9_laysAs 13 = .ok (.invokevirtual 401, 3) := by decide +kernel
theorem dX9_laysAs_16 : decode cX9_laysAs 16 = .ok (.aload_n 0, 1) := by decide +kernel
theorem dX9_laysAs_17 : decode cX9_laysAs 17 = .ok (.iconst 2, 1) := by decide +kernel
theorem dX9_laysAs_18 : decode cX9_laysAs 18 = .ok (.iload_n 2, 1) := by decide +kernel
theorem dX9_laysAs_19 : decode cX9_laysAs 19 = .ok (.iconst 1, 1) := by decide +kernel
theorem dX9_laysAs_20 : decode cX9_laysAs 20 = .ok (.iadd, 1) := by decide +kernel
theorem dX9_laysAs_21 : decode cX9_laysAs 21 = .ok (.invokevirtual 410, 3) := by decide +kernel
theorem dX9_laysAs_24 : decode cX9_laysAs 24 = .ok (.ireturn, 1) := by decide +kernel
theorem dX9_laysAs_25 : decode cX9_laysAs 25 = .ok (.iload_n 1, 1) := by decide +kernel
theorem dX9_laysAs_26 : decode cX9_laysAs 26 = .ok (.iconst 2, 1) := by decide +kernel
theorem dX9_laysAs_27 : decode cX9_laysAs 27 = .ok (.if_icmp .ne 17, 3) := by decide +kernel
theorem dX9_laysAs_30 : decode cX9_laysAs 30 = .ok (.aload_n 0, 1) := by decide +kernel
theorem dX9_laysAs_31 : decode cX9_laysAs 31 = .ok (.bipush 30, 2) := by decide +kernel
theorem dX9_laysAs_33 : decode cX9_laysAs 33 = .ok (.invokevirtual 401, 3) := by decide +kernel
theorem dX9_laysAs_36 : decode cX9_laysAs 36 = .ok (.aload_n 0, 1) := by decide +kernel
theorem dX9_laysAs_37 : decode cX9_laysAs 37 = .ok (.iconst 0, 1) := by decide +kernel
theorem dX9_laysAs_38 : decode cX9_laysAs 38 = .ok (.iload_n 2, 1) := by decide +kernel
theorem dX9_laysAs_39 : decode cX9_laysAs 39 = .ok (.invokevirtual 410, 3) := by decide +kernel
theorem dX9_laysAs_42 : decode cX9_laysAs 42 = .ok (.ineg, 1) := by decide +kernel
theorem dX9_laysAs_43 : decode cX9_laysAs 43 = .ok (.ireturn, 1) := by decide +kernel
theorem dX9_laysAs_44 : decode cX9_laysAs 44 = .ok (.iload_n 1, 1) := by decide +kernel
theorem dX9_laysAs_45 : decode cX9_laysAs 45 = .ok (.bipush 7, 2) := by decide +kernel
theorem dX9_laysAs_47 : decode cX9_laysAs 47 = .ok (.if_icmp .ne 28, 3) := by decide +kernel
theorem dX9_laysAs_50 : decode cX9_laysAs 50 = .ok (.aload_n 0, 1) := by decide +kernel
theorem dX9_laysAs_51 : decode cX9_laysAs 51 = .ok (.bipush 80, 2) := by decide +kernel
theorem dX9_laysAs_53 : decode cX9_laysAs 53 = .ok (.invokevirtual 401, 3) := by decide +kernel
theorem dX9_laysAs_56 : decode cX9_laysAs 56 = .ok (.aload_n 0, 1) := by decide +kernel
theorem dX9_laysAs_57 : decode cX9_laysAs 57 = .ok (.iconst 4, 1) := by decide +kernel
theorem dX9_laysAs_58 : decode cX9_laysAs 58 = .ok (.iload_n 2, 1) := by decide +kernel
theorem dX9_laysAs_59 : decode cX9_laysAs 59 = .ok (.invokevirtual 410, 3) := by decide +kernel
theorem dX9_laysAs_62 : decode cX9_laysAs 62 = .ok (.istore_n 3, 1) := by decide +kernel
theorem dX9_laysAs_63 : decode cX9_laysAs 63 = .ok (.iload_n 3, 1) := by decide +kernel
theorem dX9_laysAs_64 : decode cX9_laysAs 64 = .ok (.aload_n 0, 1) := by decide +kernel
theorem dX9_laysAs_65 : decode cX9_laysAs 65 = .ok (.aload_n 0, 1) := by decide +kernel
theorem dX9_laysAs_66 : decode cX9_laysAs 66 = .ok (.getfield 413, 3) := by decide +kernel
theorem dX9_laysAs_69 : decode cX9_laysAs 69 = .ok (.iconst 2, 1) := by decide +kernel
theorem dX9_laysAs_70 : decode cX9_laysAs 70 = .ok (.invokevirtual 416, 3) := by decide +kernel
theorem dX9_laysAs_73 : decode cX9_laysAs 73 = .ok (.iadd, 1) := by decide +kernel
theorem dX9_laysAs_74 : decode cX9_laysAs 74 = .ok (.ireturn, 1) := by decide +kernel
theorem dX9_laysAs_75 : decode cX9_laysAs 75 = .ok (.aload_n 0, 1) := by decide +kernel
theorem dX9_laysAs_76 : decode cX9_laysAs 76 = .ok (.bipush 10, 2) := by decide +kernel
theorem dX9_laysAs_78 : decode cX9_laysAs 78 = .ok (.invokevirtual 401, 3) := by decide +kernel
theorem dX9_laysAs_81 : decode cX9_laysAs 81 = .ok (.aload_n 0, 1) := by decide +kernel
theorem dX9_laysAs_82 : decode cX9_laysAs 82 = .ok (.aload_n 0, 1) := by decide +kernel
theorem dX9_laysAs_83 : decode cX9_laysAs 83 = .ok (.getfield 413, 3) := by decide +kernel
theorem dX9_laysAs_86 : decode cX9_laysAs 86 = .ok (.iload_n 2, 1) := by decide +kernel
theorem dX9_laysAs_87 : decode cX9_laysAs 87 = .ok (.invokevirtual 404, 3) := by decide +kernel
theorem dX9_laysAs_90 : decode cX9_laysAs 90 = .ok (.iconst 2, 1) := by decide +kernel
theorem dX9_laysAs_91 : decode cX9_laysAs 91 = .ok (.imul, 1) := by decide +kernel
theorem dX9_laysAs_92 : decode cX9_laysAs 92 = .ok (.ireturn, 1) := by decide +kernel
def fX9_laysAs_10 (N : Nat) (go : Int32 → Int32 → Int32 → Int32 → Int32 → List Int32 → Option (Int32 × Int32 × List Int32))  (x2 : Int32) (v_ran : Int32) (v_ownKind : Int32) (v_ownNumber : Int32) (v_trace : List Int32) : Option (Int32 × Int32 × List Int32) :=
    mm_bd2 (fX9_begins N (41 : Int32) v_ran v_trace) (fun (w_30 : Int32) (w_31 : List Int32) =>
    mm_bd3 (go (2 : Int32) (x2 + (1 : Int32)) w_30 v_ownKind v_ownNumber w_31) (fun (r_33 : Int32) (w_34 : Int32) (w_35 : List Int32) =>
    some (r_33, w_34, w_35)))

set_option maxHeartbeats 4000000 in
set_option maxRecDepth 100000 in
theorem tX9_laysAs_10 {p : Program} {l : Launch} {e : Env} {s : State} {m : MethodId} {args : Array Value} {below : List Frame} {meth : Method} {c : Code} {D : va_G} {cI cL cS cH : ClassId} {A : Nat → Prop} {d : Nat} {a : Nat → Nat} {go : Int32 → Int32 → Int32 → Int32 → Int32 → List Int32 → Option (Int32 × Int32 × List Int32)} {dgo : Nat} (hgo : ∀ (a : Nat → Nat) (x1 : Int32) (x2 : Int32) (v_keptMany : Int32) (v_done : Int32) (v_rowsOf : Int32) (v_columnsOf : Int32) (v_folded : Int32) (v_wronged : Int32) (v_tapeMany : Int32) (v_textMany : Int32) (v_base : Int32) (v_at : Int32) (v_ends : Int32) (v_fault : Int32) (v_opened : Int32) (v_bentMany : Int32) (v_bentWrong : Int32) (v_moreWorn : Int32) (v_planned : Int32) (v_allWrong : Int32) (v_allWorn : Int32) (v_z : Int32) (v_wishedField : Int32) (v_isFound : Bool) (v_bestWrong : Int32) (v_bestWorn : Int32) (v_bestMany : Int32) (v_soughtBy : Int32) (v_sought : Int32) (v_soughtAt : Int32) (v_foundMany : Int32) (v_foundOrder : Int32) (v_isKept : Bool) (v_imageRows : Int32) (v_imageColumns : Int32) (v_imageFolded : Int32) (v_imageWronged : Int32) (v_bodies : Int32) (v_ran : Int32) (v_ownKind : Int32) (v_ownNumber : Int32) (v_limit : List Int32) (v_changeWas : List Int32) (v_changeIs : List Int32) (v_shapeRows : List Int32) (v_shapeColumns : List Int32) (v_row : List Int32) (v_column : List Int32) (v_below : List Int32) (v_face : List Int32) (v_worn : List Int32) (v_lastBend : List Int32) (v_tape : List Int32) (v_text : List Int32) (v_names : List Int32) (v_bends : List Int32) (v_high : List Int32) (v_to : List Int32) (v_pileSize : List Int32) (v_planLine : List Int32) (v_planWay : List Int32) (v_way1 : List Int32) (v_bestWay : List Int32) (v_order1 : List Int32) (v_placeIn : List Int32) (v_bodyKind : List Int32) (v_trace : List Int32) (v_shelf : List Int32) (v_many : List Int32) (v_items : List Int64) (v_carried : List Int64) (r : Int32) (w_ran : Int32) (w_trace : List Int32), go x1 x2 v_ran v_ownKind v_ownNumber v_trace = some (r, w_ran, w_trace) → mm_Ct l yX9_laysAs cX9_laysAs 4 (some .int) dgo D (mm_T cI cL cS cH) [.ref (a 0), .int x1, .int x2] (wd_X9 cI cL cS cH a v_keptMany v_done v_rowsOf v_columnsOf v_folded v_wronged v_tapeMany v_textMany v_base v_at v_ends v_fault v_opened v_bentMany v_bentWrong v_moreWorn v_planned v_allWrong v_allWorn v_z v_wishedField v_isFound v_bestWrong v_bestWorn v_bestMany v_soughtBy v_sought v_soughtAt v_foundMany v_foundOrder v_isKept v_imageRows v_imageColumns v_imageFolded v_imageWronged v_bodies v_ran v_ownKind v_ownNumber v_limit v_changeWas v_changeIs v_shapeRows v_shapeColumns v_row v_column v_below v_face v_worn v_lastBend v_tape v_text v_names v_bends v_high v_to v_pileSize v_planLine v_planWay v_way1 v_bestWay v_order1 v_placeIn v_bodyKind v_trace v_shelf v_many v_items v_carried) (wd_X9 cI cL cS cH a v_keptMany v_done v_rowsOf v_columnsOf v_folded v_wronged v_tapeMany v_textMany v_base v_at v_ends v_fault v_opened v_bentMany v_bentWrong v_moreWorn v_planned v_allWrong v_allWorn v_z v_wishedField v_isFound v_bestWrong v_bestWorn v_bestMany v_soughtBy v_sought v_soughtAt v_foundMany v_foundOrder v_isKept v_imageRows v_imageColumns v_imageFolded v_imageWronged v_bodies w_ran v_ownKind v_ownNumber v_limit v_changeWas v_changeIs v_shapeRows v_shapeColumns v_row v_column v_below v_face v_worn v_lastBend v_tape v_text v_names v_bends v_high v_to v_pileSize v_planLine v_planWay v_way1 v_bestWay v_order1 v_placeIn v_bodyKind w_trace v_shelf v_many v_items v_carried) (some (.int r))) (hE : 9 ≤ dgo) (hd : dgo + 1 ≤ d) (C0 : mm_Cx p s m args meth c RX9 cX9_laysAs 4 (some .int) D (mm_T cI cL cS cH) A) (hA : ∀ q, s.heap.size ≤ q → A q) {v_keptMany : Int32} {v_done : Int32} {v_rowsOf : Int32} {v_columnsOf : Int32} {v_folded : Int32} {v_wronged : Int32} {v_tapeMany : Int32} {v_textMany : Int32} {v_base : Int32} {v_at : Int32} {v_ends : Int32} {v_fault : Int32} {v_opened : Int32} {v_bentMany : Int32} {v_bentWrong : Int32} {v_moreWorn : Int32} {v_planned : Int32} {v_allWrong : Int32} {v_allWorn : Int32} {v_z : Int32} {v_wishedField : Int32} {v_isFound : Bool} {v_bestWrong : Int32} {v_bestWorn : Int32} {v_bestMany : Int32} {v_soughtBy : Int32} {v_sought : Int32} {v_soughtAt : Int32} {v_foundMany : Int32} {v_foundOrder : Int32} {v_isKept : Bool} {v_imageRows : Int32} {v_imageColumns : Int32} {v_imageFolded : Int32} {v_imageWronged : Int32} {v_bodies : Int32} {v_limit : List Int32} {v_changeWas : List Int32} {v_changeIs : List Int32} {v_shapeRows : List Int32} {v_shapeColumns : List Int32} {v_row : List Int32} {v_column : List Int32} {v_below : List Int32} {v_face : List Int32} {v_worn : List Int32} {v_lastBend : List Int32} {v_tape : List Int32} {v_text : List Int32} {v_names : List Int32} {v_bends : List Int32} {v_high : List Int32} {v_to : List Int32} {v_pileSize : List Int32} {v_planLine : List Int32} {v_planWay : List Int32} {v_way1 : List Int32} {v_bestWay : List Int32} {v_order1 : List Int32} {v_placeIn : List Int32} {v_bodyKind : List Int32} {v_shelf : List Int32} {v_many : List Int32} {v_items : List Int64} {v_carried : List Int64} {r : Int32} {w_ran : Int32} {w_trace : List Int32} (N : Nat)  : ∀ (x2 : Int32) (v_ran : Int32) (v_ownKind : Int32) (v_ownNumber : Int32) (v_trace : List Int32) (H : Heap) (locs : List Loc) (ls : Array Slot), fX9_laysAs_10 N go x2 v_ran v_ownKind v_ownNumber v_trace = some (r, w_ran, w_trace) → va_P D mm_cl (wd_X9 cI cL cS cH a v_keptMany v_done v_rowsOf v_columnsOf v_folded v_wronged v_tapeMany v_textMany v_base v_at v_ends v_fault v_opened v_bentMany v_bentWrong v_moreWorn v_planned v_allWrong v_allWorn v_z v_wishedField v_isFound v_bestWrong v_bestWorn v_bestMany v_soughtBy v_sought v_soughtAt v_foundMany v_foundOrder v_isKept v_imageRows v_imageColumns v_imageFolded v_imageWronged v_bodies v_ran v_ownKind v_ownNumber v_limit v_changeWas v_changeIs v_shapeRows v_shapeColumns v_row v_column v_below v_face v_worn v_lastBend v_tape v_text v_names v_bends v_high v_to v_pileSize v_planLine v_planWay v_way1 v_bestWay v_order1 v_placeIn v_bodyKind v_trace v_shelf v_many v_items v_carried) H → va_D A (wd_X9 cI cL cS cH a v_keptMany v_done v_rowsOf v_columnsOf v_folded v_wronged v_tapeMany v_textMany v_base v_at v_ends v_fault v_opened v_bentMany v_bentWrong v_moreWorn v_planned v_allWrong v_allWorn v_z v_wishedField v_isFound v_bestWrong v_bestWorn v_bestMany v_soughtBy v_sought v_soughtAt v_foundMany v_foundOrder v_isKept v_imageRows v_imageColumns v_imageFolded v_imageWronged v_bodies v_ran v_ownKind v_ownNumber v_limit v_changeWas v_changeIs v_shapeRows v_shapeColumns v_row v_column v_below v_face v_worn v_lastBend v_tape v_text v_names v_bends v_high v_to v_pileSize v_planLine v_planWay v_way1 v_bestWay v_order1 v_placeIn v_bodyKind v_trace v_shelf v_many v_items v_carried) → va_S A s.heap H locs → lv_has ls 4 [(0, .ref (a 0)), (2, .int x2)] → W p l e (mm_rr d) s m args below meth c H locs 0 0 (mm_Z below D A (wd_X9 cI cL cS cH a v_keptMany v_done v_rowsOf v_columnsOf v_folded v_wronged v_tapeMany v_textMany v_base v_at v_ends v_fault v_opened v_bentMany v_bentWrong v_moreWorn v_planned v_allWrong v_allWorn v_z v_wishedField v_isFound v_bestWrong v_bestWorn v_bestMany v_soughtBy v_sought v_soughtAt v_foundMany v_foundOrder v_isKept v_imageRows v_imageColumns v_imageFolded v_imageWronged v_bodies w_ran v_ownKind v_ownNumber v_limit v_changeWas v_changeIs v_shapeRows v_shapeColumns v_row v_column v_below v_face v_worn v_lastBend v_tape v_text v_names v_bends v_high v_to v_pileSize v_planLine v_planWay v_way1 v_bestWay v_order1 v_placeIn v_bodyKind w_trace v_shelf v_many v_items v_carried) (some (.int r)) args s) (F0 m 10 ls []) := by
  obtain ⟨hx, hb, hml, hown, hts, hr, hlocks, hK, hSt⟩ := id C0
  intro x2 v_ran v_ownKind v_ownNumber v_trace H locs ls hf hP hD hS hl
  unfold fX9_laysAs_10 at hf
  refine lv_aload_n hx hb dX9_laysAs_10 rfl (lv_at hl 0 rfl) ?_
  refine lv_bipush (v := 41) hx hb dX9_laysAs_11 (by decide) ?_
  obtain ⟨w_30, w_31, hc_32, hf⟩ := mm_bd2s hf
  refine mm_callVF (q0 := 0) (ci := 9) (rest := []) C0 lk_X9_401 (ctX9_begins (a := a) (d := d - 1) (by omega) hc_32) (by omega) rfl hl.1 rfl (mm_cat rfl) dX9_laysAs_13 hP hD hA hS rfl rfl (fun H locs hP hD hS => ?_)
  refine W.eq (g2 := F0 m 16 ls []) rfl ?_
  refine lv_aload_n hx hb dX9_laysAs_16 rfl (lv_at hl 0 rfl) ?_
  refine lv_iconst (v := 2) hx hb dX9_laysAs_17 (by decide) ?_
  refine lv_iload_n hx hb dX9_laysAs_18 rfl (lv_at hl 1 rfl) ?_
  refine lv_iconst (v := 1) hx hb dX9_laysAs_19 (by decide) ?_
  refine lv_iadd hx hb dX9_laysAs_20 ?_
  obtain ⟨r_33, w_34, w_35, hc_36, hf⟩ := mm_bd3s hf
  refine mm_callVF (q0 := 0) (ci := 9) (rest := []) C0 lk_X9_410 (hgo a _ _ _ _ _ _ _ _ _ _ _ _ _ _ _ _ _ _ _ _ _ _ _ _ _ _ _ _ _ _ _ _ _ _ _ _ _ _ _ _ _ _ _ _ _ _ _ _ _ _ _ _ _ _ _ _ _ _ _ _ _ _ _ _ _ _ _ _ _ _ _ _ _ _ hc_36) (by omega) rfl hl.1 rfl (mm_cat rfl) dX9_laysAs_21 hP hD hA hS rfl rfl (fun H locs hP hD hS => ?_)
  refine W.eq (g2 := F0 m 24 ls [.int r_33]) rfl ?_
  apply mm_sub3 hf
  exact mm_iret C0 hP hD hS dX9_laysAs_24

def fX9_laysAso (N : Nat) (go : Int32 → Int32 → Int32 → Int32 → Int32 → List Int32 → Option (Int32 × Int32 × List Int32)) (x1 : Int32) (x2 : Int32) (v_ran : Int32) (v_ownKind : Int32) (v_ownNumber : Int32) (v_trace : List Int32) : Option (Int32 × Int32 × List Int32) :=
    if x1 = (3 : Int32) then
    (fX9_laysAs_10 N go x2 v_ran v_ownKind v_ownNumber v_trace)
    else (if x1 = (5 : Int32) then
    (fX9_laysAs_10 N go x2 v_ran v_ownKind v_ownNumber v_trace)
    else (if x1 = (2 : Int32) then
    (mm_bd2 (fX9_begins N (30 : Int32) v_ran v_trace) (fun (w_23 : Int32) (w_24 : List Int32) =>
    mm_bd3 (go (0 : Int32) x2 w_23 v_ownKind v_ownNumber w_24) (fun (r_26 : Int32) (w_27 : Int32) (w_28 : List Int32) =>
    some ((-r_26), w_27, w_28))))
    else (if x1 = (7 : Int32) then
    (mm_bd2 (fX9_begins N (80 : Int32) v_ran v_trace) (fun (w_12 : Int32) (w_13 : List Int32) =>
    mm_bd3 (go (4 : Int32) x2 w_12 v_ownKind v_ownNumber w_13) (fun (r_15 : Int32) (w_16 : Int32) (w_17 : List Int32) =>
    mm_bd3 (fX9_wearsAs N 4 v_ownKind (2 : Int32) w_16 v_ownKind v_ownNumber w_17) (fun (r_19 : Int32) (w_20 : Int32) (w_21 : List Int32) =>
    some ((r_15 + r_19), w_20, w_21)))))
    else (mm_bd2 (fX9_begins N (10 : Int32) v_ran v_trace) (fun (w_5 : Int32) (w_6 : List Int32) =>
    mm_bd3 (fX9_foldsAs N 4 v_ownKind x2 w_5 v_ownNumber w_6) (fun (r_8 : Int32) (w_9 : Int32) (w_10 : List Int32) =>
    some ((r_8 * (2 : Int32)), w_9, w_10)))))))

set_option maxHeartbeats 4000000 in
set_option maxRecDepth 100000 in
theorem ctX9_laysAso {l : Launch} {D : va_G} {cI cL cS cH : ClassId} {a : Nat → Nat} {x1 : Int32} {x2 : Int32} {v_keptMany : Int32} {v_done : Int32} {v_rowsOf : Int32} {v_columnsOf : Int32} {v_folded : Int32} {v_wronged : Int32} {v_tapeMany : Int32} {v_textMany : Int32} {v_base : Int32} {v_at : Int32} {v_ends : Int32} {v_fault : Int32} {v_opened : Int32} {v_bentMany : Int32} {v_bentWrong : Int32} {v_moreWorn : Int32} {v_planned : Int32} {v_allWrong : Int32} {v_allWorn : Int32} {v_z : Int32} {v_wishedField : Int32} {v_isFound : Bool} {v_bestWrong : Int32} {v_bestWorn : Int32} {v_bestMany : Int32} {v_soughtBy : Int32} {v_sought : Int32} {v_soughtAt : Int32} {v_foundMany : Int32} {v_foundOrder : Int32} {v_isKept : Bool} {v_imageRows : Int32} {v_imageColumns : Int32} {v_imageFolded : Int32} {v_imageWronged : Int32} {v_bodies : Int32} {v_ran : Int32} {v_ownKind : Int32} {v_ownNumber : Int32} {v_limit : List Int32} {v_changeWas : List Int32} {v_changeIs : List Int32} {v_shapeRows : List Int32} {v_shapeColumns : List Int32} {v_row : List Int32} {v_column : List Int32} {v_below : List Int32} {v_face : List Int32} {v_worn : List Int32} {v_lastBend : List Int32} {v_tape : List Int32} {v_text : List Int32} {v_names : List Int32} {v_bends : List Int32} {v_high : List Int32} {v_to : List Int32} {v_pileSize : List Int32} {v_planLine : List Int32} {v_planWay : List Int32} {v_way1 : List Int32} {v_bestWay : List Int32} {v_order1 : List Int32} {v_placeIn : List Int32} {v_bodyKind : List Int32} {v_trace : List Int32} {v_shelf : List Int32} {v_many : List Int32} {v_items : List Int64} {v_carried : List Int64} {r : Int32} {w_ran : Int32} {w_trace : List Int32} {N d : Nat} {go : Int32 → Int32 → Int32 → Int32 → Int32 → List Int32 → Option (Int32 × Int32 × List Int32)} {dgo : Nat} (hgo : ∀ (a : Nat → Nat) (x1 : Int32) (x2 : Int32) (v_keptMany : Int32) (v_done : Int32) (v_rowsOf : Int32) (v_columnsOf : Int32) (v_folded : Int32) (v_wronged : Int32) (v_tapeMany : Int32) (v_textMany : Int32) (v_base : Int32) (v_at : Int32) (v_ends : Int32) (v_fault : Int32) (v_opened : Int32) (v_bentMany : Int32) (v_bentWrong : Int32) (v_moreWorn : Int32) (v_planned : Int32) (v_allWrong : Int32) (v_allWorn : Int32) (v_z : Int32) (v_wishedField : Int32) (v_isFound : Bool) (v_bestWrong : Int32) (v_bestWorn : Int32) (v_bestMany : Int32) (v_soughtBy : Int32) (v_sought : Int32) (v_soughtAt : Int32) (v_foundMany : Int32) (v_foundOrder : Int32) (v_isKept : Bool) (v_imageRows : Int32) (v_imageColumns : Int32) (v_imageFolded : Int32) (v_imageWronged : Int32) (v_bodies : Int32) (v_ran : Int32) (v_ownKind : Int32) (v_ownNumber : Int32) (v_limit : List Int32) (v_changeWas : List Int32) (v_changeIs : List Int32) (v_shapeRows : List Int32) (v_shapeColumns : List Int32) (v_row : List Int32) (v_column : List Int32) (v_below : List Int32) (v_face : List Int32) (v_worn : List Int32) (v_lastBend : List Int32) (v_tape : List Int32) (v_text : List Int32) (v_names : List Int32) (v_bends : List Int32) (v_high : List Int32) (v_to : List Int32) (v_pileSize : List Int32) (v_planLine : List Int32) (v_planWay : List Int32) (v_way1 : List Int32) (v_bestWay : List Int32) (v_order1 : List Int32) (v_placeIn : List Int32) (v_bodyKind : List Int32) (v_trace : List Int32) (v_shelf : List Int32) (v_many : List Int32) (v_items : List Int64) (v_carried : List Int64) (r : Int32) (w_ran : Int32) (w_trace : List Int32), go x1 x2 v_ran v_ownKind v_ownNumber v_trace = some (r, w_ran, w_trace) → mm_Ct l yX9_laysAs cX9_laysAs 4 (some .int) dgo D (mm_T cI cL cS cH) [.ref (a 0), .int x1, .int x2] (wd_X9 cI cL cS cH a v_keptMany v_done v_rowsOf v_columnsOf v_folded v_wronged v_tapeMany v_textMany v_base v_at v_ends v_fault v_opened v_bentMany v_bentWrong v_moreWorn v_planned v_allWrong v_allWorn v_z v_wishedField v_isFound v_bestWrong v_bestWorn v_bestMany v_soughtBy v_sought v_soughtAt v_foundMany v_foundOrder v_isKept v_imageRows v_imageColumns v_imageFolded v_imageWronged v_bodies v_ran v_ownKind v_ownNumber v_limit v_changeWas v_changeIs v_shapeRows v_shapeColumns v_row v_column v_below v_face v_worn v_lastBend v_tape v_text v_names v_bends v_high v_to v_pileSize v_planLine v_planWay v_way1 v_bestWay v_order1 v_placeIn v_bodyKind v_trace v_shelf v_many v_items v_carried) (wd_X9 cI cL cS cH a v_keptMany v_done v_rowsOf v_columnsOf v_folded v_wronged v_tapeMany v_textMany v_base v_at v_ends v_fault v_opened v_bentMany v_bentWrong v_moreWorn v_planned v_allWrong v_allWorn v_z v_wishedField v_isFound v_bestWrong v_bestWorn v_bestMany v_soughtBy v_sought v_soughtAt v_foundMany v_foundOrder v_isKept v_imageRows v_imageColumns v_imageFolded v_imageWronged v_bodies w_ran v_ownKind v_ownNumber v_limit v_changeWas v_changeIs v_shapeRows v_shapeColumns v_row v_column v_below v_face v_worn v_lastBend v_tape v_text v_names v_bends v_high v_to v_pileSize v_planLine v_planWay v_way1 v_bestWay v_order1 v_placeIn v_bodyKind w_trace v_shelf v_many v_items v_carried) (some (.int r))) (hE : 9 ≤ dgo) (hd : dgo + 1 ≤ d) (hf : fX9_laysAso N go x1 x2 v_ran v_ownKind v_ownNumber v_trace = some (r, w_ran, w_trace)) : mm_Ct l yX9_laysAs cX9_laysAs 4 (some .int) d D (mm_T cI cL cS cH) [.ref (a 0), .int x1, .int x2] (wd_X9 cI cL cS cH a v_keptMany v_done v_rowsOf v_columnsOf v_folded v_wronged v_tapeMany v_textMany v_base v_at v_ends v_fault v_opened v_bentMany v_bentWrong v_moreWorn v_planned v_allWrong v_allWorn v_z v_wishedField v_isFound v_bestWrong v_bestWorn v_bestMany v_soughtBy v_sought v_soughtAt v_foundMany v_foundOrder v_isKept v_imageRows v_imageColumns v_imageFolded v_imageWronged v_bodies v_ran v_ownKind v_ownNumber v_limit v_changeWas v_changeIs v_shapeRows v_shapeColumns v_row v_column v_below v_face v_worn v_lastBend v_tape v_text v_names v_bends v_high v_to v_pileSize v_planLine v_planWay v_way1 v_bestWay v_order1 v_placeIn v_bodyKind v_trace v_shelf v_many v_items v_carried) (wd_X9 cI cL cS cH a v_keptMany v_done v_rowsOf v_columnsOf v_folded v_wronged v_tapeMany v_textMany v_base v_at v_ends v_fault v_opened v_bentMany v_bentWrong v_moreWorn v_planned v_allWrong v_allWorn v_z v_wishedField v_isFound v_bestWrong v_bestWorn v_bestMany v_soughtBy v_sought v_soughtAt v_foundMany v_foundOrder v_isKept v_imageRows v_imageColumns v_imageFolded v_imageWronged v_bodies w_ran v_ownKind v_ownNumber v_limit v_changeWas v_changeIs v_shapeRows v_shapeColumns v_row v_column v_below v_face v_worn v_lastBend v_tape v_text v_names v_bends v_high v_to v_pileSize v_planLine v_planWay v_way1 v_bestWay v_order1 v_placeIn v_bodyKind w_trace v_shelf v_many v_items v_carried) (some (.int r)) := by
  refine mm_of (by decide) (Nat.le_of_ble_eq_true rfl) ?_
  intro p e s m args below meth c A H locs ls C0 hP hD hA hS hl
  have C0 : mm_Cx p s m args meth c RX9 cX9_laysAs 4 (some .int) D (mm_T cI cL cS cH) A := C0
  obtain ⟨hx, hb, hml, hown, hts, hr, hlocks, hK, hSt⟩ := id C0
  have hl : lv_has ls 4 [(0, .ref (a 0)), (1, .int x1), (2, .int x2)] := hl
  unfold fX9_laysAso at hf
  refine lv_iload_n hx hb dX9_laysAs_0 rfl (lv_at hl 1 rfl) ?_
  refine lv_iconst (v := 3) hx hb dX9_laysAs_1 (by decide) ?_
  refine lv_icmp_eq (tgt := 10) hx hb dX9_laysAs_2 (by decide) (fun c_1 => ?_) (fun c_1 => ?_)
  · have hf := mm_ip hf c_1
    exact tX9_laysAs_10 hgo hE hd C0 hA N  _ _ _ _ _ H locs ls hf hP hD hS (lv_sub hl [0, 2] rfl)
  · have hf := mm_in hf c_1
    refine lv_iload_n hx hb dX9_laysAs_5 rfl (lv_at hl 1 rfl) ?_
    refine lv_iconst (v := 5) hx hb dX9_laysAs_6 (by decide) ?_
    refine lv_icmp_ne (tgt := 25) hx hb dX9_laysAs_7 (by decide) (fun c_2 => ?_) (fun c_2 => ?_)
    · have hf := mm_in hf c_2
      refine lv_iload_n hx hb dX9_laysAs_25 rfl (lv_at hl 1 rfl) ?_
      refine lv_iconst (v := 2) hx hb dX9_laysAs_26 (by decide) ?_
      refine lv_icmp_ne (tgt := 44) hx hb dX9_laysAs_27 (by decide) (fun c_3 => ?_) (fun c_3 => ?_)
      · have hf := mm_in hf c_3
        refine lv_iload_n hx hb dX9_laysAs_44 rfl (lv_at hl 1 rfl) ?_
        refine lv_bipush (v := 7) hx hb dX9_laysAs_45 (by decide) ?_
        refine lv_icmp_ne (tgt := 75) hx hb dX9_laysAs_47 (by decide) (fun c_4 => ?_) (fun c_4 => ?_)
        · have hf := mm_in hf c_4
          refine lv_aload_n hx hb dX9_laysAs_75 rfl (lv_at hl 0 rfl) ?_
          refine lv_bipush (v := 10) hx hb dX9_laysAs_76 (by decide) ?_
          obtain ⟨w_5, w_6, hc_7, hf⟩ := mm_bd2s hf
          refine mm_callVF (q0 := 0) (ci := 9) (rest := []) C0 lk_X9_401 (ctX9_begins (a := a) (d := d - 1) (by omega) hc_7) (by omega) rfl hl.1 rfl (mm_cat rfl) dX9_laysAs_78 hP hD hA hS rfl rfl (fun H locs hP hD hS => ?_)
          refine W.eq (g2 := F0 m 81 ls []) rfl ?_
          refine lv_aload_n hx hb dX9_laysAs_81 rfl (lv_at hl 0 rfl) ?_
          refine lv_aload_n hx hb dX9_laysAs_82 rfl (lv_at hl 0 rfl) ?_
          refine mm_get C0 hP iw_X9 0 rfl rfl 63 (by decide) fl_X9_413 rfl dX9_laysAs_83 ?_
          refine lv_iload_n hx hb dX9_laysAs_86 rfl (lv_at hl 2 rfl) ?_
          obtain ⟨r_8, w_9, w_10, hc_11, hf⟩ := mm_bd3s hf
          refine mm_callVF (q0 := 0) (ci := 9) (rest := []) C0 lk_X9_404 (ctX9_foldsAs (N := N) 4 (d - 1) (by omega) a _ _ _ _ _ _ _ _ _ _ _ _ _ _ _ _ _ _ _ _ _ _ _ _ _ _ _ _ _ _ _ _ _ _ _ _ _ _ _ _ _ _ _ _ _ _ _ _ _ _ _ _ _ _ _ _ _ _ _ _ _ _ _ _ _ _ _ _ _ _ _ _ _ _ hc_11) (by omega) rfl hl.1 rfl (mm_cat rfl) dX9_laysAs_87 hP hD hA hS rfl rfl (fun H locs hP hD hS => ?_)
          refine W.eq (g2 := F0 m 90 ls [.int r_8]) rfl ?_
          refine lv_iconst (v := 2) hx hb dX9_laysAs_90 (by decide) ?_
          refine lv_imul hx hb dX9_laysAs_91 ?_
          apply mm_sub3 hf
          exact mm_iret C0 hP hD hS dX9_laysAs_92
        · have hf := mm_ip hf c_4
          refine lv_aload_n hx hb dX9_laysAs_50 rfl (lv_at hl 0 rfl) ?_
          refine lv_bipush (v := 80) hx hb dX9_laysAs_51 (by decide) ?_
          obtain ⟨w_12, w_13, hc_14, hf⟩ := mm_bd2s hf
          refine mm_callVF (q0 := 0) (ci := 9) (rest := []) C0 lk_X9_401 (ctX9_begins (a := a) (d := d - 1) (by omega) hc_14) (by omega) rfl hl.1 rfl (mm_cat rfl) dX9_laysAs_53 hP hD hA hS rfl rfl (fun H locs hP hD hS => ?_)
          refine W.eq (g2 := F0 m 56 ls []) rfl ?_
          refine lv_aload_n hx hb dX9_laysAs_56 rfl (lv_at hl 0 rfl) ?_
          refine lv_iconst (v := 4) hx hb dX9_laysAs_57 (by decide) ?_
          refine lv_iload_n hx hb dX9_laysAs_58 rfl (lv_at hl 2 rfl) ?_
          obtain ⟨r_15, w_16, w_17, hc_18, hf⟩ := mm_bd3s hf
          refine mm_callVF (q0 := 0) (ci := 9) (rest := []) C0 lk_X9_410 (hgo a _ _ _ _ _ _ _ _ _ _ _ _ _ _ _ _ _ _ _ _ _ _ _ _ _ _ _ _ _ _ _ _ _ _ _ _ _ _ _ _ _ _ _ _ _ _ _ _ _ _ _ _ _ _ _ _ _ _ _ _ _ _ _ _ _ _ _ _ _ _ _ _ _ _ hc_18) (by omega) rfl hl.1 rfl (mm_cat rfl) dX9_laysAs_59 hP hD hA hS rfl rfl (fun H locs hP hD hS => ?_)
          refine W.eq (g2 := F0 m 62 ls [.int r_15]) rfl ?_
          refine lv_istore_n (lv' := [(3, .int r_15), (0, .ref (a 0)), (1, .int x1), (2, .int x2)]) hx hb dX9_laysAs_62 rfl hl (by decide) rfl (fun ls hl => ?_)
          refine lv_iload_n hx hb dX9_laysAs_63 rfl (lv_at hl 0 rfl) ?_
          refine lv_aload_n hx hb dX9_laysAs_64 rfl (lv_at hl 1 rfl) ?_
          refine lv_aload_n hx hb dX9_laysAs_65 rfl (lv_at hl 1 rfl) ?_
          refine mm_get C0 hP iw_X9 0 rfl rfl 63 (by decide) fl_X9_413 rfl dX9_laysAs_66 ?_
          refine lv_iconst (v := 2) hx hb dX9_laysAs_69 (by decide) ?_
          obtain ⟨r_19, w_20, w_21, hc_22, hf⟩ := mm_bd3s hf
          refine mm_callVF (q0 := 0) (ci := 9) (rest := [.int r_15]) C0 lk_X9_416 (ctX9_wearsAs (N := N) 4 (d - 1) (by omega) a _ _ _ _ _ _ _ _ _ _ _ _ _ _ _ _ _ _ _ _ _ _ _ _ _ _ _ _ _ _ _ _ _ _ _ _ _ _ _ _ _ _ _ _ _ _ _ _ _ _ _ _ _ _ _ _ _ _ _ _ _ _ _ _ _ _ _ _ _ _ _ _ _ _ hc_22) (by omega) rfl hl.1 rfl (mm_cat rfl) dX9_laysAs_70 hP hD hA hS rfl rfl (fun H locs hP hD hS => ?_)
          refine W.eq (g2 := F0 m 73 ls [.int r_19, .int r_15]) rfl ?_
          refine lv_iadd hx hb dX9_laysAs_73 ?_
          apply mm_sub3 hf
          exact mm_iret C0 hP hD hS dX9_laysAs_74
      · have hf := mm_ip hf c_3
        refine lv_aload_n hx hb dX9_laysAs_30 rfl (lv_at hl 0 rfl) ?_
        refine lv_bipush (v := 30) hx hb dX9_laysAs_31 (by decide) ?_
        obtain ⟨w_23, w_24, hc_25, hf⟩ := mm_bd2s hf
        refine mm_callVF (q0 := 0) (ci := 9) (rest := []) C0 lk_X9_401 (ctX9_begins (a := a) (d := d - 1) (by omega) hc_25) (by omega) rfl hl.1 rfl (mm_cat rfl) dX9_laysAs_33 hP hD hA hS rfl rfl (fun H locs hP hD hS => ?_)
        refine W.eq (g2 := F0 m 36 ls []) rfl ?_
        refine lv_aload_n hx hb dX9_laysAs_36 rfl (lv_at hl 0 rfl) ?_
        refine lv_iconst (v := 0) hx hb dX9_laysAs_37 (by decide) ?_
        refine lv_iload_n hx hb dX9_laysAs_38 rfl (lv_at hl 2 rfl) ?_
        obtain ⟨r_26, w_27, w_28, hc_29, hf⟩ := mm_bd3s hf
        refine mm_callVF (q0 := 0) (ci := 9) (rest := []) C0 lk_X9_410 (hgo a _ _ _ _ _ _ _ _ _ _ _ _ _ _ _ _ _ _ _ _ _ _ _ _ _ _ _ _ _ _ _ _ _ _ _ _ _ _ _ _ _ _ _ _ _ _ _ _ _ _ _ _ _ _ _ _ _ _ _ _ _ _ _ _ _ _ _ _ _ _ _ _ _ _ hc_29) (by omega) rfl hl.1 rfl (mm_cat rfl) dX9_laysAs_39 hP hD hA hS rfl rfl (fun H locs hP hD hS => ?_)
        refine W.eq (g2 := F0 m 42 ls [.int r_26]) rfl ?_
        refine lv_ineg hx hb dX9_laysAs_42 ?_
        apply mm_sub3 hf
        exact mm_iret C0 hP hD hS dX9_laysAs_43
    · have hf := mm_ip hf c_2
      exact tX9_laysAs_10 hgo hE hd C0 hA N  _ _ _ _ _ H locs ls hf hP hD hS (lv_sub hl [0, 2] rfl)

def fX9_laysAs (N : Nat) : Nat → Int32 → Int32 → Int32 → Int32 → Int32 → List Int32 → Option (Int32 × Int32 × List Int32)
  | 0 => fun _ _ _ _ _ _ => none
  | M + 1 => fX9_laysAso N (fX9_laysAs N M)
set_option maxHeartbeats 4000000 in
set_option maxRecDepth 100000 in
theorem ctX9_laysAs {l : Launch} {D : va_G} {cI cL cS cH : ClassId} {N : Nat} : ∀ (M d : Nat), 9 + 1 * M ≤ d → ∀ (a : Nat → Nat) (x1 : Int32) (x2 : Int32) (v_keptMany : Int32) (v_done : Int32) (v_rowsOf : Int32) (v_columnsOf : Int32) (v_folded : Int32) (v_wronged : Int32) (v_tapeMany : Int32) (v_textMany : Int32) (v_base : Int32) (v_at : Int32) (v_ends : Int32) (v_fault : Int32) (v_opened : Int32) (v_bentMany : Int32) (v_bentWrong : Int32) (v_moreWorn : Int32) (v_planned : Int32) (v_allWrong : Int32) (v_allWorn : Int32) (v_z : Int32) (v_wishedField : Int32) (v_isFound : Bool) (v_bestWrong : Int32) (v_bestWorn : Int32) (v_bestMany : Int32) (v_soughtBy : Int32) (v_sought : Int32) (v_soughtAt : Int32) (v_foundMany : Int32) (v_foundOrder : Int32) (v_isKept : Bool) (v_imageRows : Int32) (v_imageColumns : Int32) (v_imageFolded : Int32) (v_imageWronged : Int32) (v_bodies : Int32) (v_ran : Int32) (v_ownKind : Int32) (v_ownNumber : Int32) (v_limit : List Int32) (v_changeWas : List Int32) (v_changeIs : List Int32) (v_shapeRows : List Int32) (v_shapeColumns : List Int32) (v_row : List Int32) (v_column : List Int32) (v_below : List Int32) (v_face : List Int32) (v_worn : List Int32) (v_lastBend : List Int32) (v_tape : List Int32) (v_text : List Int32) (v_names : List Int32) (v_bends : List Int32) (v_high : List Int32) (v_to : List Int32) (v_pileSize : List Int32) (v_planLine : List Int32) (v_planWay : List Int32) (v_way1 : List Int32) (v_bestWay : List Int32) (v_order1 : List Int32) (v_placeIn : List Int32) (v_bodyKind : List Int32) (v_trace : List Int32) (v_shelf : List Int32) (v_many : List Int32) (v_items : List Int64) (v_carried : List Int64) (r : Int32) (w_ran : Int32) (w_trace : List Int32), fX9_laysAs N M x1 x2 v_ran v_ownKind v_ownNumber v_trace = some (r, w_ran, w_trace) → mm_Ct l yX9_laysAs cX9_laysAs 4 (some .int) d D (mm_T cI cL cS cH) [.ref (a 0), .int x1, .int x2] (wd_X9 cI cL cS cH a v_keptMany v_done v_rowsOf v_columnsOf v_folded v_wronged v_tapeMany v_textMany v_base v_at v_ends v_fault v_opened v_bentMany v_bentWrong v_moreWorn v_planned v_allWrong v_allWorn v_z v_wishedField v_isFound v_bestWrong v_bestWorn v_bestMany v_soughtBy v_sought v_soughtAt v_foundMany v_foundOrder v_isKept v_imageRows v_imageColumns v_imageFolded v_imageWronged v_bodies v_ran v_ownKind v_ownNumber v_limit v_changeWas v_changeIs v_shapeRows v_shapeColumns v_row v_column v_below v_face v_worn v_lastBend v_tape v_text v_names v_bends v_high v_to v_pileSize v_planLine v_planWay v_way1 v_bestWay v_order1 v_placeIn v_bodyKind v_trace v_shelf v_many v_items v_carried) (wd_X9 cI cL cS cH a v_keptMany v_done v_rowsOf v_columnsOf v_folded v_wronged v_tapeMany v_textMany v_base v_at v_ends v_fault v_opened v_bentMany v_bentWrong v_moreWorn v_planned v_allWrong v_allWorn v_z v_wishedField v_isFound v_bestWrong v_bestWorn v_bestMany v_soughtBy v_sought v_soughtAt v_foundMany v_foundOrder v_isKept v_imageRows v_imageColumns v_imageFolded v_imageWronged v_bodies w_ran v_ownKind v_ownNumber v_limit v_changeWas v_changeIs v_shapeRows v_shapeColumns v_row v_column v_below v_face v_worn v_lastBend v_tape v_text v_names v_bends v_high v_to v_pileSize v_planLine v_planWay v_way1 v_bestWay v_order1 v_placeIn v_bodyKind w_trace v_shelf v_many v_items v_carried) (some (.int r)) := by
  intro M
  induction M with
  | zero =>
    intro d hd a x1 x2 v_keptMany v_done v_rowsOf v_columnsOf v_folded v_wronged v_tapeMany v_textMany v_base v_at v_ends v_fault v_opened v_bentMany v_bentWrong v_moreWorn v_planned v_allWrong v_allWorn v_z v_wishedField v_isFound v_bestWrong v_bestWorn v_bestMany v_soughtBy v_sought v_soughtAt v_foundMany v_foundOrder v_isKept v_imageRows v_imageColumns v_imageFolded v_imageWronged v_bodies v_ran v_ownKind v_ownNumber v_limit v_changeWas v_changeIs v_shapeRows v_shapeColumns v_row v_column v_below v_face v_worn v_lastBend v_tape v_text v_names v_bends v_high v_to v_pileSize v_planLine v_planWay v_way1 v_bestWay v_order1 v_placeIn v_bodyKind v_trace v_shelf v_many v_items v_carried r w_ran w_trace hf
    cases (show none = some _ from hf)
  | succ M ih =>
    intro d hd a x1 x2 v_keptMany v_done v_rowsOf v_columnsOf v_folded v_wronged v_tapeMany v_textMany v_base v_at v_ends v_fault v_opened v_bentMany v_bentWrong v_moreWorn v_planned v_allWrong v_allWorn v_z v_wishedField v_isFound v_bestWrong v_bestWorn v_bestMany v_soughtBy v_sought v_soughtAt v_foundMany v_foundOrder v_isKept v_imageRows v_imageColumns v_imageFolded v_imageWronged v_bodies v_ran v_ownKind v_ownNumber v_limit v_changeWas v_changeIs v_shapeRows v_shapeColumns v_row v_column v_below v_face v_worn v_lastBend v_tape v_text v_names v_bends v_high v_to v_pileSize v_planLine v_planWay v_way1 v_bestWay v_order1 v_placeIn v_bodyKind v_trace v_shelf v_many v_items v_carried r w_ran w_trace hf
    exact ctX9_laysAso (N := N) (ih (9 + 1 * M) (Nat.le_refl _)) (Nat.le_add_right _ _) (by omega) hf

theorem dX9_tellsAs_0 : decode cX9_tellsAs 0 = .ok (.iload_n 1, 1) := by decide +kernel
theorem dX9_tellsAs_1 : decode cX9_tellsAs 1 = .ok (.iconst 5, 1) := by decide +kernel
theorem dX9_tellsAs_2 : decode cX9_tellsAs 2 = .ok (.if_icmp .ne 18, 3) := by decide +kernel
theorem dX9_tellsAs_5 : decode cX9_tellsAs 5 = .ok (.aload_n 0, 1) := by decide +kernel
theorem dX9_tellsAs_6 : decode cX9_tellsAs 6 = .ok (.bipush 60, 2) := by decide +kernel
theorem dX9_tellsAs_8 : decode cX9_tellsAs 8 = .ok (.invokevirtual 401, 3) := by decide +kernel
theorem dX9_tellsAs_11 : decode cX9_tellsAs 11 = .ok (.aload_n 0, 1) := by decide +kernel
theorem dX9_tellsAs_12 : decode cX9_tellsAs 12 = .ok (.iconst 3, 1) := by decide +kernel
theorem dX9_tellsAs_13 : decode cX9_tellsAs 13 = .ok (.iload_n 2, 1) := by decide +kernel
theorem dX9_tellsAs_14 : decode cX9_tellsAs 14 = .ok (.invokevirtual 419, 3) := by decide +kernel
theorem dX9_tellsAs_17 : decode cX9_tellsAs 17 = .ok (.iconst 5, 1) := by decide +kernel
theorem dX9_tellsAs_18 : decode cX9_tellsAs 18 = .ok (.ixor, 1) := by decide +kernel
theorem dX9_tellsAs_19 : decode cX9_tellsAs 19 = .ok (.ireturn, 1) := by decide +kernel
theorem dX9_tellsAs_20 : decode cX9_tellsAs 20 = .ok (.iload_n 1, 1) := by decide +kernel
theorem dX9_tellsAs_21 : decode cX9_tellsAs 21 = .ok (.bipush 7, 2) := by decide +kernel
theorem dX9_tellsAs_23 : decode cX9_tellsAs 23 = .ok (.if_icmp .ne 18, 3) := by decide +kernel
theorem dX9_tellsAs_26 : decode cX9_tellsAs 26 = .ok (.aload_n 0, 1) := by decide +kernel
theorem dX9_tellsAs_27 : decode cX9_tellsAs 27 = .ok (.bipush 81, 2) := by decide +kernel
theorem dX9_tellsAs_29 : decode cX9_tellsAs 29 = .ok (.invokevirtual 401, 3) := by decide +kernel
theorem dX9_tellsAs_32 : decode cX9_tellsAs 32 = .ok (.aload_n 0, 1) := by decide +kernel
theorem dX9_tellsAs_33 : decode cX9_tellsAs 33 = .ok (.iconst 4, 1) := by decide +kernel
theorem dX9_tellsAs_34 : decode cX9_tellsAs 34 = .ok (.iload_n 2, 1) := by decide +kernel
theorem dX9_tellsAs_35 : decode cX9_tellsAs 35 = .ok (.invokevirtual 419, 3) := by decide +kernel
theorem dX9_tellsAs_38 : decode cX9_tellsAs 38 = .ok (.iconst 1, 1) := by decide +kernel
theorem dX9_tellsAs_39 : decode cX9_tellsAs 39 = .ok (.isub, 1) := by decide +kernel
theorem dX9_tellsAs_40 : decode cX9_tellsAs 40 = .ok (.ireturn, 1) := by decide +kernel
theorem dX9_tellsAs_41 : decode cX9_tellsAs 41 = .ok (.aload_n 0, 1) := by decide +kernel
theorem dX9_tellsAs_42 : decode cX9_tellsAs 42 = .ok (.iconst 2, 1) := by decide +kernel
theorem dX9_tellsAs_43 : decode cX9_tellsAs 43 = .ok (.invokevirtual 401, 3) := by decide +kernel
theorem dX9_tellsAs_46 : decode cX9_tellsAs 46 = .ok (.aload_n 0, 1) := by decide +kernel
theorem dX9_tellsAs_47 : decode cX9_tellsAs 47 = .ok (.aload_n 0, 1) := by decide +kernel
theorem dX9_tellsAs_48 : decode cX9_tellsAs 48 = .ok (.getfield 413, 3) := by decide +kernel
theorem dX9_tellsAs_51 : decode cX9_tellsAs 51 = .ok (.iload_n 2, 1) := by decide +kernel
theorem dX9_tellsAs_52 : decode cX9_tellsAs 52 = .ok (.invokevirtual 410, 3) := by decide +kernel
theorem dX9_tellsAs_55 : decode cX9_tellsAs 55 = .ok (.istore_n 3, 1) := by decide +kernel
theorem dX9_tellsAs_56 : decode cX9_tellsAs 56 = .ok (.iload_n 3, 1) := by decide +kernel
theorem dX9_tellsAs_57 : decode cX9_tellsAs 57 = .ok (.aload_n 0, 1) := by decide +kernel
theorem dX9_tellsAs_58 : decode cX9_tellsAs 58 = .ok (.aload_n 0, 1) := by decide +kernel
theorem dX9_tellsAs_59 : decode cX9_tellsAs 59 = .ok (.getfield 413, 3) := by decide +kernel
theorem dX9_tellsAs_62 : decode cX9_tellsAs 62 = .ok (.iconst 1, 1) := by decide +kernel
theorem dX9_tellsAs_63 : decode cX9_tellsAs 63 = .ok (.invokevirtual 416, 3) := by decide +kernel
theorem dX9_tellsAs_66 : decode cX9_tellsAs 66 = .ok (.isub, 1) := by decide +kernel
theorem dX9_tellsAs_67 : decode cX9_tellsAs 67 = .ok (.ireturn, 1) := by decide +kernel
def fX9_tellsAso (N : Nat) (go : Int32 → Int32 → Int32 → Int32 → Int32 → List Int32 → Option (Int32 × Int32 × List Int32)) (x1 : Int32) (x2 : Int32) (v_ran : Int32) (v_ownKind : Int32) (v_ownNumber : Int32) (v_trace : List Int32) : Option (Int32 × Int32 × List Int32) :=
    if x1 = (5 : Int32) then
    (mm_bd2 (fX9_begins N (60 : Int32) v_ran v_trace) (fun (w_21 : Int32) (w_22 : List Int32) =>
    mm_bd3 (go (3 : Int32) x2 w_21 v_ownKind v_ownNumber w_22) (fun (r_24 : Int32) (w_25 : Int32) (w_26 : List Int32) =>
    some ((r_24 ^^^ (5 : Int32)), w_25, w_26))))
    else (if x1 = (7 : Int32) then
    (mm_bd2 (fX9_begins N (81 : Int32) v_ran v_trace) (fun (w_14 : Int32) (w_15 : List Int32) =>
    mm_bd3 (go (4 : Int32) x2 w_14 v_ownKind v_ownNumber w_15) (fun (r_17 : Int32) (w_18 : Int32) (w_19 : List Int32) =>
    some ((r_17 - (1 : Int32)), w_18, w_19))))
    else (mm_bd2 (fX9_begins N (2 : Int32) v_ran v_trace) (fun (w_3 : Int32) (w_4 : List Int32) =>
    mm_bd3 (fX9_laysAs N 5 v_ownKind x2 w_3 v_ownKind v_ownNumber w_4) (fun (r_6 : Int32) (w_7 : Int32) (w_8 : List Int32) =>
    mm_bd3 (fX9_wearsAs N 4 v_ownKind (1 : Int32) w_7 v_ownKind v_ownNumber w_8) (fun (r_10 : Int32) (w_11 : Int32) (w_12 : List Int32) =>
    some ((r_6 - r_10), w_11, w_12))))))

set_option maxHeartbeats 4000000 in
set_option maxRecDepth 100000 in
theorem ctX9_tellsAso {l : Launch} {D : va_G} {cI cL cS cH : ClassId} {a : Nat → Nat} {x1 : Int32} {x2 : Int32} {v_keptMany : Int32} {v_done : Int32} {v_rowsOf : Int32} {v_columnsOf : Int32} {v_folded : Int32} {v_wronged : Int32} {v_tapeMany : Int32} {v_textMany : Int32} {v_base : Int32} {v_at : Int32} {v_ends : Int32} {v_fault : Int32} {v_opened : Int32} {v_bentMany : Int32} {v_bentWrong : Int32} {v_moreWorn : Int32} {v_planned : Int32} {v_allWrong : Int32} {v_allWorn : Int32} {v_z : Int32} {v_wishedField : Int32} {v_isFound : Bool} {v_bestWrong : Int32} {v_bestWorn : Int32} {v_bestMany : Int32} {v_soughtBy : Int32} {v_sought : Int32} {v_soughtAt : Int32} {v_foundMany : Int32} {v_foundOrder : Int32} {v_isKept : Bool} {v_imageRows : Int32} {v_imageColumns : Int32} {v_imageFolded : Int32} {v_imageWronged : Int32} {v_bodies : Int32} {v_ran : Int32} {v_ownKind : Int32} {v_ownNumber : Int32} {v_limit : List Int32} {v_changeWas : List Int32} {v_changeIs : List Int32} {v_shapeRows : List Int32} {v_shapeColumns : List Int32} {v_row : List Int32} {v_column : List Int32} {v_below : List Int32} {v_face : List Int32} {v_worn : List Int32} {v_lastBend : List Int32} {v_tape : List Int32} {v_text : List Int32} {v_names : List Int32} {v_bends : List Int32} {v_high : List Int32} {v_to : List Int32} {v_pileSize : List Int32} {v_planLine : List Int32} {v_planWay : List Int32} {v_way1 : List Int32} {v_bestWay : List Int32} {v_order1 : List Int32} {v_placeIn : List Int32} {v_bodyKind : List Int32} {v_trace : List Int32} {v_shelf : List Int32} {v_many : List Int32} {v_items : List Int64} {v_carried : List Int64} {r : Int32} {w_ran : Int32} {w_trace : List Int32} {N d : Nat} {go : Int32 → Int32 → Int32 → Int32 → Int32 → List Int32 → Option (Int32 × Int32 × List Int32)} {dgo : Nat} (hgo : ∀ (a : Nat → Nat) (x1 : Int32) (x2 : Int32) (v_keptMany : Int32) (v_done : Int32) (v_rowsOf : Int32) (v_columnsOf : Int32) (v_folded : Int32) (v_wronged : Int32) (v_tapeMany : Int32) (v_textMany : Int32) (v_base : Int32) (v_at : Int32) (v_ends : Int32) (v_fault : Int32) (v_opened : Int32) (v_bentMany : Int32) (v_bentWrong : Int32) (v_moreWorn : Int32) (v_planned : Int32) (v_allWrong : Int32) (v_allWorn : Int32) (v_z : Int32) (v_wishedField : Int32) (v_isFound : Bool) (v_bestWrong : Int32) (v_bestWorn : Int32) (v_bestMany : Int32) (v_soughtBy : Int32) (v_sought : Int32) (v_soughtAt : Int32) (v_foundMany : Int32) (v_foundOrder : Int32) (v_isKept : Bool) (v_imageRows : Int32) (v_imageColumns : Int32) (v_imageFolded : Int32) (v_imageWronged : Int32) (v_bodies : Int32) (v_ran : Int32) (v_ownKind : Int32) (v_ownNumber : Int32) (v_limit : List Int32) (v_changeWas : List Int32) (v_changeIs : List Int32) (v_shapeRows : List Int32) (v_shapeColumns : List Int32) (v_row : List Int32) (v_column : List Int32) (v_below : List Int32) (v_face : List Int32) (v_worn : List Int32) (v_lastBend : List Int32) (v_tape : List Int32) (v_text : List Int32) (v_names : List Int32) (v_bends : List Int32) (v_high : List Int32) (v_to : List Int32) (v_pileSize : List Int32) (v_planLine : List Int32) (v_planWay : List Int32) (v_way1 : List Int32) (v_bestWay : List Int32) (v_order1 : List Int32) (v_placeIn : List Int32) (v_bodyKind : List Int32) (v_trace : List Int32) (v_shelf : List Int32) (v_many : List Int32) (v_items : List Int64) (v_carried : List Int64) (r : Int32) (w_ran : Int32) (w_trace : List Int32), go x1 x2 v_ran v_ownKind v_ownNumber v_trace = some (r, w_ran, w_trace) → mm_Ct l yX9_tellsAs cX9_tellsAs 4 (some .int) dgo D (mm_T cI cL cS cH) [.ref (a 0), .int x1, .int x2] (wd_X9 cI cL cS cH a v_keptMany v_done v_rowsOf v_columnsOf v_folded v_wronged v_tapeMany v_textMany v_base v_at v_ends v_fault v_opened v_bentMany v_bentWrong v_moreWorn v_planned v_allWrong v_allWorn v_z v_wishedField v_isFound v_bestWrong v_bestWorn v_bestMany v_soughtBy v_sought v_soughtAt v_foundMany v_foundOrder v_isKept v_imageRows v_imageColumns v_imageFolded v_imageWronged v_bodies v_ran v_ownKind v_ownNumber v_limit v_changeWas v_changeIs v_shapeRows v_shapeColumns v_row v_column v_below v_face v_worn v_lastBend v_tape v_text v_names v_bends v_high v_to v_pileSize v_planLine v_planWay v_way1 v_bestWay v_order1 v_placeIn v_bodyKind v_trace v_shelf v_many v_items v_carried) (wd_X9 cI cL cS cH a v_keptMany v_done v_rowsOf v_columnsOf v_folded v_wronged v_tapeMany v_textMany v_base v_at v_ends v_fault v_opened v_bentMany v_bentWrong v_moreWorn v_planned v_allWrong v_allWorn v_z v_wishedField v_isFound v_bestWrong v_bestWorn v_bestMany v_soughtBy v_sought v_soughtAt v_foundMany v_foundOrder v_isKept v_imageRows v_imageColumns v_imageFolded v_imageWronged v_bodies w_ran v_ownKind v_ownNumber v_limit v_changeWas v_changeIs v_shapeRows v_shapeColumns v_row v_column v_below v_face v_worn v_lastBend v_tape v_text v_names v_bends v_high v_to v_pileSize v_planLine v_planWay v_way1 v_bestWay v_order1 v_placeIn v_bodyKind w_trace v_shelf v_many v_items v_carried) (some (.int r))) (hE : 14 ≤ dgo) (hd : dgo + 1 ≤ d) (hf : fX9_tellsAso N go x1 x2 v_ran v_ownKind v_ownNumber v_trace = some (r, w_ran, w_trace)) : mm_Ct l yX9_tellsAs cX9_tellsAs 4 (some .int) d D (mm_T cI cL cS cH) [.ref (a 0), .int x1, .int x2] (wd_X9 cI cL cS cH a v_keptMany v_done v_rowsOf v_columnsOf v_folded v_wronged v_tapeMany v_textMany v_base v_at v_ends v_fault v_opened v_bentMany v_bentWrong v_moreWorn v_planned v_allWrong v_allWorn v_z v_wishedField v_isFound v_bestWrong v_bestWorn v_bestMany v_soughtBy v_sought v_soughtAt v_foundMany v_foundOrder v_isKept v_imageRows v_imageColumns v_imageFolded v_imageWronged v_bodies v_ran v_ownKind v_ownNumber v_limit v_changeWas v_changeIs v_shapeRows v_shapeColumns v_row v_column v_below v_face v_worn v_lastBend v_tape v_text v_names v_bends v_high v_to v_pileSize v_planLine v_planWay v_way1 v_bestWay v_order1 v_placeIn v_bodyKind v_trace v_shelf v_many v_items v_carried) (wd_X9 cI cL cS cH a v_keptMany v_done v_rowsOf v_columnsOf v_folded v_wronged v_tapeMany v_textMany v_base v_at v_ends v_fault v_opened v_bentMany v_bentWrong v_moreWorn v_planned v_allWrong v_allWorn v_z v_wishedField v_isFound v_bestWrong v_bestWorn v_bestMany v_soughtBy v_sought v_soughtAt v_foundMany v_foundOrder v_isKept v_imageRows v_imageColumns v_imageFolded v_imageWronged v_bodies w_ran v_ownKind v_ownNumber v_limit v_changeWas v_changeIs v_shapeRows v_shapeColumns v_row v_column v_below v_face v_worn v_lastBend v_tape v_text v_names v_bends v_high v_to v_pileSize v_planLine v_planWay v_way1 v_bestWay v_order1 v_placeIn v_bodyKind w_trace v_shelf v_many v_items v_carried) (some (.int r)) := by
  refine mm_of (by decide) (Nat.le_of_ble_eq_true rfl) ?_
  intro p e s m args below meth c A H locs ls C0 hP hD hA hS hl
  have C0 : mm_Cx p s m args meth c RX9 cX9_tellsAs 4 (some .int) D (mm_T cI cL cS cH) A := C0
  obtain ⟨hx, hb, hml, hown, hts, hr, hlocks, hK, hSt⟩ := id C0
  have hl : lv_has ls 4 [(0, .ref (a 0)), (1, .int x1), (2, .int x2)] := hl
  unfold fX9_tellsAso at hf
  refine lv_iload_n hx hb dX9_tellsAs_0 rfl (lv_at hl 1 rfl) ?_
  refine lv_iconst (v := 5) hx hb dX9_tellsAs_1 (by decide) ?_
  refine lv_icmp_ne (tgt := 20) hx hb dX9_tellsAs_2 (by decide) (fun c_1 => ?_) (fun c_1 => ?_)
  · have hf := mm_in hf c_1
    refine lv_iload_n hx hb dX9_tellsAs_20 rfl (lv_at hl 1 rfl) ?_
    refine lv_bipush (v := 7) hx hb dX9_tellsAs_21 (by decide) ?_
    refine lv_icmp_ne (tgt := 41) hx hb dX9_tellsAs_23 (by decide) (fun c_2 => ?_) (fun c_2 => ?_)
    · have hf := mm_in hf c_2
      refine lv_aload_n hx hb dX9_tellsAs_41 rfl (lv_at hl 0 rfl) ?_
      refine lv_iconst (v := 2) hx hb dX9_tellsAs_42 (by decide) ?_
      obtain ⟨w_3, w_4, hc_5, hf⟩ := mm_bd2s hf
      refine mm_callVF (q0 := 0) (ci := 9) (rest := []) C0 lk_X9_401 (ctX9_begins (a := a) (d := d - 1) (by omega) hc_5) (by omega) rfl hl.1 rfl (mm_cat rfl) dX9_tellsAs_43 hP hD hA hS rfl rfl (fun H locs hP hD hS => ?_)
      refine W.eq (g2 := F0 m 46 ls []) rfl ?_
      refine lv_aload_n hx hb dX9_tellsAs_46 rfl (lv_at hl 0 rfl) ?_
      refine lv_aload_n hx hb dX9_tellsAs_47 rfl (lv_at hl 0 rfl) ?_
      refine mm_get C0 hP iw_X9 0 rfl rfl 63 (by decide) fl_X9_413 rfl dX9_tellsAs_48 ?_
      refine lv_iload_n hx hb dX9_tellsAs_51 rfl (lv_at hl 2 rfl) ?_
      obtain ⟨r_6, w_7, w_8, hc_9, hf⟩ := mm_bd3s hf
      refine mm_callVF (q0 := 0) (ci := 9) (rest := []) C0 lk_X9_410 (ctX9_laysAs (N := N) 5 (d - 1) (by omega) a _ _ _ _ _ _ _ _ _ _ _ _ _ _ _ _ _ _ _ _ _ _ _ _ _ _ _ _ _ _ _ _ _ _ _ _ _ _ _ _ _ _ _ _ _ _ _ _ _ _ _ _ _ _ _ _ _ _ _ _ _ _ _ _ _ _ _ _ _ _ _ _ _ _ hc_9) (by omega) rfl hl.1 rfl (mm_cat rfl) dX9_tellsAs_52 hP hD hA hS rfl rfl (fun H locs hP hD hS => ?_)
      refine W.eq (g2 := F0 m 55 ls [.int r_6]) rfl ?_
      refine lv_istore_n (lv' := [(3, .int r_6), (0, .ref (a 0)), (1, .int x1), (2, .int x2)]) hx hb dX9_tellsAs_55 rfl hl (by decide) rfl (fun ls hl => ?_)
      refine lv_iload_n hx hb dX9_tellsAs_56 rfl (lv_at hl 0 rfl) ?_
      refine lv_aload_n hx hb dX9_tellsAs_57 rfl (lv_at hl 1 rfl) ?_
      refine lv_aload_n hx hb dX9_tellsAs_58 rfl (lv_at hl 1 rfl) ?_
      refine mm_get C0 hP iw_X9 0 rfl rfl 63 (by decide) fl_X9_413 rfl dX9_tellsAs_59 ?_
      refine lv_iconst (v := 1) hx hb dX9_tellsAs_62 (by decide) ?_
      obtain ⟨r_10, w_11, w_12, hc_13, hf⟩ := mm_bd3s hf
      refine mm_callVF (q0 := 0) (ci := 9) (rest := [.int r_6]) C0 lk_X9_416 (ctX9_wearsAs (N := N) 4 (d - 1) (by omega) a _ _ _ _ _ _ _ _ _ _ _ _ _ _ _ _ _ _ _ _ _ _ _ _ _ _ _ _ _ _ _ _ _ _ _ _ _ _ _ _ _ _ _ _ _ _ _ _ _ _ _ _ _ _ _ _ _ _ _ _ _ _ _ _ _ _ _ _ _ _ _ _ _ _ hc_13) (by omega) rfl hl.1 rfl (mm_cat rfl) dX9_tellsAs_63 hP hD hA hS rfl rfl (fun H locs hP hD hS => ?_)
      refine W.eq (g2 := F0 m 66 ls [.int r_10, .int r_6]) rfl ?_
      refine lv_isub hx hb dX9_tellsAs_66 ?_
      apply mm_sub3 hf
      exact mm_iret C0 hP hD hS dX9_tellsAs_67
    · have hf := mm_ip hf c_2
      refine lv_aload_n hx hb dX9_tellsAs_26 rfl (lv_at hl 0 rfl) ?_
      refine lv_bipush (v := 81) hx hb dX9_tellsAs_27 (by decide) ?_
      obtain ⟨w_14, w_15, hc_16, hf⟩ := mm_bd2s hf
      refine mm_callVF (q0 := 0) (ci := 9) (rest := []) C0 lk_X9_401 (ctX9_begins (a := a) (d := d - 1) (by omega) hc_16) (by omega) rfl hl.1 rfl (mm_cat rfl) dX9_tellsAs_29 hP hD hA hS rfl rfl (fun H locs hP hD hS => ?_)
      refine W.eq (g2 := F0 m 32 ls []) rfl ?_
      refine lv_aload_n hx hb dX9_tellsAs_32 rfl (lv_at hl 0 rfl) ?_
      refine lv_iconst (v := 4) hx hb dX9_tellsAs_33 (by decide) ?_
      refine lv_iload_n hx hb dX9_tellsAs_34 rfl (lv_at hl 2 rfl) ?_
      obtain ⟨r_17, w_18, w_19, hc_20, hf⟩ := mm_bd3s hf
      refine mm_callVF (q0 := 0) (ci := 9) (rest := []) C0 lk_X9_419 (hgo a _ _ _ _ _ _ _ _ _ _ _ _ _ _ _ _ _ _ _ _ _ _ _ _ _ _ _ _ _ _ _ _ _ _ _ _ _ _ _ _ _ _ _ _ _ _ _ _ _ _ _ _ _ _ _ _ _ _ _ _ _ _ _ _ _ _ _ _ _ _ _ _ _ _ hc_20) (by omega) rfl hl.1 rfl (mm_cat rfl) dX9_tellsAs_35 hP hD hA hS rfl rfl (fun H locs hP hD hS => ?_)
      refine W.eq (g2 := F0 m 38 ls [.int r_17]) rfl ?_
      refine lv_iconst (v := 1) hx hb dX9_tellsAs_38 (by decide) ?_
      refine lv_isub hx hb dX9_tellsAs_39 ?_
      apply mm_sub3 hf
      exact mm_iret C0 hP hD hS dX9_tellsAs_40
  · have hf := mm_ip hf c_1
    refine lv_aload_n hx hb dX9_tellsAs_5 rfl (lv_at hl 0 rfl) ?_
    refine lv_bipush (v := 60) hx hb dX9_tellsAs_6 (by decide) ?_
    obtain ⟨w_21, w_22, hc_23, hf⟩ := mm_bd2s hf
    refine mm_callVF (q0 := 0) (ci := 9) (rest := []) C0 lk_X9_401 (ctX9_begins (a := a) (d := d - 1) (by omega) hc_23) (by omega) rfl hl.1 rfl (mm_cat rfl) dX9_tellsAs_8 hP hD hA hS rfl rfl (fun H locs hP hD hS => ?_)
    refine W.eq (g2 := F0 m 11 ls []) rfl ?_
    refine lv_aload_n hx hb dX9_tellsAs_11 rfl (lv_at hl 0 rfl) ?_
    refine lv_iconst (v := 3) hx hb dX9_tellsAs_12 (by decide) ?_
    refine lv_iload_n hx hb dX9_tellsAs_13 rfl (lv_at hl 2 rfl) ?_
    obtain ⟨r_24, w_25, w_26, hc_27, hf⟩ := mm_bd3s hf
    refine mm_callVF (q0 := 0) (ci := 9) (rest := []) C0 lk_X9_419 (hgo a _ _ _ _ _ _ _ _ _ _ _ _ _ _ _ _ _ _ _ _ _ _ _ _ _ _ _ _ _ _ _ _ _ _ _ _ _ _ _ _ _ _ _ _ _ _ _ _ _ _ _ _ _ _ _ _ _ _ _ _ _ _ _ _ _ _ _ _ _ _ _ _ _ _ hc_27) (by omega) rfl hl.1 rfl (mm_cat rfl) dX9_tellsAs_14 hP hD hA hS rfl rfl (fun H locs hP hD hS => ?_)
    refine W.eq (g2 := F0 m 17 ls [.int r_24]) rfl ?_
    refine lv_iconst (v := 5) hx hb dX9_tellsAs_17 (by decide) ?_
    refine lv_ixor hx hb dX9_tellsAs_18 ?_
    apply mm_sub3 hf
    exact mm_iret C0 hP hD hS dX9_tellsAs_19

def fX9_tellsAs (N : Nat) : Nat → Int32 → Int32 → Int32 → Int32 → Int32 → List Int32 → Option (Int32 × Int32 × List Int32)
  | 0 => fun _ _ _ _ _ _ => none
  | M + 1 => fX9_tellsAso N (fX9_tellsAs N M)
set_option maxHeartbeats 4000000 in
set_option maxRecDepth 100000 in
theorem ctX9_tellsAs {l : Launch} {D : va_G} {cI cL cS cH : ClassId} {N : Nat} : ∀ (M d : Nat), 14 + 1 * M ≤ d → ∀ (a : Nat → Nat) (x1 : Int32) (x2 : Int32) (v_keptMany : Int32) (v_done : Int32) (v_rowsOf : Int32) (v_columnsOf : Int32) (v_folded : Int32) (v_wronged : Int32) (v_tapeMany : Int32) (v_textMany : Int32) (v_base : Int32) (v_at : Int32) (v_ends : Int32) (v_fault : Int32) (v_opened : Int32) (v_bentMany : Int32) (v_bentWrong : Int32) (v_moreWorn : Int32) (v_planned : Int32) (v_allWrong : Int32) (v_allWorn : Int32) (v_z : Int32) (v_wishedField : Int32) (v_isFound : Bool) (v_bestWrong : Int32) (v_bestWorn : Int32) (v_bestMany : Int32) (v_soughtBy : Int32) (v_sought : Int32) (v_soughtAt : Int32) (v_foundMany : Int32) (v_foundOrder : Int32) (v_isKept : Bool) (v_imageRows : Int32) (v_imageColumns : Int32) (v_imageFolded : Int32) (v_imageWronged : Int32) (v_bodies : Int32) (v_ran : Int32) (v_ownKind : Int32) (v_ownNumber : Int32) (v_limit : List Int32) (v_changeWas : List Int32) (v_changeIs : List Int32) (v_shapeRows : List Int32) (v_shapeColumns : List Int32) (v_row : List Int32) (v_column : List Int32) (v_below : List Int32) (v_face : List Int32) (v_worn : List Int32) (v_lastBend : List Int32) (v_tape : List Int32) (v_text : List Int32) (v_names : List Int32) (v_bends : List Int32) (v_high : List Int32) (v_to : List Int32) (v_pileSize : List Int32) (v_planLine : List Int32) (v_planWay : List Int32) (v_way1 : List Int32) (v_bestWay : List Int32) (v_order1 : List Int32) (v_placeIn : List Int32) (v_bodyKind : List Int32) (v_trace : List Int32) (v_shelf : List Int32) (v_many : List Int32) (v_items : List Int64) (v_carried : List Int64) (r : Int32) (w_ran : Int32) (w_trace : List Int32), fX9_tellsAs N M x1 x2 v_ran v_ownKind v_ownNumber v_trace = some (r, w_ran, w_trace) → mm_Ct l yX9_tellsAs cX9_tellsAs 4 (some .int) d D (mm_T cI cL cS cH) [.ref (a 0), .int x1, .int x2] (wd_X9 cI cL cS cH a v_keptMany v_done v_rowsOf v_columnsOf v_folded v_wronged v_tapeMany v_textMany v_base v_at v_ends v_fault v_opened v_bentMany v_bentWrong v_moreWorn v_planned v_allWrong v_allWorn v_z v_wishedField v_isFound v_bestWrong v_bestWorn v_bestMany v_soughtBy v_sought v_soughtAt v_foundMany v_foundOrder v_isKept v_imageRows v_imageColumns v_imageFolded v_imageWronged v_bodies v_ran v_ownKind v_ownNumber v_limit v_changeWas v_changeIs v_shapeRows v_shapeColumns v_row v_column v_below v_face v_worn v_lastBend v_tape v_text v_names v_bends v_high v_to v_pileSize v_planLine v_planWay v_way1 v_bestWay v_order1 v_placeIn v_bodyKind v_trace v_shelf v_many v_items v_carried) (wd_X9 cI cL cS cH a v_keptMany v_done v_rowsOf v_columnsOf v_folded v_wronged v_tapeMany v_textMany v_base v_at v_ends v_fault v_opened v_bentMany v_bentWrong v_moreWorn v_planned v_allWrong v_allWorn v_z v_wishedField v_isFound v_bestWrong v_bestWorn v_bestMany v_soughtBy v_sought v_soughtAt v_foundMany v_foundOrder v_isKept v_imageRows v_imageColumns v_imageFolded v_imageWronged v_bodies w_ran v_ownKind v_ownNumber v_limit v_changeWas v_changeIs v_shapeRows v_shapeColumns v_row v_column v_below v_face v_worn v_lastBend v_tape v_text v_names v_bends v_high v_to v_pileSize v_planLine v_planWay v_way1 v_bestWay v_order1 v_placeIn v_bodyKind w_trace v_shelf v_many v_items v_carried) (some (.int r)) := by
  intro M
  induction M with
  | zero =>
    intro d hd a x1 x2 v_keptMany v_done v_rowsOf v_columnsOf v_folded v_wronged v_tapeMany v_textMany v_base v_at v_ends v_fault v_opened v_bentMany v_bentWrong v_moreWorn v_planned v_allWrong v_allWorn v_z v_wishedField v_isFound v_bestWrong v_bestWorn v_bestMany v_soughtBy v_sought v_soughtAt v_foundMany v_foundOrder v_isKept v_imageRows v_imageColumns v_imageFolded v_imageWronged v_bodies v_ran v_ownKind v_ownNumber v_limit v_changeWas v_changeIs v_shapeRows v_shapeColumns v_row v_column v_below v_face v_worn v_lastBend v_tape v_text v_names v_bends v_high v_to v_pileSize v_planLine v_planWay v_way1 v_bestWay v_order1 v_placeIn v_bodyKind v_trace v_shelf v_many v_items v_carried r w_ran w_trace hf
    cases (show none = some _ from hf)
  | succ M ih =>
    intro d hd a x1 x2 v_keptMany v_done v_rowsOf v_columnsOf v_folded v_wronged v_tapeMany v_textMany v_base v_at v_ends v_fault v_opened v_bentMany v_bentWrong v_moreWorn v_planned v_allWrong v_allWorn v_z v_wishedField v_isFound v_bestWrong v_bestWorn v_bestMany v_soughtBy v_sought v_soughtAt v_foundMany v_foundOrder v_isKept v_imageRows v_imageColumns v_imageFolded v_imageWronged v_bodies v_ran v_ownKind v_ownNumber v_limit v_changeWas v_changeIs v_shapeRows v_shapeColumns v_row v_column v_below v_face v_worn v_lastBend v_tape v_text v_names v_bends v_high v_to v_pileSize v_planLine v_planWay v_way1 v_bestWay v_order1 v_placeIn v_bodyKind v_trace v_shelf v_many v_items v_carried r w_ran w_trace hf
    exact ctX9_tellsAso (N := N) (ih (14 + 1 * M) (Nat.le_refl _)) (Nat.le_add_right _ _) (by omega) hf

theorem dX9_act_0 : decode cX9_act 0 = .ok (.aload_n 0, 1) := by decide +kernel
theorem dX9_act_1 : decode cX9_act 1 = .ok (.iconst 0, 1) := by decide +kernel
theorem dX9_act_2 : decode cX9_act 2 = .ok (.putfield 398, 3) := by decide +kernel
theorem dX9_act_5 : decode cX9_act 5 = .ok (.aload_n 0, 1) := by decide +kernel
theorem dX9_act_6 : decode cX9_act 6 = .ok (.iload_n 1, 1) := by decide +kernel
theorem dX9_act_7 : decode cX9_act 7 = .ok (.invokevirtual 422, 3) := by decide +kernel
theorem dX9_act_10 : decode cX9_act 10 = .ok (.ifCond .ne 5, 3) := by decide +kernel
theorem dX9_act_13 : decode cX9_act 13 = .ok (.iconst 0, 1) := by decide +kernel
theorem dX9_act_14 : decode cX9_act 14 = .ok (.ireturn, 1) := by decide +kernel
theorem dX9_act_15 : decode cX9_act 15 = .ok (.aload_n 0, 1) := by decide +kernel
theorem dX9_act_16 : decode cX9_act 16 = .ok (.aload_n 0, 1) := by decide +kernel
theorem dX9_act_17 : decode cX9_act 17 = .ok (.getfield 82, 3) := by decide +kernel
theorem dX9_act_20 : decode cX9_act 20 = .ok (.iload_n 1, 1) := by decide +kernel
theorem dX9_act_21 : decode cX9_act 21 = .ok (.iaload, 1) := by decide +kernel
theorem dX9_act_22 : decode cX9_act 22 = .ok (.putfield 413, 3) := by decide +kernel
theorem dX9_act_25 : decode cX9_act 25 = .ok (.aload_n 0, 1) := by decide +kernel
theorem dX9_act_26 : decode cX9_act 26 = .ok (.iload_n 1, 1) := by decide +kernel
theorem dX9_act_27 : decode cX9_act 27 = .ok (.putfield 407, 3) := by decide +kernel
theorem dX9_act_30 : decode cX9_act 30 = .ok (.iload_n 2, 1) := by decide +kernel
theorem dX9_act_31 : decode cX9_act 31 = .ok (.tableswitch 69 0 3 #[29, 39, 49, 59], 29) := by decide +kernel
theorem dX9_act_60 : decode cX9_act 60 = .ok (.aload_n 0, 1) := by decide +kernel
theorem dX9_act_61 : decode cX9_act 61 = .ok (.aload_n 0, 1) := by decide +kernel
theorem dX9_act_62 : decode cX9_act 62 = .ok (.getfield 413, 3) := by decide +kernel
theorem dX9_act_65 : decode cX9_act 65 = .ok (.iload_n 3, 1) := by decide +kernel
theorem dX9_act_66 : decode cX9_act 66 = .ok (.invokevirtual 404, 3) := by decide +kernel
theorem dX9_act_69 : decode cX9_act 69 = .ok (.ireturn, 1) := by decide +kernel
theorem dX9_act_70 : decode cX9_act 70 = .ok (.aload_n 0, 1) := by decide +kernel
theorem dX9_act_71 : decode cX9_act 71 = .ok (.aload_n 0, 1) := by decide +kernel
theorem dX9_act_72 : decode cX9_act 72 = .ok (.getfield 413, 3) := by decide +kernel
theorem dX9_act_75 : decode cX9_act 75 = .ok (.iload_n 3, 1) := by decide +kernel
theorem dX9_act_76 : decode cX9_act 76 = .ok (.invokevirtual 410, 3) := by decide +kernel
theorem dX9_act_79 : decode cX9_act 79 = .ok (.ireturn, 1) := by decide +kernel
theorem dX9_act_80 : decode cX9_act 80 = .ok (.aload_n 0, 1) := by decide +kernel
theorem dX9_act_81 : decode cX9_act 81 = .ok (.aload_n 0, 1) := by decide +kernel
theorem dX9_act_82 : decode cX9_act 82 = .ok (.getfield 413, 3) := by decide +kernel
theorem dX9_act_85 : decode cX9_act 85 = .ok (.iload_n 3, 1) := by decide +kernel
theorem dX9_act_86 : decode cX9_act 86 = .ok (.invokevirtual 416, 3) := by decide +kernel
theorem dX9_act_89 : decode cX9_act 89 = .ok (.ireturn, 1) := by decide +kernel
theorem dX9_act_90 : decode cX9_act 90 = .ok (.aload_n 0, 1) := by decide +kernel
theorem dX9_act_91 : decode cX9_act 91 = .ok (.aload_n 0, 1) := by decide +kernel
theorem dX9_act_92 : decode cX9_act 92 = .ok (.getfield 413, 3) := by decide +kernel
theorem dX9_act_95 : decode cX9_act 95 = .ok (.iload_n 3, 1) := by decide +kernel
theorem dX9_act_96 : decode cX9_act 96 = .ok (.invokevirtual 419, 3) := by decide +kernel
theorem dX9_act_99 : decode cX9_act 99 = .ok (.ireturn, 1) := by decide +kernel
theorem dX9_act_100 : decode cX9_act 100 = .ok (.iconst 0, 1) := by decide +kernel
theorem dX9_act_101 : decode cX9_act 101 = .ok (.ireturn, 1) := by decide +kernel
def fX9_act (N : Nat) (x1 : Int32) (x2 : Int32) (x3 : Int32) (v_bodies : Int32) (v_ran : Int32) (v_ownKind : Int32) (v_ownNumber : Int32) (v_bodyKind : List Int32) (v_trace : List Int32) : Option (Int32 × Int32 × Int32 × Int32 × List Int32) :=
    mm_bd1 (fX9_isBody N x1 v_bodies) (fun (r_1 : Bool) =>
    if r_1 = false then
    (some ((0 : Int32), (0 : Int32), v_ownKind, v_ownNumber, v_trace))
    else (mm_ck (mm_inb x1 v_bodyKind.length) (mm_nm ((mm_ig v_bodyKind x1)) (fun (y_5 : Int32) =>
    if x2 = (0 : Int32) then
    (mm_bd3 (fX9_foldsAs N 4 y_5 x3 (0 : Int32) x1 v_trace) (fun (r_7 : Int32) (w_8 : Int32) (w_9 : List Int32) =>
    some (r_7, w_8, y_5, x1, w_9)))
    else (if x2 = (1 : Int32) then
    (mm_bd3 (fX9_laysAs N 5 y_5 x3 (0 : Int32) y_5 x1 v_trace) (fun (r_12 : Int32) (w_13 : Int32) (w_14 : List Int32) =>
    some (r_12, w_13, y_5, x1, w_14)))
    else (if x2 = (2 : Int32) then
    (mm_bd3 (fX9_wearsAs N 4 y_5 x3 (0 : Int32) y_5 x1 v_trace) (fun (r_17 : Int32) (w_18 : Int32) (w_19 : List Int32) =>
    some (r_17, w_18, y_5, x1, w_19)))
    else (if x2 = (3 : Int32) then
    (mm_bd3 (fX9_tellsAs N 4 y_5 x3 (0 : Int32) y_5 x1 v_trace) (fun (r_22 : Int32) (w_23 : Int32) (w_24 : List Int32) =>
    some (r_22, w_23, y_5, x1, w_24)))
    else (some ((0 : Int32), (0 : Int32), y_5, x1, v_trace)))))))))

set_option maxHeartbeats 4000000 in
set_option maxRecDepth 100000 in
theorem ctX9_act {l : Launch} {D : va_G} {cI cL cS cH : ClassId} {a : Nat → Nat} {x1 : Int32} {x2 : Int32} {x3 : Int32} {v_keptMany : Int32} {v_done : Int32} {v_rowsOf : Int32} {v_columnsOf : Int32} {v_folded : Int32} {v_wronged : Int32} {v_tapeMany : Int32} {v_textMany : Int32} {v_base : Int32} {v_at : Int32} {v_ends : Int32} {v_fault : Int32} {v_opened : Int32} {v_bentMany : Int32} {v_bentWrong : Int32} {v_moreWorn : Int32} {v_planned : Int32} {v_allWrong : Int32} {v_allWorn : Int32} {v_z : Int32} {v_wishedField : Int32} {v_isFound : Bool} {v_bestWrong : Int32} {v_bestWorn : Int32} {v_bestMany : Int32} {v_soughtBy : Int32} {v_sought : Int32} {v_soughtAt : Int32} {v_foundMany : Int32} {v_foundOrder : Int32} {v_isKept : Bool} {v_imageRows : Int32} {v_imageColumns : Int32} {v_imageFolded : Int32} {v_imageWronged : Int32} {v_bodies : Int32} {v_ran : Int32} {v_ownKind : Int32} {v_ownNumber : Int32} {v_limit : List Int32} {v_changeWas : List Int32} {v_changeIs : List Int32} {v_shapeRows : List Int32} {v_shapeColumns : List Int32} {v_row : List Int32} {v_column : List Int32} {v_below : List Int32} {v_face : List Int32} {v_worn : List Int32} {v_lastBend : List Int32} {v_tape : List Int32} {v_text : List Int32} {v_names : List Int32} {v_bends : List Int32} {v_high : List Int32} {v_to : List Int32} {v_pileSize : List Int32} {v_planLine : List Int32} {v_planWay : List Int32} {v_way1 : List Int32} {v_bestWay : List Int32} {v_order1 : List Int32} {v_placeIn : List Int32} {v_bodyKind : List Int32} {v_trace : List Int32} {v_shelf : List Int32} {v_many : List Int32} {v_items : List Int64} {v_carried : List Int64} {r : Int32} {w_ran : Int32} {w_ownKind : Int32} {w_ownNumber : Int32} {w_trace : List Int32} {N d : Nat} (hd : 19 ≤ d) (hf : fX9_act N x1 x2 x3 v_bodies v_ran v_ownKind v_ownNumber v_bodyKind v_trace = some (r, w_ran, w_ownKind, w_ownNumber, w_trace)) : mm_Ct l yX9_act cX9_act 4 (some .int) d D (mm_T cI cL cS cH) [.ref (a 0), .int x1, .int x2, .int x3] (wd_X9 cI cL cS cH a v_keptMany v_done v_rowsOf v_columnsOf v_folded v_wronged v_tapeMany v_textMany v_base v_at v_ends v_fault v_opened v_bentMany v_bentWrong v_moreWorn v_planned v_allWrong v_allWorn v_z v_wishedField v_isFound v_bestWrong v_bestWorn v_bestMany v_soughtBy v_sought v_soughtAt v_foundMany v_foundOrder v_isKept v_imageRows v_imageColumns v_imageFolded v_imageWronged v_bodies v_ran v_ownKind v_ownNumber v_limit v_changeWas v_changeIs v_shapeRows v_shapeColumns v_row v_column v_below v_face v_worn v_lastBend v_tape v_text v_names v_bends v_high v_to v_pileSize v_planLine v_planWay v_way1 v_bestWay v_order1 v_placeIn v_bodyKind v_trace v_shelf v_many v_items v_carried) (wd_X9 cI cL cS cH a v_keptMany v_done v_rowsOf v_columnsOf v_folded v_wronged v_tapeMany v_textMany v_base v_at v_ends v_fault v_opened v_bentMany v_bentWrong v_moreWorn v_planned v_allWrong v_allWorn v_z v_wishedField v_isFound v_bestWrong v_bestWorn v_bestMany v_soughtBy v_sought v_soughtAt v_foundMany v_foundOrder v_isKept v_imageRows v_imageColumns v_imageFolded v_imageWronged v_bodies w_ran w_ownKind w_ownNumber v_limit v_changeWas v_changeIs v_shapeRows v_shapeColumns v_row v_column v_below v_face v_worn v_lastBend v_tape v_text v_names v_bends v_high v_to v_pileSize v_planLine v_planWay v_way1 v_bestWay v_order1 v_placeIn v_bodyKind w_trace v_shelf v_many v_items v_carried) (some (.int r)) := by
  refine mm_of (by decide) (Nat.le_of_ble_eq_true rfl) ?_
  intro p e s m args below meth c A H locs ls C0 hP hD hA hS hl
  have C0 : mm_Cx p s m args meth c RX9 cX9_act 4 (some .int) D (mm_T cI cL cS cH) A := C0
  obtain ⟨hx, hb, hml, hown, hts, hr, hlocks, hK, hSt⟩ := id C0
  have hl : lv_has ls 4 [(0, .ref (a 0)), (1, .int x1), (2, .int x2), (3, .int x3)] := hl
  unfold fX9_act at hf
  refine lv_aload_n hx hb dX9_act_0 rfl (lv_at hl 0 rfl) ?_
  refine lv_iconst (v := 0) hx hb dX9_act_1 (by decide) ?_
  refine mm_put C0 hP hD hS iw_X9 tyX9 tyX9_ok nmX9 0 rfl rfl 62 (by decide) fl_X9_398 rfl rfl rfl (Nat.le_of_ble_eq_true rfl) dX9_act_2 (w2 := (wd_X9 cI cL cS cH a v_keptMany v_done v_rowsOf v_columnsOf v_folded v_wronged v_tapeMany v_textMany v_base v_at v_ends v_fault v_opened v_bentMany v_bentWrong v_moreWorn v_planned v_allWrong v_allWorn v_z v_wishedField v_isFound v_bestWrong v_bestWorn v_bestMany v_soughtBy v_sought v_soughtAt v_foundMany v_foundOrder v_isKept v_imageRows v_imageColumns v_imageFolded v_imageWronged v_bodies (0 : Int32) v_ownKind v_ownNumber v_limit v_changeWas v_changeIs v_shapeRows v_shapeColumns v_row v_column v_below v_face v_worn v_lastBend v_tape v_text v_names v_bends v_high v_to v_pileSize v_planLine v_planWay v_way1 v_bestWay v_order1 v_placeIn v_bodyKind v_trace v_shelf v_many v_items v_carried)) rfl (fun H locs hP hD hS => ?_)
  refine lv_aload_n hx hb dX9_act_5 rfl (lv_at hl 0 rfl) ?_
  refine lv_iload_n hx hb dX9_act_6 rfl (lv_at hl 1 rfl) ?_
  obtain ⟨r_1, hc_2, hf⟩ := mm_bd1s hf
  refine mm_callVF (q0 := 0) (ci := 9) (rest := []) C0 lk_X9_422 (ctX9_isBody (a := a) (d := d - 1) (by omega) hc_2) (by omega) rfl hl.1 rfl (mm_cat rfl) dX9_act_7 hP hD hA hS rfl rfl (fun H locs hP hD hS => ?_)
  refine W.eq (g2 := F0 m 10 ls [.int (mm_b r_1)]) rfl ?_
  refine lv_if_ne (tgt := 15) hx hb dX9_act_10 (by decide) (fun c_3 => ?_) (fun c_3 => ?_)
  · have hf := mm_in hf (mm_b1 c_3)
    refine lv_aload_n hx hb dX9_act_15 rfl (lv_at hl 0 rfl) ?_
    refine lv_aload_n hx hb dX9_act_16 rfl (lv_at hl 0 rfl) ?_
    refine mm_get C0 hP iw_X9 0 rfl rfl 60 (by decide) fl_X9_82 rfl dX9_act_17 ?_
    refine lv_iload_n hx hb dX9_act_20 rfl (lv_at hl 1 rfl) ?_
    obtain ⟨h_4, hf⟩ := mm_cks hf
    refine mm_iald C0 hP 25 rfl h_4 dX9_act_21 ?_
    refine lv_topi (fun y_5 ey_5 => ?_)
    have hf := mm_nms hf ey_5
    refine mm_put C0 hP hD hS iw_X9 tyX9 tyX9_ok nmX9 0 rfl rfl 63 (by decide) fl_X9_413 rfl rfl rfl (Nat.le_of_ble_eq_true rfl) dX9_act_22 (w2 := (wd_X9 cI cL cS cH a v_keptMany v_done v_rowsOf v_columnsOf v_folded v_wronged v_tapeMany v_textMany v_base v_at v_ends v_fault v_opened v_bentMany v_bentWrong v_moreWorn v_planned v_allWrong v_allWorn v_z v_wishedField v_isFound v_bestWrong v_bestWorn v_bestMany v_soughtBy v_sought v_soughtAt v_foundMany v_foundOrder v_isKept v_imageRows v_imageColumns v_imageFolded v_imageWronged v_bodies (0 : Int32) y_5 v_ownNumber v_limit v_changeWas v_changeIs v_shapeRows v_shapeColumns v_row v_column v_below v_face v_worn v_lastBend v_tape v_text v_names v_bends v_high v_to v_pileSize v_planLine v_planWay v_way1 v_bestWay v_order1 v_placeIn v_bodyKind v_trace v_shelf v_many v_items v_carried)) rfl (fun H locs hP hD hS => ?_)
    refine lv_aload_n hx hb dX9_act_25 rfl (lv_at hl 0 rfl) ?_
    refine lv_iload_n hx hb dX9_act_26 rfl (lv_at hl 1 rfl) ?_
    refine mm_put C0 hP hD hS iw_X9 tyX9 tyX9_ok nmX9 0 rfl rfl 64 (by decide) fl_X9_407 rfl rfl rfl (Nat.le_of_ble_eq_true rfl) dX9_act_27 (w2 := (wd_X9 cI cL cS cH a v_keptMany v_done v_rowsOf v_columnsOf v_folded v_wronged v_tapeMany v_textMany v_base v_at v_ends v_fault v_opened v_bentMany v_bentWrong v_moreWorn v_planned v_allWrong v_allWorn v_z v_wishedField v_isFound v_bestWrong v_bestWorn v_bestMany v_soughtBy v_sought v_soughtAt v_foundMany v_foundOrder v_isKept v_imageRows v_imageColumns v_imageFolded v_imageWronged v_bodies (0 : Int32) y_5 x1 v_limit v_changeWas v_changeIs v_shapeRows v_shapeColumns v_row v_column v_below v_face v_worn v_lastBend v_tape v_text v_names v_bends v_high v_to v_pileSize v_planLine v_planWay v_way1 v_bestWay v_order1 v_placeIn v_bodyKind v_trace v_shelf v_many v_items v_carried)) rfl (fun H locs hP hD hS => ?_)
    refine lv_iload_n hx hb dX9_act_30 rfl (lv_at hl 2 rfl) ?_
    by_cases c_6 : x2 = (0 : Int32)
    · have hf := mm_ip hf c_6
      refine lv_tableIn (off := 29) (tgt := 60) hx hb dX9_act_31 (by rw [c_6]; decide) (by rw [c_6]; decide) (by rw [c_6]; first | done | rfl) (by decide) ?_
      refine lv_aload_n hx hb dX9_act_60 rfl (lv_at hl 0 rfl) ?_
      refine lv_aload_n hx hb dX9_act_61 rfl (lv_at hl 0 rfl) ?_
      refine mm_get C0 hP iw_X9 0 rfl rfl 63 (by decide) fl_X9_413 rfl dX9_act_62 ?_
      refine lv_iload_n hx hb dX9_act_65 rfl (lv_at hl 3 rfl) ?_
      obtain ⟨r_7, w_8, w_9, hc_10, hf⟩ := mm_bd3s hf
      refine mm_callVF (q0 := 0) (ci := 9) (rest := []) C0 lk_X9_404 (ctX9_foldsAs (N := N) 4 (d - 1) (by omega) a _ _ _ _ _ _ _ _ _ _ _ _ _ _ _ _ _ _ _ _ _ _ _ _ _ _ _ _ _ _ _ _ _ _ _ _ _ _ _ _ _ _ _ _ _ _ _ _ _ _ _ _ _ _ _ _ _ _ _ _ _ _ _ _ _ _ _ _ _ _ _ _ _ _ hc_10) (by omega) rfl hl.1 rfl (mm_cat rfl) dX9_act_66 hP hD hA hS rfl rfl (fun H locs hP hD hS => ?_)
      refine W.eq (g2 := F0 m 69 ls [.int r_7]) rfl ?_
      apply mm_sub5 hf
      exact mm_iret C0 hP hD hS dX9_act_69
    · have hf := mm_in hf c_6
      by_cases c_11 : x2 = (1 : Int32)
      · have hf := mm_ip hf c_11
        refine lv_tableIn (off := 39) (tgt := 70) hx hb dX9_act_31 (by rw [c_11]; decide) (by rw [c_11]; decide) (by rw [c_11]; first | done | rfl) (by decide) ?_
        refine lv_aload_n hx hb dX9_act_70 rfl (lv_at hl 0 rfl) ?_
        refine lv_aload_n hx hb dX9_act_71 rfl (lv_at hl 0 rfl) ?_
        refine mm_get C0 hP iw_X9 0 rfl rfl 63 (by decide) fl_X9_413 rfl dX9_act_72 ?_
        refine lv_iload_n hx hb dX9_act_75 rfl (lv_at hl 3 rfl) ?_
        obtain ⟨r_12, w_13, w_14, hc_15, hf⟩ := mm_bd3s hf
        refine mm_callVF (q0 := 0) (ci := 9) (rest := []) C0 lk_X9_410 (ctX9_laysAs (N := N) 5 (d - 1) (by omega) a _ _ _ _ _ _ _ _ _ _ _ _ _ _ _ _ _ _ _ _ _ _ _ _ _ _ _ _ _ _ _ _ _ _ _ _ _ _ _ _ _ _ _ _ _ _ _ _ _ _ _ _ _ _ _ _ _ _ _ _ _ _ _ _ _ _ _ _ _ _ _ _ _ _ hc_15) (by omega) rfl hl.1 rfl (mm_cat rfl) dX9_act_76 hP hD hA hS rfl rfl (fun H locs hP hD hS => ?_)
        refine W.eq (g2 := F0 m 79 ls [.int r_12]) rfl ?_
        apply mm_sub5 hf
        exact mm_iret C0 hP hD hS dX9_act_79
      · have hf := mm_in hf c_11
        by_cases c_16 : x2 = (2 : Int32)
        · have hf := mm_ip hf c_16
          refine lv_tableIn (off := 49) (tgt := 80) hx hb dX9_act_31 (by rw [c_16]; decide) (by rw [c_16]; decide) (by rw [c_16]; first | done | rfl) (by decide) ?_
          refine lv_aload_n hx hb dX9_act_80 rfl (lv_at hl 0 rfl) ?_
          refine lv_aload_n hx hb dX9_act_81 rfl (lv_at hl 0 rfl) ?_
          refine mm_get C0 hP iw_X9 0 rfl rfl 63 (by decide) fl_X9_413 rfl dX9_act_82 ?_
          refine lv_iload_n hx hb dX9_act_85 rfl (lv_at hl 3 rfl) ?_
          obtain ⟨r_17, w_18, w_19, hc_20, hf⟩ := mm_bd3s hf
          refine mm_callVF (q0 := 0) (ci := 9) (rest := []) C0 lk_X9_416 (ctX9_wearsAs (N := N) 4 (d - 1) (by omega) a _ _ _ _ _ _ _ _ _ _ _ _ _ _ _ _ _ _ _ _ _ _ _ _ _ _ _ _ _ _ _ _ _ _ _ _ _ _ _ _ _ _ _ _ _ _ _ _ _ _ _ _ _ _ _ _ _ _ _ _ _ _ _ _ _ _ _ _ _ _ _ _ _ _ hc_20) (by omega) rfl hl.1 rfl (mm_cat rfl) dX9_act_86 hP hD hA hS rfl rfl (fun H locs hP hD hS => ?_)
          refine W.eq (g2 := F0 m 89 ls [.int r_17]) rfl ?_
          apply mm_sub5 hf
          exact mm_iret C0 hP hD hS dX9_act_89
        · have hf := mm_in hf c_16
          by_cases c_21 : x2 = (3 : Int32)
          · have hf := mm_ip hf c_21
            refine lv_tableIn (off := 59) (tgt := 90) hx hb dX9_act_31 (by rw [c_21]; decide) (by rw [c_21]; decide) (by rw [c_21]; first | done | rfl) (by decide) ?_
            refine lv_aload_n hx hb dX9_act_90 rfl (lv_at hl 0 rfl) ?_
            refine lv_aload_n hx hb dX9_act_91 rfl (lv_at hl 0 rfl) ?_
            refine mm_get C0 hP iw_X9 0 rfl rfl 63 (by decide) fl_X9_413 rfl dX9_act_92 ?_
            refine lv_iload_n hx hb dX9_act_95 rfl (lv_at hl 3 rfl) ?_
            obtain ⟨r_22, w_23, w_24, hc_25, hf⟩ := mm_bd3s hf
            refine mm_callVF (q0 := 0) (ci := 9) (rest := []) C0 lk_X9_419 (ctX9_tellsAs (N := N) 4 (d - 1) (by omega) a _ _ _ _ _ _ _ _ _ _ _ _ _ _ _ _ _ _ _ _ _ _ _ _ _ _ _ _ _ _ _ _ _ _ _ _ _ _ _ _ _ _ _ _ _ _ _ _ _ _ _ _ _ _ _ _ _ _ _ _ _ _ _ _ _ _ _ _ _ _ _ _ _ _ hc_25) (by omega) rfl hl.1 rfl (mm_cat rfl) dX9_act_96 hP hD hA hS rfl rfl (fun H locs hP hD hS => ?_)
            refine W.eq (g2 := F0 m 99 ls [.int r_22]) rfl ?_
            apply mm_sub5 hf
            exact mm_iret C0 hP hD hS dX9_act_99
          · have hf := mm_in hf c_21
            refine lv_tableOut (tgt := 100) hx hb dX9_act_31 (by have nc_6 := lv_neT c_6 (a := 0) (by decide); have nc_11 := lv_neT c_11 (a := 1) (by decide); have nc_16 := lv_neT c_16 (a := 2) (by decide); have nc_21 := lv_neT c_21 (a := 3) (by decide); omega) (by decide) ?_
            refine lv_iconst (v := 0) hx hb dX9_act_100 (by decide) ?_
            apply mm_sub5 hf
            exact mm_iret C0 hP hD hS dX9_act_101
  · have hf := mm_ip hf (mm_b0 c_3)
    refine lv_iconst (v := 0) hx hb dX9_act_13 (by decide) ?_
    apply mm_sub5 hf
    exact mm_iret C0 hP hD hS dX9_act_14

