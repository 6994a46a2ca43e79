/-! reference: X9_trace, X9_keep, X9_row, X9_refusal, X9_asSort, X9_put, X9_element, X9_shift -/
theorem dX9_trace_0 : decode cX9_trace 0 = .ok (.iload_n 1, 1) := by decide +kernel
theorem dX9_trace_1 : decode cX9_trace 1 = .ok (.ifCond .lt 26, 3) := by decide +kernel
theorem dX9_trace_4 : decode cX9_trace 4 = .ok (.iload_n 1, 1) := by decide +kernel
theorem dX9_trace_5 : decode cX9_trace 5 = .ok (.aload_n 0, 1) := by decide +kernel
theorem dX9_trace_6 : decode cX9_trace 6 = .ok (.getfield 398, 3) := by decide +kernel
theorem dX9_trace_9 : decode cX9_trace 9 = .ok (.if_icmp .ge 18, 3) := by decide +kernel
theorem dX9_trace_12 : decode cX9_trace 12 = .ok (.iload_n 1, 1) := by decide +kernel
theorem dX9_trace_13 : decode cX9_trace 13 = .ok (.bipush 24, 2) := by decide +kernel
theorem dX9_trace_15 : decode cX9_trace 15 = .ok (.if_icmp .ge 12, 3) := by decide +kernel
theorem dX9_trace_18 : decode cX9_trace 18 = .ok (.aload_n 0, 1) := by decide +kernel
theorem dX9_trace_19 : decode cX9_trace 19 = .ok (.getfield 85, 3) := by decide +kernel
theorem dX9_trace_22 : decode cX9_trace 22 = .ok (.iload_n 1, 1) := by decide +kernel
theorem dX9_trace_23 : decode cX9_trace 23 = .ok (.iaload, 1) := by decide +kernel
theorem dX9_trace_24 : decode cX9_trace 24 = .ok (.goto 4, 3) := by decide +kernel
theorem dX9_trace_27 : decode cX9_trace 27 = .ok (.iconst (-1), 1) := by decide +kernel
theorem dX9_trace_28 : decode cX9_trace 28 = .ok (.ireturn, 1) := by decide +kernel
def fX9_trace (N : Nat) (x1 : Int32) (v_ran : Int32) (v_trace : List Int32) : Option (Int32) :=
    if x1 < 0 then
    (some ((-1 : Int32)))
    else (if v_ran ≤ x1 then
    (some ((-1 : Int32)))
    else (if (24 : Int32) ≤ x1 then
    (some ((-1 : Int32)))
    else (mm_ck (mm_inb x1 v_trace.length) (some ((mm_ig v_trace x1))))))

set_option maxHeartbeats 4000000 in
set_option maxRecDepth 100000 in
theorem ctX9_trace {l : Launch} {D : va_G} {cI cL cS cH : ClassId} {a : Nat → Nat} {x1 : Int32} {v_keptMany : Int32} {v_done : Int32} {v_rowsOf : Int32} {v_columnsOf : Int32} {v_folded : Int32} {v_wronged : Int32} {v_tapeMany : Int32} {v_textMany : Int32} {v_base : Int32} {v_at : Int32} {v_ends : Int32} {v_fault : Int32} {v_opened : Int32} {v_bentMany : Int32} {v_bentWrong : Int32} {v_moreWorn : Int32} {v_planned : Int32} {v_allWrong : Int32} {v_allWorn : Int32} {v_z : Int32} {v_wishedField : Int32} {v_isFound : Bool} {v_bestWrong : Int32} {v_bestWorn : Int32} {v_bestMany : Int32} {v_soughtBy : Int32} {v_sought : Int32} {v_soughtAt : Int32} {v_foundMany : Int32} {v_foundOrder : Int32} {v_isKept : Bool} {v_imageRows : Int32} {v_imageColumns : Int32} {v_imageFolded : Int32} {v_imageWronged : Int32} {v_bodies : Int32} {v_ran : Int32} {v_ownKind : Int32} {v_ownNumber : Int32} {v_limit : List Int32} {v_changeWas : List Int32} {v_changeIs : List Int32} {v_shapeRows : List Int32} {v_shapeColumns : List Int32} {v_row : List Int32} {v_column : List Int32} {v_below : List Int32} {v_face : List Int32} {v_worn : List Int32} {v_lastBend : List Int32} {v_tape : List Int32} {v_text : List Int32} {v_names : List Int32} {v_bends : List Int32} {v_high : List Int32} {v_to : List Int32} {v_pileSize : List Int32} {v_planLine : List Int32} {v_planWay : List Int32} {v_way1 : List Int32} {v_bestWay : List Int32} {v_order1 : List Int32} {v_placeIn : List Int32} {v_bodyKind : List Int32} {v_trace : List Int32} {v_shelf : List Int32} {v_many : List Int32} {v_items : List Int64} {v_carried : List Int64} {r : Int32} {N d : Nat} (hd : 1 ≤ d) (hf : fX9_trace N x1 v_ran v_trace = some r) : mm_Ct l yX9_trace cX9_trace 2 (some .int) d D (mm_T cI cL cS cH) [.ref (a 0), .int x1] (wd_X9 cI cL cS cH a v_keptMany v_done v_rowsOf v_columnsOf v_folded v_wronged v_tapeMany v_textMany v_base v_at v_ends v_fault v_opened v_bentMany v_bentWrong v_moreWorn v_planned v_allWrong v_allWorn v_z v_wishedField v_isFound v_bestWrong v_bestWorn v_bestMany v_soughtBy v_sought v_soughtAt v_foundMany v_foundOrder v_isKept v_imageRows v_imageColumns v_imageFolded v_imageWronged v_bodies v_ran v_ownKind v_ownNumber v_limit v_changeWas v_changeIs v_shapeRows v_shapeColumns v_row v_column v_below v_face v_worn v_lastBend v_tape v_text v_names v_bends v_high v_to v_pileSize v_planLine v_planWay v_way1 v_bestWay v_order1 v_placeIn v_bodyKind v_trace v_shelf v_many v_items v_carried) (wd_X9 cI cL cS cH a v_keptMany v_done v_rowsOf v_columnsOf v_folded v_wronged v_tapeMany v_textMany v_base v_at v_ends v_fault v_opened v_bentMany v_bentWrong v_moreWorn v_planned v_allWrong v_allWorn v_z v_wishedField v_isFound v_bestWrong v_bestWorn v_bestMany v_soughtBy v_sought v_soughtAt v_foundMany v_foundOrder v_isKept v_imageRows v_imageColumns v_imageFolded v_imageWronged v_bodies v_ran v_ownKind v_ownNumber v_limit v_changeWas v_changeIs v_shapeRows v_shapeColumns v_row v_column v_below v_face v_worn v_lastBend v_tape v_text v_names v_bends v_high v_to v_pileSize v_planLine v_planWay v_way1 v_bestWay v_order1 v_placeIn v_bodyKind v_trace v_shelf v_many v_items v_carried) (some (.int r)) := by
  refine mm_of (by decide) (Nat.le_of_ble_eq_true rfl) ?_
  intro p e s m args below meth c A H locs ls C0 hP hD hA hS hl
  have C0 : mm_Cx p s m args meth c RX9 cX9_trace 2 (some .int) D (mm_T cI cL cS cH) A := C0
  obtain ⟨hx, hb, hml, hown, hts, hr, hlocks, hK, hSt⟩ := id C0
  have hl : lv_has ls 2 [(0, .ref (a 0)), (1, .int x1)] := hl
  unfold fX9_trace at hf
  refine lv_iload_n hx hb dX9_trace_0 rfl (lv_at hl 1 rfl) ?_
  refine lv_if_lt (tgt := 27) hx hb dX9_trace_1 (by decide) (fun c_1 => ?_) (fun c_1 => ?_)
  · have hf := mm_ip hf c_1
    refine lv_iconst (v := -1) hx hb dX9_trace_27 (by decide) ?_
    obtain rfl := mm_inj1 hf
    exact mm_iret C0 hP hD hS dX9_trace_28
  · have hf := mm_in hf c_1
    refine lv_iload_n hx hb dX9_trace_4 rfl (lv_at hl 1 rfl) ?_
    refine lv_aload_n hx hb dX9_trace_5 rfl (lv_at hl 0 rfl) ?_
    refine mm_get C0 hP iw_X9 0 rfl rfl 62 (by decide) fl_X9_398 rfl dX9_trace_6 ?_
    refine lv_icmp_ge (tgt := 27) hx hb dX9_trace_9 (by decide) (fun c_2 => ?_) (fun c_2 => ?_)
    · have hf := mm_ip hf c_2
      refine lv_iconst (v := -1) hx hb dX9_trace_27 (by decide) ?_
      obtain rfl := mm_inj1 hf
      exact mm_iret C0 hP hD hS dX9_trace_28
    · have hf := mm_in hf c_2
      refine lv_iload_n hx hb dX9_trace_12 rfl (lv_at hl 1 rfl) ?_
      refine lv_bipush (v := 24) hx hb dX9_trace_13 (by decide) ?_
      refine lv_icmp_ge (tgt := 27) hx hb dX9_trace_15 (by decide) (fun c_3 => ?_) (fun c_3 => ?_)
      · have hf := mm_ip hf c_3
        refine lv_iconst (v := -1) hx hb dX9_trace_27 (by decide) ?_
        obtain rfl := mm_inj1 hf
        exact mm_iret C0 hP hD hS dX9_trace_28
      · have hf := mm_in hf c_3
        refine lv_aload_n hx hb dX9_trace_18 rfl (lv_at hl 0 rfl) ?_
        refine mm_get C0 hP iw_X9 0 rfl rfl 61 (by decide) fl_X9_85 rfl dX9_trace_19 ?_
        refine lv_iload_n hx hb dX9_trace_22 rfl (lv_at hl 1 rfl) ?_
        obtain ⟨h_4, hf⟩ := mm_cks hf
        refine mm_iald C0 hP 26 rfl h_4 dX9_trace_23 ?_
        refine lv_goto (tgt := 28) hx hb dX9_trace_24 (by decide) ?_
        obtain rfl := mm_inj1 hf
        exact mm_iret C0 hP hD hS dX9_trace_28

theorem dX9_keep_0 : decode cX9_keep 0 = .ok (.iload_n 1, 1) := by decide +kernel
theorem dX9_keep_1 : decode cX9_keep 1 = .ok (.invokestatic 274, 3) := by decide +kernel
theorem dX9_keep_4 : decode cX9_keep 4 = .ok (.ifCond .eq 16, 3) := by decide +kernel
theorem dX9_keep_7 : decode cX9_keep 7 = .ok (.iload_n 2, 1) := by decide +kernel
theorem dX9_keep_8 : decode cX9_keep 8 = .ok (.iconst (-1), 1) := by decide +kernel
theorem dX9_keep_9 : decode cX9_keep 9 = .ok (.if_icmp .eq 13, 3) := by decide +kernel
theorem dX9_keep_12 : decode cX9_keep 12 = .ok (.aload_n 0, 1) := by decide +kernel
theorem dX9_keep_13 : decode cX9_keep 13 = .ok (.iload_n 2, 1) := by decide +kernel
theorem dX9_keep_14 : decode cX9_keep 14 = .ok (.invokevirtual 422, 3) := by decide +kernel
theorem dX9_keep_17 : decode cX9_keep 17 = .ok (.ifCond .ne 5, 3) := by decide +kernel
theorem dX9_keep_20 : decode cX9_keep 20 = .ok (.iconst (-1), 1) := by decide +kernel
theorem dX9_keep_21 : decode cX9_keep 21 = .ok (.ireturn, 1) := by decide +kernel
theorem dX9_keep_22 : decode cX9_keep 22 = .ok (.aload_n 0, 1) := by decide +kernel
theorem dX9_keep_23 : decode cX9_keep 23 = .ok (.getfield 88, 3) := by decide +kernel
theorem dX9_keep_26 : decode cX9_keep 26 = .ok (.iload_n 1, 1) := by decide +kernel
theorem dX9_keep_27 : decode cX9_keep 27 = .ok (.iload_n 2, 1) := by decide +kernel
theorem dX9_keep_28 : decode cX9_keep 28 = .ok (.iastore, 1) := by decide +kernel
theorem dX9_keep_29 : decode cX9_keep 29 = .ok (.aload_n 0, 1) := by decide +kernel
theorem dX9_keep_30 : decode cX9_keep 30 = .ok (.getfield 91, 3) := by decide +kernel
theorem dX9_keep_33 : decode cX9_keep 33 = .ok (.iload_n 1, 1) := by decide +kernel
theorem dX9_keep_34 : decode cX9_keep 34 = .ok (.iconst 0, 1) := by decide +kernel
theorem dX9_keep_35 : decode cX9_keep 35 = .ok (.iastore, 1) := by decide +kernel
theorem dX9_keep_36 : decode cX9_keep 36 = .ok (.iconst 1, 1) := by decide +kernel
theorem dX9_keep_37 : decode cX9_keep 37 = .ok (.ireturn, 1) := by decide +kernel
def fX9_keep_22 (N : Nat)  (x1 : Int32) (x2 : Int32) (v_bodies : Int32) (v_shelf : List Int32) (v_many : List Int32) : Option (Int32 × List Int32 × List Int32) :=
    mm_ck (mm_inb x1 v_shelf.length) (mm_nm (mm_is v_shelf x1 x2) (fun (l_9 : List Int32) =>
    mm_ck (mm_inb x1 v_many.length) (mm_nm (mm_is v_many x1 (0 : Int32)) (fun (l_11 : List Int32) =>
    some ((1 : Int32), l_9, l_11)))))

set_option maxHeartbeats 4000000 in
set_option maxRecDepth 100000 in
theorem tX9_keep_22 {p : Program} {l : Launch} {e : Env} {s : State} {m : MethodId} {args : Array Value} {below : List Frame} {meth : Method} {c : Code} {D : va_G} {cI cL cS cH : ClassId} {A : Nat → Prop} {d : Nat} {a : Nat → Nat} (hd : 3 ≤ d) (C0 : mm_Cx p s m args meth c RX9 cX9_keep 3 (some .int) D (mm_T cI cL cS cH) A) (hA : ∀ q, s.heap.size ≤ q → A q) {v_keptMany : Int32} {v_done : Int32} {v_rowsOf : Int32} {v_columnsOf : Int32} {v_folded : Int32} {v_wronged : Int32} {v_tapeMany : Int32} {v_textMany : Int32} {v_base : Int32} {v_at : Int32} {v_ends : Int32} {v_fault : Int32} {v_opened : Int32} {v_bentMany : Int32} {v_bentWrong : Int32} {v_moreWorn : Int32} {v_planned : Int32} {v_allWrong : Int32} {v_allWorn : Int32} {v_z : Int32} {v_wishedField : Int32} {v_isFound : Bool} {v_bestWrong : Int32} {v_bestWorn : Int32} {v_bestMany : Int32} {v_soughtBy : Int32} {v_sought : Int32} {v_soughtAt : Int32} {v_foundMany : Int32} {v_foundOrder : Int32} {v_isKept : Bool} {v_imageRows : Int32} {v_imageColumns : Int32} {v_imageFolded : Int32} {v_imageWronged : Int32} {v_ran : Int32} {v_ownKind : Int32} {v_ownNumber : Int32} {v_limit : List Int32} {v_changeWas : List Int32} {v_changeIs : List Int32} {v_shapeRows : List Int32} {v_shapeColumns : List Int32} {v_row : List Int32} {v_column : List Int32} {v_below : List Int32} {v_face : List Int32} {v_worn : List Int32} {v_lastBend : List Int32} {v_tape : List Int32} {v_text : List Int32} {v_names : List Int32} {v_bends : List Int32} {v_high : List Int32} {v_to : List Int32} {v_pileSize : List Int32} {v_planLine : List Int32} {v_planWay : List Int32} {v_way1 : List Int32} {v_bestWay : List Int32} {v_order1 : List Int32} {v_placeIn : List Int32} {v_bodyKind : List Int32} {v_trace : List Int32} {v_items : List Int64} {v_carried : List Int64} {r : Int32} {w_shelf : List Int32} {w_many : List Int32} (N : Nat)  : ∀ (x1 : Int32) (x2 : Int32) (v_bodies : Int32) (v_shelf : List Int32) (v_many : List Int32) (H : Heap) (locs : List Loc) (ls : Array Slot), fX9_keep_22 N x1 x2 v_bodies v_shelf v_many = some (r, w_shelf, w_many) → va_P D mm_cl (wd_X9 cI cL cS cH a v_keptMany v_done v_rowsOf v_columnsOf v_folded v_wronged v_tapeMany v_textMany v_base v_at v_ends v_fault v_opened v_bentMany v_bentWrong v_moreWorn v_planned v_allWrong v_allWorn v_z v_wishedField v_isFound v_bestWrong v_bestWorn v_bestMany v_soughtBy v_sought v_soughtAt v_foundMany v_foundOrder v_isKept v_imageRows v_imageColumns v_imageFolded v_imageWronged v_bodies v_ran v_ownKind v_ownNumber v_limit v_changeWas v_changeIs v_shapeRows v_shapeColumns v_row v_column v_below v_face v_worn v_lastBend v_tape v_text v_names v_bends v_high v_to v_pileSize v_planLine v_planWay v_way1 v_bestWay v_order1 v_placeIn v_bodyKind v_trace v_shelf v_many v_items v_carried) H → va_D A (wd_X9 cI cL cS cH a v_keptMany v_done v_rowsOf v_columnsOf v_folded v_wronged v_tapeMany v_textMany v_base v_at v_ends v_fault v_opened v_bentMany v_bentWrong v_moreWorn v_planned v_allWrong v_allWorn v_z v_wishedField v_isFound v_bestWrong v_bestWorn v_bestMany v_soughtBy v_sought v_soughtAt v_foundMany v_foundOrder v_isKept v_imageRows v_imageColumns v_imageFolded v_imageWronged v_bodies v_ran v_ownKind v_ownNumber v_limit v_changeWas v_changeIs v_shapeRows v_shapeColumns v_row v_column v_below v_face v_worn v_lastBend v_tape v_text v_names v_bends v_high v_to v_pileSize v_planLine v_planWay v_way1 v_bestWay v_order1 v_placeIn v_bodyKind v_trace v_shelf v_many v_items v_carried) → va_S A s.heap H locs → lv_has ls 3 [(0, .ref (a 0)), (1, .int x1), (2, .int x2)] → W p l e (mm_rr d) s m args below meth c H locs 0 0 (mm_Z below D A (wd_X9 cI cL cS cH a v_keptMany v_done v_rowsOf v_columnsOf v_folded v_wronged v_tapeMany v_textMany v_base v_at v_ends v_fault v_opened v_bentMany v_bentWrong v_moreWorn v_planned v_allWrong v_allWorn v_z v_wishedField v_isFound v_bestWrong v_bestWorn v_bestMany v_soughtBy v_sought v_soughtAt v_foundMany v_foundOrder v_isKept v_imageRows v_imageColumns v_imageFolded v_imageWronged v_bodies v_ran v_ownKind v_ownNumber v_limit v_changeWas v_changeIs v_shapeRows v_shapeColumns v_row v_column v_below v_face v_worn v_lastBend v_tape v_text v_names v_bends v_high v_to v_pileSize v_planLine v_planWay v_way1 v_bestWay v_order1 v_placeIn v_bodyKind v_trace w_shelf w_many v_items v_carried) (some (.int r)) args s) (F0 m 22 ls []) := by
  obtain ⟨hx, hb, hml, hown, hts, hr, hlocks, hK, hSt⟩ := id C0
  intro x1 x2 v_bodies v_shelf v_many H locs ls hf hP hD hS hl
  unfold fX9_keep_22 at hf
  refine lv_aload_n hx hb dX9_keep_22 rfl (lv_at hl 0 rfl) ?_
  refine mm_get C0 hP iw_X9 0 rfl rfl 65 (by decide) fl_X9_88 rfl dX9_keep_23 ?_
  refine lv_iload_n hx hb dX9_keep_26 rfl (lv_at hl 1 rfl) ?_
  refine lv_iload_n hx hb dX9_keep_27 rfl (lv_at hl 2 rfl) ?_
  obtain ⟨h_8, hf⟩ := mm_cks hf
  refine mm_iast C0 hP hD hS 27 rfl h_8 dX9_keep_28 (w2 := (wd_X9 cI cL cS cH a v_keptMany v_done v_rowsOf v_columnsOf v_folded v_wronged v_tapeMany v_textMany v_base v_at v_ends v_fault v_opened v_bentMany v_bentWrong v_moreWorn v_planned v_allWrong v_allWorn v_z v_wishedField v_isFound v_bestWrong v_bestWorn v_bestMany v_soughtBy v_sought v_soughtAt v_foundMany v_foundOrder v_isKept v_imageRows v_imageColumns v_imageFolded v_imageWronged v_bodies v_ran v_ownKind v_ownNumber v_limit v_changeWas v_changeIs v_shapeRows v_shapeColumns v_row v_column v_below v_face v_worn v_lastBend v_tape v_text v_names v_bends v_high v_to v_pileSize v_planLine v_planWay v_way1 v_bestWay v_order1 v_placeIn v_bodyKind v_trace (mm_is v_shelf x1 x2) v_many v_items v_carried)) rfl (fun H locs hP hD hS => ?_)
  generalize el_9 : (mm_is v_shelf x1 x2) = l_9 at hP hD
  have hf := mm_nms hf el_9.symm
  refine lv_aload_n hx hb dX9_keep_29 rfl (lv_at hl 0 rfl) ?_
  refine mm_get C0 hP iw_X9 0 rfl rfl 66 (by decide) fl_X9_91 rfl dX9_keep_30 ?_
  refine lv_iload_n hx hb dX9_keep_33 rfl (lv_at hl 1 rfl) ?_
  refine lv_iconst (v := 0) hx hb dX9_keep_34 (by decide) ?_
  obtain ⟨h_10, hf⟩ := mm_cks hf
  refine mm_iast C0 hP hD hS 28 rfl h_10 dX9_keep_35 (w2 := (wd_X9 cI cL cS cH a v_keptMany v_done v_rowsOf v_columnsOf v_folded v_wronged v_tapeMany v_textMany v_base v_at v_ends v_fault v_opened v_bentMany v_bentWrong v_moreWorn v_planned v_allWrong v_allWorn v_z v_wishedField v_isFound v_bestWrong v_bestWorn v_bestMany v_soughtBy v_sought v_soughtAt v_foundMany v_foundOrder v_isKept v_imageRows v_imageColumns v_imageFolded v_imageWronged v_bodies v_ran v_ownKind v_ownNumber v_limit v_changeWas v_changeIs v_shapeRows v_shapeColumns v_row v_column v_below v_face v_worn v_lastBend v_tape v_text v_names v_bends v_high v_to v_pileSize v_planLine v_planWay v_way1 v_bestWay v_order1 v_placeIn v_bodyKind v_trace l_9 (mm_is v_many x1 (0 : Int32)) v_items v_carried)) rfl (fun H locs hP hD hS => ?_)
  generalize el_11 : (mm_is v_many x1 (0 : Int32)) = l_11 at hP hD
  have hf := mm_nms hf el_11.symm
  refine lv_iconst (v := 1) hx hb dX9_keep_36 (by decide) ?_
  apply mm_sub3 hf
  exact mm_iret C0 hP hD hS dX9_keep_37

def fX9_keep (N : Nat) (x1 : Int32) (x2 : Int32) (v_bodies : Int32) (v_shelf : List Int32) (v_many : List Int32) : Option (Int32 × List Int32 × List Int32) :=
    mm_bd1 (fX9_isShelf N x1) (fun (r_1 : Bool) =>
    if r_1 = false then
    (some ((-1 : Int32), v_shelf, v_many))
    else (if x2 = (-1 : Int32) then
    (fX9_keep_22 N x1 x2 v_bodies v_shelf v_many)
    else (mm_bd1 (fX9_isBody N x2 v_bodies) (fun (r_5 : Bool) =>
    if r_5 = false then
    (some ((-1 : Int32), v_shelf, v_many))
    else (fX9_keep_22 N x1 x2 v_bodies v_shelf v_many)))))

set_option maxHeartbeats 4000000 in
set_option maxRecDepth 100000 in
theorem ctX9_keep {l : Launch} {D : va_G} {cI cL cS cH : ClassId} {a : Nat → Nat} {x1 : Int32} {x2 : Int32} {v_keptMany : Int32} {v_done : Int32} {v_rowsOf : Int32} {v_columnsOf : Int32} {v_folded : Int32} {v_wronged : Int32} {v_tapeMany : Int32} {v_textMany : Int32} {v_base : Int32} {v_at : Int32} {v_ends : Int32} {v_fault : Int32} {v_opened : Int32} {v_bentMany : Int32} {v_bentWrong : Int32} {v_moreWorn : Int32} {v_planned : Int32} {v_allWrong : Int32} {v_allWorn : Int32} {v_z : Int32} {v_wishedField : Int32} {v_isFound : Bool} {v_bestWrong : Int32} {v_bestWorn : Int32} {v_bestMany : Int32} {v_soughtBy : Int32} {v_sought : Int32} {v_soughtAt : Int32} {v_foundMany : Int32} {v_foundOrder : Int32} {v_isKept : Bool} {v_imageRows : Int32} {v_imageColumns : Int32} {v_imageFolded : Int32} {v_imageWronged : Int32} {v_bodies : Int32} {v_ran : Int32} {v_ownKind : Int32} {v_ownNumber : Int32} {v_limit : List Int32} {v_changeWas : List Int32} {v_changeIs : List Int32} {v_shapeRows : List Int32} {v_shapeColumns : List Int32} {v_row : List Int32} {v_column : List Int32} {v_below : List Int32} {v_face : List Int32} {v_worn : List Int32} {v_lastBend : List Int32} {v_tape : List Int32} {v_text : List Int32} {v_names : List Int32} {v_bends : List Int32} {v_high : List Int32} {v_to : List Int32} {v_pileSize : List Int32} {v_planLine : List Int32} {v_planWay : List Int32} {v_way1 : List Int32} {v_bestWay : List Int32} {v_order1 : List Int32} {v_placeIn : List Int32} {v_bodyKind : List Int32} {v_trace : List Int32} {v_shelf : List Int32} {v_many : List Int32} {v_items : List Int64} {v_carried : List Int64} {r : Int32} {w_shelf : List Int32} {w_many : List Int32} {N d : Nat} (hd : 3 ≤ d) (hf : fX9_keep N x1 x2 v_bodies v_shelf v_many = some (r, w_shelf, w_many)) : mm_Ct l yX9_keep cX9_keep 3 (some .int) d D (mm_T cI cL cS cH) [.ref (a 0), .int x1, .int x2] (wd_X9 cI cL cS cH a v_keptMany v_done v_rowsOf v_columnsOf v_folded v_wronged v_tapeMany v_textMany v_base v_at v_ends v_fault v_opened v_bentMany v_bentWrong v_moreWorn v_planned v_allWrong v_allWorn v_z v_wishedField v_isFound v_bestWrong v_bestWorn v_bestMany v_soughtBy v_sought v_soughtAt v_foundMany v_foundOrder v_isKept v_imageRows v_imageColumns v_imageFolded v_imageWronged v_bodies v_ran v_ownKind v_ownNumber v_limit v_changeWas v_changeIs v_shapeRows v_shapeColumns v_row v_column v_below v_face v_worn v_lastBend v_tape v_text v_names v_bends v_high v_to v_pileSize v_planLine v_planWay v_way1 v_bestWay v_order1 v_placeIn v_bodyKind v_trace v_shelf v_many v_items v_carried) (wd_X9 cI cL cS cH a v_keptMany v_done v_rowsOf v_columnsOf v_folded v_wronged v_tapeMany v_textMany v_base v_at v_ends v_fault v_opened v_bentMany v_bentWrong v_moreWorn v_planned v_allWrong v_allWorn v_z v_wishedField v_isFound v_bestWrong v_bestWorn v_bestMany v_soughtBy v_sought v_soughtAt v_foundMany v_foundOrder v_isKept v_imageRows v_imageColumns v_imageFolded v_imageWronged v_bodies v_ran v_ownKind v_ownNumber v_limit v_changeWas v_changeIs v_shapeRows v_shapeColumns v_row v_column v_below v_face v_worn v_lastBend v_tape v_text v_names v_bends v_high v_to v_pileSize v_planLine v_planWay v_way1 v_bestWay v_order1 v_placeIn v_bodyKind v_trace w_shelf w_many v_items v_carried) (some (.int r)) := by
  refine mm_of (by decide) (Nat.le_of_ble_eq_true rfl) ?_
  intro p e s m args below meth c A H locs ls C0 hP hD hA hS hl
  have C0 : mm_Cx p s m args meth c RX9 cX9_keep 3 (some .int) D (mm_T cI cL cS cH) A := C0
  obtain ⟨hx, hb, hml, hown, hts, hr, hlocks, hK, hSt⟩ := id C0
  have hl : lv_has ls 3 [(0, .ref (a 0)), (1, .int x1), (2, .int x2)] := hl
  unfold fX9_keep at hf
  refine lv_iload_n hx hb dX9_keep_0 rfl (lv_at hl 1 rfl) ?_
  obtain ⟨r_1, hc_2, hf⟩ := mm_bd1s hf
  refine mm_callS0 (rest := []) C0 lk_X9_274 (ctX9_isShelf (d := d - 1) (by omega) hc_2) (by omega) rfl hl.1 rfl (mm_cat rfl) dX9_keep_1 hP hD hA hS (fun H locs hP hS => ?_)
  refine W.eq (g2 := F0 m 4 ls [.int (mm_b r_1)]) rfl ?_
  refine lv_if_eq (tgt := 20) hx hb dX9_keep_4 (by decide) (fun c_3 => ?_) (fun c_3 => ?_)
  · have hf := mm_ip hf (mm_b0 c_3)
    refine lv_iconst (v := -1) hx hb dX9_keep_20 (by decide) ?_
    apply mm_sub3 hf
    exact mm_iret C0 hP hD hS dX9_keep_21
  · have hf := mm_in hf (mm_b1 c_3)
    refine lv_iload_n hx hb dX9_keep_7 rfl (lv_at hl 2 rfl) ?_
    refine lv_iconst (v := -1) hx hb dX9_keep_8 (by decide) ?_
    refine lv_icmp_eq (tgt := 22) hx hb dX9_keep_9 (by decide) (fun c_4 => ?_) (fun c_4 => ?_)
    · have hf := mm_ip hf c_4
      exact tX9_keep_22 hd C0 hA N  _ _ _ _ _ H locs ls hf hP hD hS (lv_sub hl [0, 1, 2] rfl)
    · have hf := mm_in hf c_4
      refine lv_aload_n hx hb dX9_keep_12 rfl (lv_at hl 0 rfl) ?_
      refine lv_iload_n hx hb dX9_keep_13 rfl (lv_at hl 2 rfl) ?_
      obtain ⟨r_5, hc_6, hf⟩ := mm_bd1s hf
      refine mm_callVF (q0 := 0) (ci := 9) (rest := []) C0 lk_X9_422 (ctX9_isBody (a := a) (d := d - 1) (by omega) hc_6) (by omega) rfl hl.1 rfl (mm_cat rfl) dX9_keep_14 hP hD hA hS rfl rfl (fun H locs hP hD hS => ?_)
      refine W.eq (g2 := F0 m 17 ls [.int (mm_b r_5)]) rfl ?_
      refine lv_if_ne (tgt := 22) hx hb dX9_keep_17 (by decide) (fun c_7 => ?_) (fun c_7 => ?_)
      · have hf := mm_in hf (mm_b1 c_7)
        exact tX9_keep_22 hd C0 hA N  _ _ _ _ _ H locs ls hf hP hD hS (lv_sub hl [0, 1, 2] rfl)
      · have hf := mm_ip hf (mm_b0 c_7)
        refine lv_iconst (v := -1) hx hb dX9_keep_20 (by decide) ?_
        apply mm_sub3 hf
        exact mm_iret C0 hP hD hS dX9_keep_21

theorem dX9_row_0 : decode cX9_row 0 = .ok (.iload_n 1, 1) := by decide +kernel
theorem dX9_row_1 : decode cX9_row 1 = .ok (.invokestatic 274, 3) := by decide +kernel
theorem dX9_row_4 : decode cX9_row 4 = .ok (.ifCond .eq 21, 3) := by decide +kernel
theorem dX9_row_7 : decode cX9_row 7 = .ok (.iload_n 2, 1) := by decide +kernel
theorem dX9_row_8 : decode cX9_row 8 = .ok (.i2l, 1) := by decide +kernel
theorem dX9_row_9 : decode cX9_row 9 = .ok (.lconst 0, 1) := by decide +kernel
theorem dX9_row_10 : decode cX9_row 10 = .ok (.ldc2_w 141, 3) := by decide +kernel
theorem dX9_row_13 : decode cX9_row 13 = .ok (.invokestatic 111, 3) := by decide +kernel
theorem dX9_row_16 : decode cX9_row 16 = .ok (.ifCond .eq 9, 3) := by decide +kernel
theorem dX9_row_19 : decode cX9_row 19 = .ok (.iload_n 3, 1) := by decide +kernel
theorem dX9_row_20 : decode cX9_row 20 = .ok (.bipush 60, 2) := by decide +kernel
theorem dX9_row_22 : decode cX9_row 22 = .ok (.if_icmp .le 5, 3) := by decide +kernel
theorem dX9_row_25 : decode cX9_row 25 = .ok (.iconst (-1), 1) := by decide +kernel
theorem dX9_row_26 : decode cX9_row 26 = .ok (.ireturn, 1) := by decide +kernel
theorem dX9_row_27 : decode cX9_row 27 = .ok (.iload_n 3, 1) := by decide +kernel
theorem dX9_row_28 : decode cX9_row 28 = .ok (.ifCond .ge 6, 3) := by decide +kernel
theorem dX9_row_31 : decode cX9_row 31 = .ok (.bipush (-14), 2) := by decide +kernel
theorem dX9_row_33 : decode cX9_row 33 = .ok (.ireturn, 1) := by decide +kernel
theorem dX9_row_34 : decode cX9_row 34 = .ok (.aload_n 0, 1) := by decide +kernel
theorem dX9_row_35 : decode cX9_row 35 = .ok (.getfield 88, 3) := by decide +kernel
theorem dX9_row_38 : decode cX9_row 38 = .ok (.iload_n 1, 1) := by decide +kernel
theorem dX9_row_39 : decode cX9_row 39 = .ok (.bipush 50, 2) := by decide +kernel
theorem dX9_row_41 : decode cX9_row 41 = .ok (.iload_n 2, 1) := by decide +kernel
theorem dX9_row_42 : decode cX9_row 42 = .ok (.iadd, 1) := by decide +kernel
theorem dX9_row_43 : decode cX9_row 43 = .ok (.iastore, 1) := by decide +kernel
theorem dX9_row_44 : decode cX9_row 44 = .ok (.aload_n 0, 1) := by decide +kernel
theorem dX9_row_45 : decode cX9_row 45 = .ok (.getfield 91, 3) := by decide +kernel
theorem dX9_row_48 : decode cX9_row 48 = .ok (.iload_n 1, 1) := by decide +kernel
theorem dX9_row_49 : decode cX9_row 49 = .ok (.iload_n 3, 1) := by decide +kernel
theorem dX9_row_50 : decode cX9_row 50 = .ok (.iastore, 1) := by decide +kernel
theorem dX9_row_51 : decode cX9_row 51 = .ok (.bipush 60, 2) := by decide +kernel
theorem dX9_row_53 : decode cX9_row 53 = .ok (.iload_n 1, 1) := by decide +kernel
theorem dX9_row_54 : decode cX9_row 54 = .ok (.imul, 1) := by decide +kernel
theorem dX9_row_55 : decode cX9_row 55 = .ok (.istore 4, 2) := by decide +kernel
theorem dX9_row_57 : decode cX9_row 57 = .ok (.iload 4, 2) := by decide +kernel
theorem dX9_row_59 : decode cX9_row 59 = .ok (.bipush 60, 2) := by decide +kernel
theorem dX9_row_61 : decode cX9_row 61 = .ok (.iload_n 1, 1) := by decide +kernel
theorem dX9_row_62 : decode cX9_row 62 = .ok (.imul, 1) := by decide +kernel
theorem dX9_row_63 : decode cX9_row 63 = .ok (.bipush 60, 2) := by decide +kernel
theorem dX9_row_65 : decode cX9_row 65 = .ok (.iadd, 1) := by decide +kernel
theorem dX9_row_66 : decode cX9_row 66 = .ok (.if_icmp .ge 17, 3) := by decide +kernel
theorem dX9_row_69 : decode cX9_row 69 = .ok (.aload_n 0, 1) := by decide +kernel
theorem dX9_row_70 : decode cX9_row 70 = .ok (.getfield 94, 3) := by decide +kernel
theorem dX9_row_73 : decode cX9_row 73 = .ok (.iload 4, 2) := by decide +kernel
theorem dX9_row_75 : decode cX9_row 75 = .ok (.lconst 0, 1) := by decide +kernel
theorem dX9_row_76 : decode cX9_row 76 = .ok (.lastore, 1) := by decide +kernel
theorem dX9_row_77 : decode cX9_row 77 = .ok (.iinc 4 1, 3) := by decide +kernel
theorem dX9_row_80 : decode cX9_row 80 = .ok (.goto (-23), 3) := by decide +kernel
theorem dX9_row_83 : decode cX9_row 83 = .ok (.iconst 1, 1) := by decide +kernel
theorem dX9_row_84 : decode cX9_row 84 = .ok (.ireturn, 1) := by decide +kernel
def fX9_row_57 (N : Nat)  : Nat → Int32 → Int32 → List Int32 → List Int32 → List Int64 → Option (Int32 × List Int32 × List Int32 × List Int64)
  | 0 => fun _ _ _ _ _ => none
  | n + 1 => fun x1 x4 v_shelf v_many v_items =>
    if (((60 : Int32) * x1) + (60 : Int32)) ≤ x4 then
    (some ((1 : Int32), v_shelf, v_many, v_items))
    else (mm_ck (mm_inb x4 v_items.length) (mm_nm (mm_ls v_items x4 (0 : Int64)) (fun (l_17 : List Int64) =>
    mm_nm (x4 + (1 : Int32)) (fun (y_18 : Int32) =>
    fX9_row_57 N n x1 y_18 v_shelf v_many l_17))))

set_option maxHeartbeats 4000000 in
set_option maxRecDepth 100000 in
theorem tX9_row_57 {p : Program} {l : Launch} {e : Env} {s : State} {m : MethodId} {args : Array Value} {below : List Frame} {meth : Method} {c : Code} {D : va_G} {cI cL cS cH : ClassId} {A : Nat → Prop} {d : Nat} {a : Nat → Nat} (hd : 3 ≤ d) (C0 : mm_Cx p s m args meth c RX9 cX9_row 5 (some .int) D (mm_T cI cL cS cH) A) (hA : ∀ q, s.heap.size ≤ q → A q) {v_keptMany : Int32} {v_done : Int32} {v_rowsOf : Int32} {v_columnsOf : Int32} {v_folded : Int32} {v_wronged : Int32} {v_tapeMany : Int32} {v_textMany : Int32} {v_base : Int32} {v_at : Int32} {v_ends : Int32} {v_fault : Int32} {v_opened : Int32} {v_bentMany : Int32} {v_bentWrong : Int32} {v_moreWorn : Int32} {v_planned : Int32} {v_allWrong : Int32} {v_allWorn : Int32} {v_z : Int32} {v_wishedField : Int32} {v_isFound : Bool} {v_bestWrong : Int32} {v_bestWorn : Int32} {v_bestMany : Int32} {v_soughtBy : Int32} {v_sought : Int32} {v_soughtAt : Int32} {v_foundMany : Int32} {v_foundOrder : Int32} {v_isKept : Bool} {v_imageRows : Int32} {v_imageColumns : Int32} {v_imageFolded : Int32} {v_imageWronged : Int32} {v_bodies : Int32} {v_ran : Int32} {v_ownKind : Int32} {v_ownNumber : Int32} {v_limit : List Int32} {v_changeWas : List Int32} {v_changeIs : List Int32} {v_shapeRows : List Int32} {v_shapeColumns : List Int32} {v_row : List Int32} {v_column : List Int32} {v_below : List Int32} {v_face : List Int32} {v_worn : List Int32} {v_lastBend : List Int32} {v_tape : List Int32} {v_text : List Int32} {v_names : List Int32} {v_bends : List Int32} {v_high : List Int32} {v_to : List Int32} {v_pileSize : List Int32} {v_planLine : List Int32} {v_planWay : List Int32} {v_way1 : List Int32} {v_bestWay : List Int32} {v_order1 : List Int32} {v_placeIn : List Int32} {v_bodyKind : List Int32} {v_trace : List Int32} {v_carried : List Int64} {r : Int32} {w_shelf : List Int32} {w_many : List Int32} {w_items : List Int64} (N : Nat)  : ∀ (n : Nat), ∀ (x1 : Int32) (x4 : Int32) (v_shelf : List Int32) (v_many : List Int32) (v_items : List Int64) (H : Heap) (locs : List Loc) (ls : Array Slot), fX9_row_57 N n x1 x4 v_shelf v_many v_items = some (r, w_shelf, w_many, w_items) → va_P D mm_cl (wd_X9 cI cL cS cH a v_keptMany v_done v_rowsOf v_columnsOf v_folded v_wronged v_tapeMany v_textMany v_base v_at v_ends v_fault v_opened v_bentMany v_bentWrong v_moreWorn v_planned v_allWrong v_allWorn v_z v_wishedField v_isFound v_bestWrong v_bestWorn v_bestMany v_soughtBy v_sought v_soughtAt v_foundMany v_foundOrder v_isKept v_imageRows v_imageColumns v_imageFolded v_imageWronged v_bodies v_ran v_ownKind v_ownNumber v_limit v_changeWas v_changeIs v_shapeRows v_shapeColumns v_row v_column v_below v_face v_worn v_lastBend v_tape v_text v_names v_bends v_high v_to v_pileSize v_planLine v_planWay v_way1 v_bestWay v_order1 v_placeIn v_bodyKind v_trace v_shelf v_many v_items v_carried) H → va_D A (wd_X9 cI cL cS cH a v_keptMany v_done v_rowsOf v_columnsOf v_folded v_wronged v_tapeMany v_textMany v_base v_at v_ends v_fault v_opened v_bentMany v_bentWrong v_moreWorn v_planned v_allWrong v_allWorn v_z v_wishedField v_isFound v_bestWrong v_bestWorn v_bestMany v_soughtBy v_sought v_soughtAt v_foundMany v_foundOrder v_isKept v_imageRows v_imageColumns v_imageFolded v_imageWronged v_bodies v_ran v_ownKind v_ownNumber v_limit v_changeWas v_changeIs v_shapeRows v_shapeColumns v_row v_column v_below v_face v_worn v_lastBend v_tape v_text v_names v_bends v_high v_to v_pileSize v_planLine v_planWay v_way1 v_bestWay v_order1 v_placeIn v_bodyKind v_trace v_shelf v_many v_items v_carried) → va_S A s.heap H locs → lv_has ls 5 [(0, .ref (a 0)), (1, .int x1), (4, .int x4)] → W p l e (mm_rr d) s m args below meth c H locs 0 0 (mm_Z below D A (wd_X9 cI cL cS cH a v_keptMany v_done v_rowsOf v_columnsOf v_folded v_wronged v_tapeMany v_textMany v_base v_at v_ends v_fault v_opened v_bentMany v_bentWrong v_moreWorn v_planned v_allWrong v_allWorn v_z v_wishedField v_isFound v_bestWrong v_bestWorn v_bestMany v_soughtBy v_sought v_soughtAt v_foundMany v_foundOrder v_isKept v_imageRows v_imageColumns v_imageFolded v_imageWronged v_bodies v_ran v_ownKind v_ownNumber v_limit v_changeWas v_changeIs v_shapeRows v_shapeColumns v_row v_column v_below v_face v_worn v_lastBend v_tape v_text v_names v_bends v_high v_to v_pileSize v_planLine v_planWay v_way1 v_bestWay v_order1 v_placeIn v_bodyKind v_trace w_shelf w_many w_items v_carried) (some (.int r)) args s) (F0 m 57 ls []) := by
  obtain ⟨hx, hb, hml, hown, hts, hr, hlocks, hK, hSt⟩ := id C0
  intro n
  induction n with
  | zero =>
    intro x1 x4 v_shelf v_many v_items H locs ls hf
    cases (show none = some _ from hf)
  | succ n ih =>
    intro x1 x4 v_shelf v_many v_items H locs ls hf hP hD hS hl
    unfold fX9_row_57 at hf
    refine lv_iload hx hb dX9_row_57 (lv_at hl 2 rfl) ?_
    refine lv_bipush (v := 60) hx hb dX9_row_59 (by decide) ?_
    refine lv_iload_n hx hb dX9_row_61 rfl (lv_at hl 1 rfl) ?_
    refine lv_imul hx hb dX9_row_62 ?_
    refine lv_bipush (v := 60) hx hb dX9_row_63 (by decide) ?_
    refine lv_iadd hx hb dX9_row_65 ?_
    refine lv_icmp_ge (tgt := 83) hx hb dX9_row_66 (by decide) (fun c_15 => ?_) (fun c_15 => ?_)
    · have hf := mm_ip hf c_15
      refine lv_iconst (v := 1) hx hb dX9_row_83 (by decide) ?_
      apply mm_sub4 hf
      exact mm_iret C0 hP hD hS dX9_row_84
    · have hf := mm_in hf c_15
      refine lv_aload_n hx hb dX9_row_69 rfl (lv_at hl 0 rfl) ?_
      refine mm_get C0 hP iw_X9 0 rfl rfl 67 (by decide) fl_X9_94 rfl dX9_row_70 ?_
      refine lv_iload hx hb dX9_row_73 (lv_at hl 2 rfl) ?_
      refine lv_lconst (v := 0) hx hb dX9_row_75 (by decide) ?_
      obtain ⟨h_16, hf⟩ := mm_cks hf
      refine mm_last C0 hP hD hS 29 rfl h_16 dX9_row_76 (w2 := (wd_X9 cI cL cS cH a v_keptMany v_done v_rowsOf v_columnsOf v_folded v_wronged v_tapeMany v_textMany v_base v_at v_ends v_fault v_opened v_bentMany v_bentWrong v_moreWorn v_planned v_allWrong v_allWorn v_z v_wishedField v_isFound v_bestWrong v_bestWorn v_bestMany v_soughtBy v_sought v_soughtAt v_foundMany v_foundOrder v_isKept v_imageRows v_imageColumns v_imageFolded v_imageWronged v_bodies v_ran v_ownKind v_ownNumber v_limit v_changeWas v_changeIs v_shapeRows v_shapeColumns v_row v_column v_below v_face v_worn v_lastBend v_tape v_text v_names v_bends v_high v_to v_pileSize v_planLine v_planWay v_way1 v_bestWay v_order1 v_placeIn v_bodyKind v_trace v_shelf v_many (mm_ls v_items x4 (0 : Int64)) v_carried)) rfl (fun H locs hP hD hS => ?_)
      generalize el_17 : (mm_ls v_items x4 (0 : Int64)) = l_17 at hP hD
      have hf := mm_nms hf el_17.symm
      obtain ⟨y_18, ey_18⟩ : ∃ z : Int32, z = x4 + (1 : Int32) := ⟨_, rfl⟩
      have hf := mm_nms hf ey_18
      refine lv_iinc (v := y_18) (lv' := [(4, .int y_18), (0, .ref (a 0)), (1, .int x1)]) hx hb dX9_row_77 hl (k := 2) rfl (by rw [ey_18]; rfl) (by decide) rfl (fun ls hl => ?_)
      refine lv_goto (tgt := 57) hx hb dX9_row_80 (by decide) ?_
      exact ih _ _ _ _ _ H locs ls hf hP hD hS (lv_sub hl [1, 2, 0] rfl)

def fX9_row (N : Nat) (x1 : Int32) (x2 : Int32) (x3 : Int32) (v_shelf : List Int32) (v_many : List Int32) (v_items : List Int64) : Option (Int32 × List Int32 × List Int32 × List Int64) :=
    mm_bd1 (fX9_isShelf N x1) (fun (r_1 : Bool) =>
    if r_1 = false then
    (some ((-1 : Int32), v_shelf, v_many, v_items))
    else (mm_bd1 (fX9_within N ((x2).toInt64) (0 : Int64) (4 : Int64)) (fun (r_4 : Bool) =>
    if r_4 = false then
    (some ((-1 : Int32), v_shelf, v_many, v_items))
    else (if x3 ≤ (60 : Int32) then
    (if 0 ≤ x3 then
    (mm_nm (((50 : Int32) + x2)) (fun (y_9 : Int32) =>
    mm_ck (mm_inb x1 v_shelf.length) (mm_nm (mm_is v_shelf x1 y_9) (fun (l_11 : List Int32) =>
    mm_ck (mm_inb x1 v_many.length) (mm_nm (mm_is v_many x1 x3) (fun (l_13 : List Int32) =>
    mm_nm (((60 : Int32) * x1)) (fun (y_14 : Int32) =>
    fX9_row_57 N N x1 y_14 l_11 l_13 v_items)))))))
    else (some ((-14 : Int32), v_shelf, v_many, v_items)))
    else (some ((-1 : Int32), v_shelf, v_many, v_items))))))

set_option maxHeartbeats 4000000 in
set_option maxRecDepth 100000 in
theorem ctX9_row {l : Launch} {D : va_G} {cI cL cS cH : ClassId} {a : Nat → Nat} {x1 : Int32} {x2 : Int32} {x3 : Int32} {v_keptMany : Int32} {v_done : Int32} {v_rowsOf : Int32} {v_columnsOf : Int32} {v_folded : Int32} {v_wronged : Int32} {v_tapeMany : Int32} {v_textMany : Int32} {v_base : Int32} {v_at : Int32} {v_ends : Int32} {v_fault : Int32} {v_opened : Int32} {v_bentMany : Int32} {v_bentWrong : Int32} {v_moreWorn : Int32} {v_planned : Int32} {v_allWrong : Int32} {v_allWorn : Int32} {v_z : Int32} {v_wishedField : Int32} {v_isFound : Bool} {v_bestWrong : Int32} {v_bestWorn : Int32} {v_bestMany : Int32} {v_soughtBy : Int32} {v_sought : Int32} {v_soughtAt : Int32} {v_foundMany : Int32} {v_foundOrder : Int32} {v_isKept : Bool} {v_imageRows : Int32} {v_imageColumns : Int32} {v_imageFolded : Int32} {v_imageWronged : Int32} {v_bodies : Int32} {v_ran : Int32} {v_ownKind : Int32} {v_ownNumber : Int32} {v_limit : List Int32} {v_changeWas : List Int32} {v_changeIs : List Int32} {v_shapeRows : List Int32} {v_shapeColumns : List Int32} {v_row : List Int32} {v_column : List Int32} {v_below : List Int32} {v_face : List Int32} {v_worn : List Int32} {v_lastBend : List Int32} {v_tape : List Int32} {v_text : List Int32} {v_names : List Int32} {v_bends : List Int32} {v_high : List Int32} {v_to : List Int32} {v_pileSize : List Int32} {v_planLine : List Int32} {v_planWay : List Int32} {v_way1 : List Int32} {v_bestWay : List Int32} {v_order1 : List Int32} {v_placeIn : List Int32} {v_bodyKind : List Int32} {v_trace : List Int32} {v_shelf : List Int32} {v_many : List Int32} {v_items : List Int64} {v_carried : List Int64} {r : Int32} {w_shelf : List Int32} {w_many : List Int32} {w_items : List Int64} {N d : Nat} (hd : 3 ≤ d) (hf : fX9_row N x1 x2 x3 v_shelf v_many v_items = some (r, w_shelf, w_many, w_items)) : mm_Ct l yX9_row cX9_row 5 (some .int) d D (mm_T cI cL cS cH) [.ref (a 0), .int x1, .int x2, .int x3] (wd_X9 cI cL cS cH a v_keptMany v_done v_rowsOf v_columnsOf v_folded v_wronged v_tapeMany v_textMany v_base v_at v_ends v_fault v_opened v_bentMany v_bentWrong v_moreWorn v_planned v_allWrong v_allWorn v_z v_wishedField v_isFound v_bestWrong v_bestWorn v_bestMany v_soughtBy v_sought v_soughtAt v_foundMany v_foundOrder v_isKept v_imageRows v_imageColumns v_imageFolded v_imageWronged v_bodies v_ran v_ownKind v_ownNumber v_limit v_changeWas v_changeIs v_shapeRows v_shapeColumns v_row v_column v_below v_face v_worn v_lastBend v_tape v_text v_names v_bends v_high v_to v_pileSize v_planLine v_planWay v_way1 v_bestWay v_order1 v_placeIn v_bodyKind v_trace v_shelf v_many v_items v_carried) (wd_X9 cI cL cS cH a v_keptMany v_done v_rowsOf v_columnsOf v_folded v_wronged v_tapeMany v_textMany v_base v_at v_ends v_fault v_opened v_bentMany v_bentWrong v_moreWorn v_planned v_allWrong v_allWorn v_z v_wishedField v_isFound v_bestWrong v_bestWorn v_bestMany v_soughtBy v_sought v_soughtAt v_foundMany v_foundOrder v_isKept v_imageRows v_imageColumns v_imageFolded v_imageWronged v_bodies v_ran v_ownKind v_ownNumber v_limit v_changeWas v_changeIs v_shapeRows v_shapeColumns v_row v_column v_below v_face v_worn v_lastBend v_tape v_text v_names v_bends v_high v_to v_pileSize v_planLine v_planWay v_way1 v_bestWay v_order1 v_placeIn v_bodyKind v_trace w_shelf w_many w_items v_carried) (some (.int r)) := by
  refine mm_of (by decide) (Nat.le_of_ble_eq_true rfl) ?_
  intro p e s m args below meth c A H locs ls C0 hP hD hA hS hl
  have C0 : mm_Cx p s m args meth c RX9 cX9_row 5 (some .int) D (mm_T cI cL cS cH) A := C0
  obtain ⟨hx, hb, hml, hown, hts, hr, hlocks, hK, hSt⟩ := id C0
  have hl : lv_has ls 5 [(0, .ref (a 0)), (1, .int x1), (2, .int x2), (3, .int x3)] := hl
  unfold fX9_row at hf
  refine lv_iload_n hx hb dX9_row_0 rfl (lv_at hl 1 rfl) ?_
  obtain ⟨r_1, hc_2, hf⟩ := mm_bd1s hf
  refine mm_callS0 (rest := []) C0 lk_X9_274 (ctX9_isShelf (d := d - 1) (by omega) hc_2) (by omega) rfl hl.1 rfl (mm_cat rfl) dX9_row_1 hP hD hA hS (fun H locs hP hS => ?_)
  refine W.eq (g2 := F0 m 4 ls [.int (mm_b r_1)]) rfl ?_
  refine lv_if_eq (tgt := 25) hx hb dX9_row_4 (by decide) (fun c_3 => ?_) (fun c_3 => ?_)
  · have hf := mm_ip hf (mm_b0 c_3)
    refine lv_iconst (v := -1) hx hb dX9_row_25 (by decide) ?_
    apply mm_sub4 hf
    exact mm_iret C0 hP hD hS dX9_row_26
  · have hf := mm_in hf (mm_b1 c_3)
    refine lv_iload_n hx hb dX9_row_7 rfl (lv_at hl 2 rfl) ?_
    refine lv_i2l hx hb dX9_row_8 rfl ?_
    refine lv_lconst (v := 0) hx hb dX9_row_9 (by decide) ?_
    refine lv_ldc2 hx hb hown (hts _ kc_X9_141) dX9_row_10 ?_
    obtain ⟨r_4, hc_5, hf⟩ := mm_bd1s hf
    refine mm_callS0 (rest := []) C0 lk_X9_111 (ctX9_within (d := d - 1) (by omega) hc_5) (by omega) rfl hl.1 rfl (mm_cat rfl) dX9_row_13 hP hD hA hS (fun H locs hP hS => ?_)
    refine W.eq (g2 := F0 m 16 ls [.int (mm_b r_4)]) rfl ?_
    refine lv_if_eq (tgt := 25) hx hb dX9_row_16 (by decide) (fun c_6 => ?_) (fun c_6 => ?_)
    · have hf := mm_ip hf (mm_b0 c_6)
      refine lv_iconst (v := -1) hx hb dX9_row_25 (by decide) ?_
      apply mm_sub4 hf
      exact mm_iret C0 hP hD hS dX9_row_26
    · have hf := mm_in hf (mm_b1 c_6)
      refine lv_iload_n hx hb dX9_row_19 rfl (lv_at hl 3 rfl) ?_
      refine lv_bipush (v := 60) hx hb dX9_row_20 (by decide) ?_
      refine lv_icmp_le (tgt := 27) hx hb dX9_row_22 (by decide) (fun c_7 => ?_) (fun c_7 => ?_)
      · have hf := mm_ip hf c_7
        refine lv_iload_n hx hb dX9_row_27 rfl (lv_at hl 3 rfl) ?_
        refine lv_if_ge (tgt := 34) hx hb dX9_row_28 (by decide) (fun c_8 => ?_) (fun c_8 => ?_)
        · have hf := mm_ip hf c_8
          refine lv_aload_n hx hb dX9_row_34 rfl (lv_at hl 0 rfl) ?_
          refine mm_get C0 hP iw_X9 0 rfl rfl 65 (by decide) fl_X9_88 rfl dX9_row_35 ?_
          refine lv_iload_n hx hb dX9_row_38 rfl (lv_at hl 1 rfl) ?_
          refine lv_bipush (v := 50) hx hb dX9_row_39 (by decide) ?_
          refine lv_iload_n hx hb dX9_row_41 rfl (lv_at hl 2 rfl) ?_
          refine lv_iadd hx hb dX9_row_42 ?_
          refine lv_topi (fun y_9 ey_9 => ?_)
          have hf := mm_nms hf ey_9
          obtain ⟨h_10, hf⟩ := mm_cks hf
          refine mm_iast C0 hP hD hS 27 rfl h_10 dX9_row_43 (w2 := (wd_X9 cI cL cS cH a v_keptMany v_done v_rowsOf v_columnsOf v_folded v_wronged v_tapeMany v_textMany v_base v_at v_ends v_fault v_opened v_bentMany v_bentWrong v_moreWorn v_planned v_allWrong v_allWorn v_z v_wishedField v_isFound v_bestWrong v_bestWorn v_bestMany v_soughtBy v_sought v_soughtAt v_foundMany v_foundOrder v_isKept v_imageRows v_imageColumns v_imageFolded v_imageWronged v_bodies v_ran v_ownKind v_ownNumber v_limit v_changeWas v_changeIs v_shapeRows v_shapeColumns v_row v_column v_below v_face v_worn v_lastBend v_tape v_text v_names v_bends v_high v_to v_pileSize v_planLine v_planWay v_way1 v_bestWay v_order1 v_placeIn v_bodyKind v_trace (mm_is v_shelf x1 y_9) v_many v_items v_carried)) rfl (fun H locs hP hD hS => ?_)
          generalize el_11 : (mm_is v_shelf x1 y_9) = l_11 at hP hD
          have hf := mm_nms hf el_11.symm
          refine lv_aload_n hx hb dX9_row_44 rfl (lv_at hl 0 rfl) ?_
          refine mm_get C0 hP iw_X9 0 rfl rfl 66 (by decide) fl_X9_91 rfl dX9_row_45 ?_
          refine lv_iload_n hx hb dX9_row_48 rfl (lv_at hl 1 rfl) ?_
          refine lv_iload_n hx hb dX9_row_49 rfl (lv_at hl 3 rfl) ?_
          obtain ⟨h_12, hf⟩ := mm_cks hf
          refine mm_iast C0 hP hD hS 28 rfl h_12 dX9_row_50 (w2 := (wd_X9 cI cL cS cH a v_keptMany v_done v_rowsOf v_columnsOf v_folded v_wronged v_tapeMany v_textMany v_base v_at v_ends v_fault v_opened v_bentMany v_bentWrong v_moreWorn v_planned v_allWrong v_allWorn v_z v_wishedField v_isFound v_bestWrong v_bestWorn v_bestMany v_soughtBy v_sought v_soughtAt v_foundMany v_foundOrder v_isKept v_imageRows v_imageColumns v_imageFolded v_imageWronged v_bodies v_ran v_ownKind v_ownNumber v_limit v_changeWas v_changeIs v_shapeRows v_shapeColumns v_row v_column v_below v_face v_worn v_lastBend v_tape v_text v_names v_bends v_high v_to v_pileSize v_planLine v_planWay v_way1 v_bestWay v_order1 v_placeIn v_bodyKind v_trace l_11 (mm_is v_many x1 x3) v_items v_carried)) rfl (fun H locs hP hD hS => ?_)
          generalize el_13 : (mm_is v_many x1 x3) = l_13 at hP hD
          have hf := mm_nms hf el_13.symm
          refine lv_bipush (v := 60) hx hb dX9_row_51 (by decide) ?_
          refine lv_iload_n hx hb dX9_row_53 rfl (lv_at hl 1 rfl) ?_
          refine lv_imul hx hb dX9_row_54 ?_
          refine lv_topi (fun y_14 ey_14 => ?_)
          have hf := mm_nms hf ey_14
          refine lv_istore (lv' := [(4, .int y_14), (0, .ref (a 0)), (1, .int x1), (2, .int x2), (3, .int x3)]) hx hb dX9_row_55 hl (by decide) rfl (fun ls hl => ?_)
          exact tX9_row_57 hd C0 hA N  N _ _ _ _ _ H locs ls hf hP hD hS (lv_sub hl [1, 2, 0] rfl)
        · have hf := mm_in hf c_8
          refine lv_bipush (v := -14) hx hb dX9_row_31 (by decide) ?_
          apply mm_sub4 hf
          exact mm_iret C0 hP hD hS dX9_row_33
      · have hf := mm_in hf c_7
        refine lv_iconst (v := -1) hx hb dX9_row_25 (by decide) ?_
        apply mm_sub4 hf
        exact mm_iret C0 hP hD hS dX9_row_26

theorem dX9_refusal_0 : decode cX9_refusal 0 = .ok (.iload_n 1, 1) := by decide +kernel
theorem dX9_refusal_1 : decode cX9_refusal 1 = .ok (.invokestatic 274, 3) := by decide +kernel
theorem dX9_refusal_4 : decode cX9_refusal 4 = .ok (.ifCond .ne 5, 3) := by decide +kernel
theorem dX9_refusal_7 : decode cX9_refusal 7 = .ok (.iconst (-1), 1) := by decide +kernel
theorem dX9_refusal_8 : decode cX9_refusal 8 = .ok (.ireturn, 1) := by decide +kernel
theorem dX9_refusal_9 : decode cX9_refusal 9 = .ok (.aload_n 0, 1) := by decide +kernel
theorem dX9_refusal_10 : decode cX9_refusal 10 = .ok (.getfield 88, 3) := by decide +kernel
theorem dX9_refusal_13 : decode cX9_refusal 13 = .ok (.iload_n 1, 1) := by decide +kernel
theorem dX9_refusal_14 : decode cX9_refusal 14 = .ok (.iaload, 1) := by decide +kernel
theorem dX9_refusal_15 : decode cX9_refusal 15 = .ok (.ifCond .ge 6, 3) := by decide +kernel
theorem dX9_refusal_18 : decode cX9_refusal 18 = .ok (.bipush (-11), 2) := by decide +kernel
theorem dX9_refusal_20 : decode cX9_refusal 20 = .ok (.ireturn, 1) := by decide +kernel
theorem dX9_refusal_21 : decode cX9_refusal 21 = .ok (.aload_n 0, 1) := by decide +kernel
theorem dX9_refusal_22 : decode cX9_refusal 22 = .ok (.getfield 88, 3) := by decide +kernel
theorem dX9_refusal_25 : decode cX9_refusal 25 = .ok (.iload_n 1, 1) := by decide +kernel
theorem dX9_refusal_26 : decode cX9_refusal 26 = .ok (.iaload, 1) := by decide +kernel
theorem dX9_refusal_27 : decode cX9_refusal 27 = .ok (.bipush 50, 2) := by decide +kernel
theorem dX9_refusal_29 : decode cX9_refusal 29 = .ok (.if_icmp .ge 6, 3) := by decide +kernel
theorem dX9_refusal_32 : decode cX9_refusal 32 = .ok (.bipush (-12), 2) := by decide +kernel
theorem dX9_refusal_34 : decode cX9_refusal 34 = .ok (.ireturn, 1) := by decide +kernel
theorem dX9_refusal_35 : decode cX9_refusal 35 = .ok (.iload_n 2, 1) := by decide +kernel
theorem dX9_refusal_36 : decode cX9_refusal 36 = .ok (.ifCond .lt 17, 3) := by decide +kernel
theorem dX9_refusal_39 : decode cX9_refusal 39 = .ok (.iload_n 2, 1) := by decide +kernel
theorem dX9_refusal_40 : decode cX9_refusal 40 = .ok (.aload_n 0, 1) := by decide +kernel
theorem dX9_refusal_41 : decode cX9_refusal 41 = .ok (.getfield 91, 3) := by decide +kernel
theorem dX9_refusal_44 : decode cX9_refusal 44 = .ok (.iload_n 1, 1) := by decide +kernel
theorem dX9_refusal_45 : decode cX9_refusal 45 = .ok (.iaload, 1) := by decide +kernel
theorem dX9_refusal_46 : decode cX9_refusal 46 = .ok (.if_icmp .ge 7, 3) := by decide +kernel
theorem dX9_refusal_49 : decode cX9_refusal 49 = .ok (.iconst 0, 1) := by decide +kernel
theorem dX9_refusal_50 : decode cX9_refusal 50 = .ok (.goto 5, 3) := by decide +kernel
theorem dX9_refusal_53 : decode cX9_refusal 53 = .ok (.bipush (-13), 2) := by decide +kernel
theorem dX9_refusal_55 : decode cX9_refusal 55 = .ok (.ireturn, 1) := by decide +kernel
def fX9_refusal (N : Nat) (x1 : Int32) (x2 : Int32) (v_shelf : List Int32) (v_many : List Int32) : Option (Int32) :=
    mm_bd1 (fX9_isShelf N x1) (fun (r_1 : Bool) =>
    if r_1 = false then
    (some ((-1 : Int32)))
    else (mm_ck (mm_inb x1 v_shelf.length) (if 0 ≤ (mm_ig v_shelf x1) then
    (mm_ck (mm_inb x1 v_shelf.length) (if (50 : Int32) ≤ (mm_ig v_shelf x1) then
    (if x2 < 0 then
    (some ((-13 : Int32)))
    else (mm_ck (mm_inb x1 v_many.length) (if (mm_ig v_many x1) ≤ x2 then
    (some ((-13 : Int32)))
    else (some ((0 : Int32))))))
    else (some ((-12 : Int32)))))
    else (some ((-11 : Int32))))))

set_option maxHeartbeats 4000000 in
set_option maxRecDepth 100000 in
theorem ctX9_refusal {l : Launch} {D : va_G} {cI cL cS cH : ClassId} {a : Nat → Nat} {x1 : Int32} {x2 : Int32} {v_keptMany : Int32} {v_done : Int32} {v_rowsOf : Int32} {v_columnsOf : Int32} {v_folded : Int32} {v_wronged : Int32} {v_tapeMany : Int32} {v_textMany : Int32} {v_base : Int32} {v_at : Int32} {v_ends : Int32} {v_fault : Int32} {v_opened : Int32} {v_bentMany : Int32} {v_bentWrong : Int32} {v_moreWorn : Int32} {v_planned : Int32} {v_allWrong : Int32} {v_allWorn : Int32} {v_z : Int32} {v_wishedField : Int32} {v_isFound : Bool} {v_bestWrong : Int32} {v_bestWorn : Int32} {v_bestMany : Int32} {v_soughtBy : Int32} {v_sought : Int32} {v_soughtAt : Int32} {v_foundMany : Int32} {v_foundOrder : Int32} {v_isKept : Bool} {v_imageRows : Int32} {v_imageColumns : Int32} {v_imageFolded : Int32} {v_imageWronged : Int32} {v_bodies : Int32} {v_ran : Int32} {v_ownKind : Int32} {v_ownNumber : Int32} {v_limit : List Int32} {v_changeWas : List Int32} {v_changeIs : List Int32} {v_shapeRows : List Int32} {v_shapeColumns : List Int32} {v_row : List Int32} {v_column : List Int32} {v_below : List Int32} {v_face : List Int32} {v_worn : List Int32} {v_lastBend : List Int32} {v_tape : List Int32} {v_text : List Int32} {v_names : List Int32} {v_bends : List Int32} {v_high : List Int32} {v_to : List Int32} {v_pileSize : List Int32} {v_planLine : List Int32} {v_planWay : List Int32} {v_way1 : List Int32} {v_bestWay : List Int32} {v_order1 : List Int32} {v_placeIn : List Int32} {v_bodyKind : List Int32} {v_trace : List Int32} {v_shelf : List Int32} {v_many : List Int32} {v_items : List Int64} {v_carried : List Int64} {r : Int32} {N d : Nat} (hd : 3 ≤ d) (hf : fX9_refusal N x1 x2 v_shelf v_many = some r) : mm_Ct l yX9_refusal cX9_refusal 3 (some .int) d D (mm_T cI cL cS cH) [.ref (a 0), .int x1, .int x2] (wd_X9 cI cL cS cH a v_keptMany v_done v_rowsOf v_columnsOf v_folded v_wronged v_tapeMany v_textMany v_base v_at v_ends v_fault v_opened v_bentMany v_bentWrong v_moreWorn v_planned v_allWrong v_allWorn v_z v_wishedField v_isFound v_bestWrong v_bestWorn v_bestMany v_soughtBy v_sought v_soughtAt v_foundMany v_foundOrder v_isKept v_imageRows v_imageColumns v_imageFolded v_imageWronged v_bodies v_ran v_ownKind v_ownNumber v_limit v_changeWas v_changeIs v_shapeRows v_shapeColumns v_row v_column v_below v_face v_worn v_lastBend v_tape v_text v_names v_bends v_high v_to v_pileSize v_planLine v_planWay v_way1 v_bestWay v_order1 v_placeIn v_bodyKind v_trace v_shelf v_many v_items v_carried) (wd_X9 cI cL cS cH a v_keptMany v_done v_rowsOf v_columnsOf v_folded v_wronged v_tapeMany v_textMany v_base v_at v_ends v_fault v_opened v_bentMany v_bentWrong v_moreWorn v_planned v_allWrong v_allWorn v_z v_wishedField v_isFound v_bestWrong v_bestWorn v_bestMany v_soughtBy v_sought v_soughtAt v_foundMany v_foundOrder v_isKept v_imageRows v_imageColumns v_imageFolded v_imageWronged v_bodies v_ran v_ownKind v_ownNumber v_limit v_changeWas v_changeIs v_shapeRows v_shapeColumns v_row v_column v_below v_face v_worn v_lastBend v_tape v_text v_names v_bends v_high v_to v_pileSize v_planLine v_planWay v_way1 v_bestWay v_order1 v_placeIn v_bodyKind v_trace v_shelf v_many v_items v_carried) (some (.int r)) := by
  refine mm_of (by decide) (Nat.le_of_ble_eq_true rfl) ?_
  intro p e s m args below meth c A H locs ls C0 hP hD hA hS hl
  have C0 : mm_Cx p s m args meth c RX9 cX9_refusal 3 (some .int) D (mm_T cI cL cS cH) A := C0
  obtain ⟨hx, hb, hml, hown, hts, hr, hlocks, hK, hSt⟩ := id C0
  have hl : lv_has ls 3 [(0, .ref (a 0)), (1, .int x1), (2, .int x2)] := hl
  unfold fX9_refusal at hf
  refine lv_iload_n hx hb dX9_refusal_0 rfl (lv_at hl 1 rfl) ?_
  obtain ⟨r_1, hc_2, hf⟩ := mm_bd1s hf
  refine mm_callS0 (rest := []) C0 lk_X9_274 (ctX9_isShelf (d := d - 1) (by omega) hc_2) (by omega) rfl hl.1 rfl (mm_cat rfl) dX9_refusal_1 hP hD hA hS (fun H locs hP hS => ?_)
  refine W.eq (g2 := F0 m 4 ls [.int (mm_b r_1)]) rfl ?_
  refine lv_if_ne (tgt := 9) hx hb dX9_refusal_4 (by decide) (fun c_3 => ?_) (fun c_3 => ?_)
  · have hf := mm_in hf (mm_b1 c_3)
    refine lv_aload_n hx hb dX9_refusal_9 rfl (lv_at hl 0 rfl) ?_
    refine mm_get C0 hP iw_X9 0 rfl rfl 65 (by decide) fl_X9_88 rfl dX9_refusal_10 ?_
    refine lv_iload_n hx hb dX9_refusal_13 rfl (lv_at hl 1 rfl) ?_
    obtain ⟨h_4, hf⟩ := mm_cks hf
    refine mm_iald C0 hP 27 rfl h_4 dX9_refusal_14 ?_
    refine lv_if_ge (tgt := 21) hx hb dX9_refusal_15 (by decide) (fun c_5 => ?_) (fun c_5 => ?_)
    · have hf := mm_ip hf c_5
      refine lv_aload_n hx hb dX9_refusal_21 rfl (lv_at hl 0 rfl) ?_
      refine mm_get C0 hP iw_X9 0 rfl rfl 65 (by decide) fl_X9_88 rfl dX9_refusal_22 ?_
      refine lv_iload_n hx hb dX9_refusal_25 rfl (lv_at hl 1 rfl) ?_
      obtain ⟨h_6, hf⟩ := mm_cks hf
      refine mm_iald C0 hP 27 rfl h_6 dX9_refusal_26 ?_
      refine lv_bipush (v := 50) hx hb dX9_refusal_27 (by decide) ?_
      refine lv_icmp_ge (tgt := 35) hx hb dX9_refusal_29 (by decide) (fun c_7 => ?_) (fun c_7 => ?_)
      · have hf := mm_ip hf c_7
        refine lv_iload_n hx hb dX9_refusal_35 rfl (lv_at hl 2 rfl) ?_
        refine lv_if_lt (tgt := 53) hx hb dX9_refusal_36 (by decide) (fun c_8 => ?_) (fun c_8 => ?_)
        · have hf := mm_ip hf c_8
          refine lv_bipush (v := -13) hx hb dX9_refusal_53 (by decide) ?_
          obtain rfl := mm_inj1 hf
          exact mm_iret C0 hP hD hS dX9_refusal_55
        · have hf := mm_in hf c_8
          refine lv_iload_n hx hb dX9_refusal_39 rfl (lv_at hl 2 rfl) ?_
          refine lv_aload_n hx hb dX9_refusal_40 rfl (lv_at hl 0 rfl) ?_
          refine mm_get C0 hP iw_X9 0 rfl rfl 66 (by decide) fl_X9_91 rfl dX9_refusal_41 ?_
          refine lv_iload_n hx hb dX9_refusal_44 rfl (lv_at hl 1 rfl) ?_
          obtain ⟨h_9, hf⟩ := mm_cks hf
          refine mm_iald C0 hP 28 rfl h_9 dX9_refusal_45 ?_
          refine lv_icmp_ge (tgt := 53) hx hb dX9_refusal_46 (by decide) (fun c_10 => ?_) (fun c_10 => ?_)
          · have hf := mm_ip hf c_10
            refine lv_bipush (v := -13) hx hb dX9_refusal_53 (by decide) ?_
            obtain rfl := mm_inj1 hf
            exact mm_iret C0 hP hD hS dX9_refusal_55
          · have hf := mm_in hf c_10
            refine lv_iconst (v := 0) hx hb dX9_refusal_49 (by decide) ?_
            refine lv_goto (tgt := 55) hx hb dX9_refusal_50 (by decide) ?_
            obtain rfl := mm_inj1 hf
            exact mm_iret C0 hP hD hS dX9_refusal_55
      · have hf := mm_in hf c_7
        refine lv_bipush (v := -12) hx hb dX9_refusal_32 (by decide) ?_
        obtain rfl := mm_inj1 hf
        exact mm_iret C0 hP hD hS dX9_refusal_34
    · have hf := mm_in hf c_5
      refine lv_bipush (v := -11) hx hb dX9_refusal_18 (by decide) ?_
      obtain rfl := mm_inj1 hf
      exact mm_iret C0 hP hD hS dX9_refusal_20
  · have hf := mm_ip hf (mm_b0 c_3)
    refine lv_iconst (v := -1) hx hb dX9_refusal_7 (by decide) ?_
    obtain rfl := mm_inj1 hf
    exact mm_iret C0 hP hD hS dX9_refusal_8

theorem dX9_asSort_0 : decode cX9_asSort 0 = .ok (.iload_n 0, 1) := by decide +kernel
theorem dX9_asSort_1 : decode cX9_asSort 1 = .ok (.ifCond .ne 10, 3) := by decide +kernel
theorem dX9_asSort_4 : decode cX9_asSort 4 = .ok (.lload_n 1, 1) := by decide +kernel
theorem dX9_asSort_5 : decode cX9_asSort 5 = .ok (.l2i, 1) := by decide +kernel
theorem dX9_asSort_6 : decode cX9_asSort 6 = .ok (.i2b, 1) := by decide +kernel
theorem dX9_asSort_7 : decode cX9_asSort 7 = .ok (.i2l, 1) := by decide +kernel
theorem dX9_asSort_8 : decode cX9_asSort 8 = .ok (.goto 46, 3) := by decide +kernel
theorem dX9_asSort_11 : decode cX9_asSort 11 = .ok (.iload_n 0, 1) := by decide +kernel
theorem dX9_asSort_12 : decode cX9_asSort 12 = .ok (.iconst 1, 1) := by decide +kernel
theorem dX9_asSort_13 : decode cX9_asSort 13 = .ok (.if_icmp .ne 10, 3) := by decide +kernel
theorem dX9_asSort_16 : decode cX9_asSort 16 = .ok (.lload_n 1, 1) := by decide +kernel
theorem dX9_asSort_17 : decode cX9_asSort 17 = .ok (.l2i, 1) := by decide +kernel
theorem dX9_asSort_18 : decode cX9_asSort 18 = .ok (.i2s, 1) := by decide +kernel
theorem dX9_asSort_19 : decode cX9_asSort 19 = .ok (.i2l, 1) := by decide +kernel
theorem dX9_asSort_20 : decode cX9_asSort 20 = .ok (.goto 34, 3) := by decide +kernel
theorem dX9_asSort_23 : decode cX9_asSort 23 = .ok (.iload_n 0, 1) := by decide +kernel
theorem dX9_asSort_24 : decode cX9_asSort 24 = .ok (.iconst 2, 1) := by decide +kernel
theorem dX9_asSort_25 : decode cX9_asSort 25 = .ok (.if_icmp .ne 9, 3) := by decide +kernel
theorem dX9_asSort_28 : decode cX9_asSort 28 = .ok (.lload_n 1, 1) := by decide +kernel
theorem dX9_asSort_29 : decode cX9_asSort 29 = .ok (.l2i, 1) := by decide +kernel
theorem dX9_asSort_30 : decode cX9_asSort 30 = .ok (.i2l, 1) := by decide +kernel
theorem dX9_asSort_31 : decode cX9_asSort 31 = .ok (.goto 23, 3) := by decide +kernel
theorem dX9_asSort_34 : decode cX9_asSort 34 = .ok (.iload_n 0, 1) := by decide +kernel
theorem dX9_asSort_35 : decode cX9_asSort 35 = .ok (.iconst 4, 1) := by decide +kernel
theorem dX9_asSort_36 : decode cX9_asSort 36 = .ok (.if_icmp .ne 17, 3) := by decide +kernel
theorem dX9_asSort_39 : decode cX9_asSort 39 = .ok (.lload_n 1, 1) := by decide +kernel
theorem dX9_asSort_40 : decode cX9_asSort 40 = .ok (.lconst 0, 1) := by decide +kernel
theorem dX9_asSort_41 : decode cX9_asSort 41 = .ok (.lcmp, 1) := by decide +kernel
theorem dX9_asSort_42 : decode cX9_asSort 42 = .ok (.ifCond .eq 7, 3) := by decide +kernel
theorem dX9_asSort_45 : decode cX9_asSort 45 = .ok (.lconst 1, 1) := by decide +kernel
theorem dX9_asSort_46 : decode cX9_asSort 46 = .ok (.goto 8, 3) := by decide +kernel
theorem dX9_asSort_49 : decode cX9_asSort 49 = .ok (.lconst 0, 1) := by decide +kernel
theorem dX9_asSort_50 : decode cX9_asSort 50 = .ok (.goto 4, 3) := by decide +kernel
theorem dX9_asSort_53 : decode cX9_asSort 53 = .ok (.lload_n 1, 1) := by decide +kernel
theorem dX9_asSort_54 : decode cX9_asSort 54 = .ok (.lreturn, 1) := by decide +kernel
def fX9_asSort (N : Nat) (x0 : Int32) (x1 : Int64) : Option (Int64) :=
    if x0 = 0 then
    (some ((((x1.toInt32).toInt8.toInt32).toInt64)))
    else (if x0 = (1 : Int32) then
    (some ((((x1.toInt32).toInt16.toInt32).toInt64)))
    else (if x0 = (2 : Int32) then
    (some (((x1.toInt32).toInt64)))
    else (if x0 = (4 : Int32) then
    (if (lg_cmp x1 (0 : Int64)) = 0 then
    (some ((0 : Int64)))
    else (some ((1 : Int64))))
    else (some (x1)))))

set_option maxHeartbeats 4000000 in
set_option maxRecDepth 100000 in
theorem ctX9_asSort {l : Launch} {D : va_G} {cI cL cS cH : ClassId} {x0 : Int32} {x1 : Int64}  {r : Int64} {N d : Nat} (hd : 1 ≤ d) (hf : fX9_asSort N x0 x1 = some r) : mm_Ct l yX9_asSort cX9_asSort 3 (some .long) d D (mm_T cI cL cS cH) [.int x0, .long x1] ([] : va_W) ([] : va_W) (some (.long r)) := by
  refine mm_of (by decide) (Nat.le_of_ble_eq_true rfl) ?_
  intro p e s m args below meth c A H locs ls C0 hP hD hA hS hl
  have C0 : mm_Cx p s m args meth c RX9 cX9_asSort 3 (some .long) D (mm_T cI cL cS cH) A := C0
  obtain ⟨hx, hb, hml, hown, hts, hr, hlocks, hK, hSt⟩ := id C0
  have hl : lv_has ls 3 [(0, .int x0), (1, .long x1)] := hl
  unfold fX9_asSort at hf
  refine lv_iload_n hx hb dX9_asSort_0 rfl (lv_at hl 0 rfl) ?_
  refine lv_if_ne (tgt := 11) hx hb dX9_asSort_1 (by decide) (fun c_1 => ?_) (fun c_1 => ?_)
  · have hf := mm_in hf c_1
    refine lv_iload_n hx hb dX9_asSort_11 rfl (lv_at hl 0 rfl) ?_
    refine lv_iconst (v := 1) hx hb dX9_asSort_12 (by decide) ?_
    refine lv_icmp_ne (tgt := 23) hx hb dX9_asSort_13 (by decide) (fun c_2 => ?_) (fun c_2 => ?_)
    · have hf := mm_in hf c_2
      refine lv_iload_n hx hb dX9_asSort_23 rfl (lv_at hl 0 rfl) ?_
      refine lv_iconst (v := 2) hx hb dX9_asSort_24 (by decide) ?_
      refine lv_icmp_ne (tgt := 34) hx hb dX9_asSort_25 (by decide) (fun c_3 => ?_) (fun c_3 => ?_)
      · have hf := mm_in hf c_3
        refine lv_iload_n hx hb dX9_asSort_34 rfl (lv_at hl 0 rfl) ?_
        refine lv_iconst (v := 4) hx hb dX9_asSort_35 (by decide) ?_
        refine lv_icmp_ne (tgt := 53) hx hb dX9_asSort_36 (by decide) (fun c_4 => ?_) (fun c_4 => ?_)
        · have hf := mm_in hf c_4
          refine lv_lload_n hx hb dX9_asSort_53 rfl (lv_at hl 1 rfl) ?_
          obtain rfl := mm_inj1 hf
          exact mm_lret C0 hP hD hS dX9_asSort_54
        · have hf := mm_ip hf c_4
          refine lv_lload_n hx hb dX9_asSort_39 rfl (lv_at hl 1 rfl) ?_
          refine lv_lconst (v := 0) hx hb dX9_asSort_40 (by decide) ?_
          refine W.lcmp hx hb dX9_asSort_41 ?_
          refine lv_if_eq (tgt := 49) hx hb dX9_asSort_42 (by decide) (fun c_5 => ?_) (fun c_5 => ?_)
          · have hf := mm_ip hf c_5
            refine lv_lconst (v := 0) hx hb dX9_asSort_49 (by decide) ?_
            refine lv_goto (tgt := 54) hx hb dX9_asSort_50 (by decide) ?_
            obtain rfl := mm_inj1 hf
            exact mm_lret C0 hP hD hS dX9_asSort_54
          · have hf := mm_in hf c_5
            refine lv_lconst (v := 1) hx hb dX9_asSort_45 (by decide) ?_
            refine lv_goto (tgt := 54) hx hb dX9_asSort_46 (by decide) ?_
            obtain rfl := mm_inj1 hf
            exact mm_lret C0 hP hD hS dX9_asSort_54
      · have hf := mm_ip hf c_3
        refine lv_lload_n hx hb dX9_asSort_28 rfl (lv_at hl 1 rfl) ?_
        refine lv_l2i hx hb dX9_asSort_29 rfl ?_
        refine lv_i2l hx hb dX9_asSort_30 rfl ?_
        refine lv_goto (tgt := 54) hx hb dX9_asSort_31 (by decide) ?_
        obtain rfl := mm_inj1 hf
        exact mm_lret C0 hP hD hS dX9_asSort_54
    · have hf := mm_ip hf c_2
      refine lv_lload_n hx hb dX9_asSort_16 rfl (lv_at hl 1 rfl) ?_
      refine lv_l2i hx hb dX9_asSort_17 rfl ?_
      refine lv_i2s hx hb dX9_asSort_18 rfl ?_
      refine lv_i2l hx hb dX9_asSort_19 rfl ?_
      refine lv_goto (tgt := 54) hx hb dX9_asSort_20 (by decide) ?_
      obtain rfl := mm_inj1 hf
      exact mm_lret C0 hP hD hS dX9_asSort_54
  · have hf := mm_ip hf c_1
    refine lv_lload_n hx hb dX9_asSort_4 rfl (lv_at hl 1 rfl) ?_
    refine lv_l2i hx hb dX9_asSort_5 rfl ?_
    refine lv_i2b hx hb dX9_asSort_6 rfl ?_
    refine lv_i2l hx hb dX9_asSort_7 rfl ?_
    refine lv_goto (tgt := 54) hx hb dX9_asSort_8 (by decide) ?_
    obtain rfl := mm_inj1 hf
    exact mm_lret C0 hP hD hS dX9_asSort_54

theorem dX9_put_0 : decode cX9_put 0 = .ok (.aload_n 0, 1) := by decide +kernel
theorem dX9_put_1 : decode cX9_put 1 = .ok (.iload_n 1, 1) := by decide +kernel
theorem dX9_put_2 : decode cX9_put 2 = .ok (.iload_n 2, 1) := by decide +kernel
theorem dX9_put_3 : decode cX9_put 3 = .ok (.invokevirtual 427, 3) := by decide +kernel
theorem dX9_put_6 : decode cX9_put 6 = .ok (.istore 5, 2) := by decide +kernel
theorem dX9_put_8 : decode cX9_put 8 = .ok (.iload 5, 2) := by decide +kernel
theorem dX9_put_10 : decode cX9_put 10 = .ok (.ifCond .ne 27, 3) := by decide +kernel
theorem dX9_put_13 : decode cX9_put 13 = .ok (.aload_n 0, 1) := by decide +kernel
theorem dX9_put_14 : decode cX9_put 14 = .ok (.getfield 94, 3) := by decide +kernel
theorem dX9_put_17 : decode cX9_put 17 = .ok (.bipush 60, 2) := by decide +kernel
theorem dX9_put_19 : decode cX9_put 19 = .ok (.iload_n 1, 1) := by decide +kernel
theorem dX9_put_20 : decode cX9_put 20 = .ok (.imul, 1) := by decide +kernel
theorem dX9_put_21 : decode cX9_put 21 = .ok (.iload_n 2, 1) := by decide +kernel
theorem dX9_put_22 : decode cX9_put 22 = .ok (.iadd, 1) := by decide +kernel
theorem dX9_put_23 : decode cX9_put 23 = .ok (.aload_n 0, 1) := by decide +kernel
theorem dX9_put_24 : decode cX9_put 24 = .ok (.getfield 88, 3) := by decide +kernel
theorem dX9_put_27 : decode cX9_put 27 = .ok (.iload_n 1, 1) := by decide +kernel
theorem dX9_put_28 : decode cX9_put 28 = .ok (.iaload, 1) := by decide +kernel
theorem dX9_put_29 : decode cX9_put 29 = .ok (.bipush 50, 2) := by decide +kernel
theorem dX9_put_31 : decode cX9_put 31 = .ok (.isub, 1) := by decide +kernel
theorem dX9_put_32 : decode cX9_put 32 = .ok (.lload_n 3, 1) := by decide +kernel
theorem dX9_put_33 : decode cX9_put 33 = .ok (.invokestatic 430, 3) := by decide +kernel
theorem dX9_put_36 : decode cX9_put 36 = .ok (.lastore, 1) := by decide +kernel
theorem dX9_put_37 : decode cX9_put 37 = .ok (.iload 5, 2) := by decide +kernel
theorem dX9_put_39 : decode cX9_put 39 = .ok (.ifCond .ne 7, 3) := by decide +kernel
theorem dX9_put_42 : decode cX9_put 42 = .ok (.iconst 1, 1) := by decide +kernel
theorem dX9_put_43 : decode cX9_put 43 = .ok (.goto 5, 3) := by decide +kernel
theorem dX9_put_46 : decode cX9_put 46 = .ok (.iload 5, 2) := by decide +kernel
theorem dX9_put_48 : decode cX9_put 48 = .ok (.ireturn, 1) := by decide +kernel
def fX9_put_37 (N : Nat)  (x5 : Int32) (v_shelf : List Int32) (v_many : List Int32) (v_items : List Int64) : Option (Int32 × List Int64) :=
    if x5 = 0 then
    (some ((1 : Int32), v_items))
    else (some (x5, v_items))

set_option maxHeartbeats 4000000 in
set_option maxRecDepth 100000 in
theorem tX9_put_37 {p : Program} {l : Launch} {e : Env} {s : State} {m : MethodId} {args : Array Value} {below : List Frame} {meth : Method} {c : Code} {D : va_G} {cI cL cS cH : ClassId} {A : Nat → Prop} {d : Nat} {a : Nat → Nat} (hd : 4 ≤ d) (C0 : mm_Cx p s m args meth c RX9 cX9_put 6 (some .int) D (mm_T cI cL cS cH) A) (hA : ∀ q, s.heap.size ≤ q → A q) {v_keptMany : Int32} {v_done : Int32} {v_rowsOf : Int32} {v_columnsOf : Int32} {v_folded : Int32} {v_wronged : Int32} {v_tapeMany : Int32} {v_textMany : Int32} {v_base : Int32} {v_at : Int32} {v_ends : Int32} {v_fault : Int32} {v_opened : Int32} {v_bentMany : Int32} {v_bentWrong : Int32} {v_moreWorn : Int32} {v_planned : Int32} {v_allWrong : Int32} {v_allWorn : Int32} {v_z : Int32} {v_wishedField : Int32} {v_isFound : Bool} {v_bestWrong : Int32} {v_bestWorn : Int32} {v_bestMany : Int32} {v_soughtBy : Int32} {v_sought : Int32} {v_soughtAt : Int32} {v_foundMany : Int32} {v_foundOrder : Int32} {v_isKept : Bool} {v_imageRows : Int32} {v_imageColumns : Int32} {v_imageFolded : Int32} {v_imageWronged : Int32} {v_bodies : Int32} {v_ran : Int32} {v_ownKind : Int32} {v_ownNumber : Int32} {v_limit : List Int32} {v_changeWas : List Int32} {v_changeIs : List Int32} {v_shapeRows : List Int32} {v_shapeColumns : List Int32} {v_row : List Int32} {v_column : List Int32} {v_below : List Int32} {v_face : List Int32} {v_worn : List Int32} {v_lastBend : List Int32} {v_tape : List Int32} {v_text : List Int32} {v_names : List Int32} {v_bends : List Int32} {v_high : List Int32} {v_to : List Int32} {v_pileSize : List Int32} {v_planLine : List Int32} {v_planWay : List Int32} {v_way1 : List Int32} {v_bestWay : List Int32} {v_order1 : List Int32} {v_placeIn : List Int32} {v_bodyKind : List Int32} {v_trace : List Int32} {v_carried : List Int64} {r : Int32} {w_items : List Int64} (N : Nat)  : ∀ (x5 : Int32) (v_shelf : List Int32) (v_many : List Int32) (v_items : List Int64) (H : Heap) (locs : List Loc) (ls : Array Slot), fX9_put_37 N x5 v_shelf v_many v_items = some (r, w_items) → va_P D mm_cl (wd_X9 cI cL cS cH a v_keptMany v_done v_rowsOf v_columnsOf v_folded v_wronged v_tapeMany v_textMany v_base v_at v_ends v_fault v_opened v_bentMany v_bentWrong v_moreWorn v_planned v_allWrong v_allWorn v_z v_wishedField v_isFound v_bestWrong v_bestWorn v_bestMany v_soughtBy v_sought v_soughtAt v_foundMany v_foundOrder v_isKept v_imageRows v_imageColumns v_imageFolded v_imageWronged v_bodies v_ran v_ownKind v_ownNumber v_limit v_changeWas v_changeIs v_shapeRows v_shapeColumns v_row v_column v_below v_face v_worn v_lastBend v_tape v_text v_names v_bends v_high v_to v_pileSize v_planLine v_planWay v_way1 v_bestWay v_order1 v_placeIn v_bodyKind v_trace v_shelf v_many v_items v_carried) H → va_D A (wd_X9 cI cL cS cH a v_keptMany v_done v_rowsOf v_columnsOf v_folded v_wronged v_tapeMany v_textMany v_base v_at v_ends v_fault v_opened v_bentMany v_bentWrong v_moreWorn v_planned v_allWrong v_allWorn v_z v_wishedField v_isFound v_bestWrong v_bestWorn v_bestMany v_soughtBy v_sought v_soughtAt v_foundMany v_foundOrder v_isKept v_imageRows v_imageColumns v_imageFolded v_imageWronged v_bodies v_ran v_ownKind v_ownNumber v_limit v_changeWas v_changeIs v_shapeRows v_shapeColumns v_row v_column v_below v_face v_worn v_lastBend v_tape v_text v_names v_bends v_high v_to v_pileSize v_planLine v_planWay v_way1 v_bestWay v_order1 v_placeIn v_bodyKind v_trace v_shelf v_many v_items v_carried) → va_S A s.heap H locs → lv_has ls 6 [(5, .int x5)] → W p l e (mm_rr d) s m args below meth c H locs 0 0 (mm_Z below D A (wd_X9 cI cL cS cH a v_keptMany v_done v_rowsOf v_columnsOf v_folded v_wronged v_tapeMany v_textMany v_base v_at v_ends v_fault v_opened v_bentMany v_bentWrong v_moreWorn v_planned v_allWrong v_allWorn v_z v_wishedField v_isFound v_bestWrong v_bestWorn v_bestMany v_soughtBy v_sought v_soughtAt v_foundMany v_foundOrder v_isKept v_imageRows v_imageColumns v_imageFolded v_imageWronged v_bodies v_ran v_ownKind v_ownNumber v_limit v_changeWas v_changeIs v_shapeRows v_shapeColumns v_row v_column v_below v_face v_worn v_lastBend v_tape v_text v_names v_bends v_high v_to v_pileSize v_planLine v_planWay v_way1 v_bestWay v_order1 v_placeIn v_bodyKind v_trace v_shelf v_many w_items v_carried) (some (.int r)) args s) (F0 m 37 ls []) := by
  obtain ⟨hx, hb, hml, hown, hts, hr, hlocks, hK, hSt⟩ := id C0
  intro x5 v_shelf v_many v_items H locs ls hf hP hD hS hl
  unfold fX9_put_37 at hf
  refine lv_iload hx hb dX9_put_37 (lv_at hl 0 rfl) ?_
  refine lv_if_ne (tgt := 46) hx hb dX9_put_39 (by decide) (fun c_9 => ?_) (fun c_9 => ?_)
  · have hf := mm_in hf c_9
    refine lv_iload hx hb dX9_put_46 (lv_at hl 0 rfl) ?_
    apply mm_sub2 hf
    exact mm_iret C0 hP hD hS dX9_put_48
  · have hf := mm_ip hf c_9
    refine lv_iconst (v := 1) hx hb dX9_put_42 (by decide) ?_
    refine lv_goto (tgt := 48) hx hb dX9_put_43 (by decide) ?_
    apply mm_sub2 hf
    exact mm_iret C0 hP hD hS dX9_put_48

def fX9_put (N : Nat) (x1 : Int32) (x2 : Int32) (x3 : Int64) (v_shelf : List Int32) (v_many : List Int32) (v_items : List Int64) : Option (Int32 × List Int64) :=
    mm_bd1 (fX9_refusal N x1 x2 v_shelf v_many) (fun (r_1 : Int32) =>
    if r_1 = 0 then
    (mm_ck (mm_inb x1 v_shelf.length) (mm_bd1 (fX9_asSort N ((mm_ig v_shelf x1) - (50 : Int32)) x3) (fun (r_5 : Int64) =>
    mm_ck (mm_inb (((60 : Int32) * x1) + x2) v_items.length) (mm_nm (mm_ls v_items (((60 : Int32) * x1) + x2) r_5) (fun (l_8 : List Int64) =>
    fX9_put_37 N r_1 v_shelf v_many l_8)))))
    else (fX9_put_37 N r_1 v_shelf v_many v_items))

set_option maxHeartbeats 4000000 in
set_option maxRecDepth 100000 in
theorem ctX9_put {l : Launch} {D : va_G} {cI cL cS cH : ClassId} {a : Nat → Nat} {x1 : Int32} {x2 : Int32} {x3 : Int64} {v_keptMany : Int32} {v_done : Int32} {v_rowsOf : Int32} {v_columnsOf : Int32} {v_folded : Int32} {v_wronged : Int32} {v_tapeMany : Int32} {v_textMany : Int32} {v_base : Int32} {v_at : Int32} {v_ends : Int32} {v_fault : Int32} {v_opened : Int32} {v_bentMany : Int32} {v_bentWrong : Int32} {v_moreWorn : Int32} {v_planned : Int32} {v_allWrong : Int32} {v_allWorn : Int32} {v_z : Int32} {v_wishedField : Int32} {v_isFound : Bool} {v_bestWrong : Int32} {v_bestWorn : Int32} {v_bestMany : Int32} {v_soughtBy : Int32} {v_sought : Int32} {v_soughtAt : Int32} {v_foundMany : Int32} {v_foundOrder : Int32} {v_isKept : Bool} {v_imageRows : Int32} {v_imageColumns : Int32} {v_imageFolded : Int32} {v_imageWronged : Int32} {v_bodies : Int32} {v_ran : Int32} {v_ownKind : Int32} {v_ownNumber : Int32} {v_limit : List Int32} {v_changeWas : List Int32} {v_changeIs : List Int32} {v_shapeRows : List Int32} {v_shapeColumns : List Int32} {v_row : List Int32} {v_column : List Int32} {v_below : List Int32} {v_face : List Int32} {v_worn : List Int32} {v_lastBend : List Int32} {v_tape : List Int32} {v_text : List Int32} {v_names : List Int32} {v_bends : List Int32} {v_high : List Int32} {v_to : List Int32} {v_pileSize : List Int32} {v_planLine : List Int32} {v_planWay : List Int32} {v_way1 : List Int32} {v_bestWay : List Int32} {v_order1 : List Int32} {v_placeIn : List Int32} {v_bodyKind : List Int32} {v_trace : List Int32} {v_shelf : List Int32} {v_many : List Int32} {v_items : List Int64} {v_carried : List Int64} {r : Int32} {w_items : List Int64} {N d : Nat} (hd : 4 ≤ d) (hf : fX9_put N x1 x2 x3 v_shelf v_many v_items = some (r, w_items)) : mm_Ct l yX9_put cX9_put 6 (some .int) d D (mm_T cI cL cS cH) [.ref (a 0), .int x1, .int x2, .long x3] (wd_X9 cI cL cS cH a v_keptMany v_done v_rowsOf v_columnsOf v_folded v_wronged v_tapeMany v_textMany v_base v_at v_ends v_fault v_opened v_bentMany v_bentWrong v_moreWorn v_planned v_allWrong v_allWorn v_z v_wishedField v_isFound v_bestWrong v_bestWorn v_bestMany v_soughtBy v_sought v_soughtAt v_foundMany v_foundOrder v_isKept v_imageRows v_imageColumns v_imageFolded v_imageWronged v_bodies v_ran v_ownKind v_ownNumber v_limit v_changeWas v_changeIs v_shapeRows v_shapeColumns v_row v_column v_below v_face v_worn v_lastBend v_tape v_text v_names v_bends v_high v_to v_pileSize v_planLine v_planWay v_way1 v_bestWay v_order1 v_placeIn v_bodyKind v_trace v_shelf v_many v_items v_carried) (wd_X9 cI cL cS cH a v_keptMany v_done v_rowsOf v_columnsOf v_folded v_wronged v_tapeMany v_textMany v_base v_at v_ends v_fault v_opened v_bentMany v_bentWrong v_moreWorn v_planned v_allWrong v_allWorn v_z v_wishedField v_isFound v_bestWrong v_bestWorn v_bestMany v_soughtBy v_sought v_soughtAt v_foundMany v_foundOrder v_isKept v_imageRows v_imageColumns v_imageFolded v_imageWronged v_bodies v_ran v_ownKind v_ownNumber v_limit v_changeWas v_changeIs v_shapeRows v_shapeColumns v_row v_column v_below v_face v_worn v_lastBend v_tape v_text v_names v_bends v_high v_to v_pileSize v_planLine v_planWay v_way1 v_bestWay v_order1 v_placeIn v_bodyKind v_trace v_shelf v_many w_items v_carried) (some (.int r)) := by
  refine mm_of (by decide) (Nat.le_of_ble_eq_true rfl) ?_
  intro p e s m args below meth c A H locs ls C0 hP hD hA hS hl
  have C0 : mm_Cx p s m args meth c RX9 cX9_put 6 (some .int) D (mm_T cI cL cS cH) A := C0
  obtain ⟨hx, hb, hml, hown, hts, hr, hlocks, hK, hSt⟩ := id C0
  have hl : lv_has ls 6 [(0, .ref (a 0)), (1, .int x1), (2, .int x2), (3, .long x3)] := hl
  unfold fX9_put at hf
  refine lv_aload_n hx hb dX9_put_0 rfl (lv_at hl 0 rfl) ?_
  refine lv_iload_n hx hb dX9_put_1 rfl (lv_at hl 1 rfl) ?_
  refine lv_iload_n hx hb dX9_put_2 rfl (lv_at hl 2 rfl) ?_
  obtain ⟨r_1, hc_2, hf⟩ := mm_bd1s hf
  refine mm_callVF (q0 := 0) (ci := 9) (rest := []) C0 lk_X9_427 (ctX9_refusal (a := a) (d := d - 1) (by omega) hc_2) (by omega) rfl hl.1 rfl (mm_cat rfl) dX9_put_3 hP hD hA hS rfl rfl (fun H locs hP hD hS => ?_)
  refine W.eq (g2 := F0 m 6 ls [.int r_1]) rfl ?_
  refine lv_istore (lv' := [(5, .int r_1), (0, .ref (a 0)), (1, .int x1), (2, .int x2), (3, .long x3)]) hx hb dX9_put_6 hl (by decide) rfl (fun ls hl => ?_)
  refine lv_iload hx hb dX9_put_8 (lv_at hl 0 rfl) ?_
  refine lv_if_ne (tgt := 37) hx hb dX9_put_10 (by decide) (fun c_3 => ?_) (fun c_3 => ?_)
  · have hf := mm_in hf c_3
    exact tX9_put_37 hd C0 hA N  _ _ _ _ H locs ls hf hP hD hS (lv_sub hl [0] rfl)
  · have hf := mm_ip hf c_3
    refine lv_aload_n hx hb dX9_put_13 rfl (lv_at hl 1 rfl) ?_
    refine mm_get C0 hP iw_X9 0 rfl rfl 67 (by decide) fl_X9_94 rfl dX9_put_14 ?_
    refine lv_bipush (v := 60) hx hb dX9_put_17 (by decide) ?_
    refine lv_iload_n hx hb dX9_put_19 rfl (lv_at hl 2 rfl) ?_
    refine lv_imul hx hb dX9_put_20 ?_
    refine lv_iload_n hx hb dX9_put_21 rfl (lv_at hl 3 rfl) ?_
    refine lv_iadd hx hb dX9_put_22 ?_
    refine lv_aload_n hx hb dX9_put_23 rfl (lv_at hl 1 rfl) ?_
    refine mm_get C0 hP iw_X9 0 rfl rfl 65 (by decide) fl_X9_88 rfl dX9_put_24 ?_
    refine lv_iload_n hx hb dX9_put_27 rfl (lv_at hl 2 rfl) ?_
    obtain ⟨h_4, hf⟩ := mm_cks hf
    refine mm_iald C0 hP 27 rfl h_4 dX9_put_28 ?_
    refine lv_bipush (v := 50) hx hb dX9_put_29 (by decide) ?_
    refine lv_isub hx hb dX9_put_31 ?_
    refine lv_lload_n hx hb dX9_put_32 rfl (lv_at hl 4 rfl) ?_
    obtain ⟨r_5, hc_6, hf⟩ := mm_bd1s hf
    refine mm_callS0 (rest := [.int (((60 : Int32) * x1) + x2), .ref (a 29)]) C0 lk_X9_430 (ctX9_asSort (d := d - 1) (by omega) hc_6) (by omega) rfl hl.1 rfl (mm_cat rfl) dX9_put_33 hP hD hA hS (fun H locs hP hS => ?_)
    refine W.eq (g2 := F0 m 36 ls [.long r_5, .int (((60 : Int32) * x1) + x2), .ref (a 29)]) rfl ?_
    obtain ⟨h_7, hf⟩ := mm_cks hf
    refine mm_last C0 hP hD hS 29 rfl h_7 dX9_put_36 (w2 := (wd_X9 cI cL cS cH a v_keptMany v_done v_rowsOf v_columnsOf v_folded v_wronged v_tapeMany v_textMany v_base v_at v_ends v_fault v_opened v_bentMany v_bentWrong v_moreWorn v_planned v_allWrong v_allWorn v_z v_wishedField v_isFound v_bestWrong v_bestWorn v_bestMany v_soughtBy v_sought v_soughtAt v_foundMany v_foundOrder v_isKept v_imageRows v_imageColumns v_imageFolded v_imageWronged v_bodies v_ran v_ownKind v_ownNumber v_limit v_changeWas v_changeIs v_shapeRows v_shapeColumns v_row v_column v_below v_face v_worn v_lastBend v_tape v_text v_names v_bends v_high v_to v_pileSize v_planLine v_planWay v_way1 v_bestWay v_order1 v_placeIn v_bodyKind v_trace v_shelf v_many (mm_ls v_items (((60 : Int32) * x1) + x2) r_5) v_carried)) rfl (fun H locs hP hD hS => ?_)
    generalize el_8 : (mm_ls v_items (((60 : Int32) * x1) + x2) r_5) = l_8 at hP hD
    have hf := mm_nms hf el_8.symm
    exact tX9_put_37 hd C0 hA N  _ _ _ _ H locs ls hf hP hD hS (lv_sub hl [0] rfl)

theorem dX9_element_0 : decode cX9_element 0 = .ok (.aload_n 0, 1) := by decide +kernel
theorem dX9_element_1 : decode cX9_element 1 = .ok (.iload_n 1, 1) := by decide +kernel
theorem dX9_element_2 : decode cX9_element 2 = .ok (.iload_n 2, 1) := by decide +kernel
theorem dX9_element_3 : decode cX9_element 3 = .ok (.invokevirtual 427, 3) := by decide +kernel
theorem dX9_element_6 : decode cX9_element 6 = .ok (.ifCond .eq 9, 3) := by decide +kernel
theorem dX9_element_9 : decode cX9_element 9 = .ok (.ldc2_w 436, 3) := by decide +kernel
theorem dX9_element_12 : decode cX9_element 12 = .ok (.goto 14, 3) := by decide +kernel
theorem dX9_element_15 : decode cX9_element 15 = .ok (.aload_n 0, 1) := by decide +kernel
theorem dX9_element_16 : decode cX9_element 16 = .ok (.getfield 94, 3) := by decide +kernel
theorem dX9_element_19 : decode cX9_element 19 = .ok (.bipush 60, 2) := by decide +kernel
theorem dX9_element_21 : decode cX9_element 21 = .ok (.iload_n 1, 1) := by decide +kernel
theorem dX9_element_22 : decode cX9_element 22 = .ok (.imul, 1) := by decide +kernel
theorem dX9_element_23 : decode cX9_element 23 = .ok (.iload_n 2, 1) := by decide +kernel
theorem dX9_element_24 : decode cX9_element 24 = .ok (.iadd, 1) := by decide +kernel
theorem dX9_element_25 : decode cX9_element 25 = .ok (.laload, 1) := by decide +kernel
theorem dX9_element_26 : decode cX9_element 26 = .ok (.lreturn, 1) := by decide +kernel
def fX9_element (N : Nat) (x1 : Int32) (x2 : Int32) (v_shelf : List Int32) (v_many : List Int32) (v_items : List Int64) : Option (Int64) :=
    mm_bd1 (fX9_refusal N x1 x2 v_shelf v_many) (fun (r_1 : Int32) =>
    if r_1 = 0 then
    (mm_ck (mm_inb (((60 : Int32) * x1) + x2) v_items.length) (some ((mm_lg v_items (((60 : Int32) * x1) + x2)))))
    else (some ((-9223372036854775808 : Int64))))

set_option maxHeartbeats 4000000 in
set_option maxRecDepth 100000 in
theorem ctX9_element {l : Launch} {D : va_G} {cI cL cS cH : ClassId} {a : Nat → Nat} {x1 : Int32} {x2 : Int32} {v_keptMany : Int32} {v_done : Int32} {v_rowsOf : Int32} {v_columnsOf : Int32} {v_folded : Int32} {v_wronged : Int32} {v_tapeMany : Int32} {v_textMany : Int32} {v_base : Int32} {v_at : Int32} {v_ends : Int32} {v_fault : Int32} {v_opened : Int32} {v_bentMany : Int32} {v_bentWrong : Int32} {v_moreWorn : Int32} {v_planned : Int32} {v_allWrong : Int32} {v_allWorn : Int32} {v_z : Int32} {v_wishedField : Int32} {v_isFound : Bool} {v_bestWrong : Int32} {v_bestWorn : Int32} {v_bestMany : Int32} {v_soughtBy : Int32} {v_sought : Int32} {v_soughtAt : Int32} {v_foundMany : Int32} {v_foundOrder : Int32} {v_isKept : Bool} {v_imageRows : Int32} {v_imageColumns : Int32} {v_imageFolded : Int32} {v_imageWronged : Int32} {v_bodies : Int32} {v_ran : Int32} {v_ownKind : Int32} {v_ownNumber : Int32} {v_limit : List Int32} {v_changeWas : List Int32} {v_changeIs : List Int32} {v_shapeRows : List Int32} {v_shapeColumns : List Int32} {v_row : List Int32} {v_column : List Int32} {v_below : List Int32} {v_face : List Int32} {v_worn : List Int32} {v_lastBend : List Int32} {v_tape : List Int32} {v_text : List Int32} {v_names : List Int32} {v_bends : List Int32} {v_high : List Int32} {v_to : List Int32} {v_pileSize : List Int32} {v_planLine : List Int32} {v_planWay : List Int32} {v_way1 : List Int32} {v_bestWay : List Int32} {v_order1 : List Int32} {v_placeIn : List Int32} {v_bodyKind : List Int32} {v_trace : List Int32} {v_shelf : List Int32} {v_many : List Int32} {v_items : List Int64} {v_carried : List Int64} {r : Int64} {N d : Nat} (hd : 4 ≤ d) (hf : fX9_element N x1 x2 v_shelf v_many v_items = some r) : mm_Ct l yX9_element cX9_element 3 (some .long) d D (mm_T cI cL cS cH) [.ref (a 0), .int x1, .int x2] (wd_X9 cI cL cS cH a v_keptMany v_done v_rowsOf v_columnsOf v_folded v_wronged v_tapeMany v_textMany v_base v_at v_ends v_fault v_opened v_bentMany v_bentWrong v_moreWorn v_planned v_allWrong v_allWorn v_z v_wishedField v_isFound v_bestWrong v_bestWorn v_bestMany v_soughtBy v_sought v_soughtAt v_foundMany v_foundOrder v_isKept v_imageRows v_imageColumns v_imageFolded v_imageWronged v_bodies v_ran v_ownKind v_ownNumber v_limit v_changeWas v_changeIs v_shapeRows v_shapeColumns v_row v_column v_below v_face v_worn v_lastBend v_tape v_text v_names v_bends v_high v_to v_pileSize v_planLine v_planWay v_way1 v_bestWay v_order1 v_placeIn v_bodyKind v_trace v_shelf v_many v_items v_carried) (wd_X9 cI cL cS cH a v_keptMany v_done v_rowsOf v_columnsOf v_folded v_wronged v_tapeMany v_textMany v_base v_at v_ends v_fault v_opened v_bentMany v_bentWrong v_moreWorn v_planned v_allWrong v_allWorn v_z v_wishedField v_isFound v_bestWrong v_bestWorn v_bestMany v_soughtBy v_sought v_soughtAt v_foundMany v_foundOrder v_isKept v_imageRows v_imageColumns v_imageFolded v_imageWronged v_bodies v_ran v_ownKind v_ownNumber v_limit v_changeWas v_changeIs v_shapeRows v_shapeColumns v_row v_column v_below v_face v_worn v_lastBend v_tape v_text v_names v_bends v_high v_to v_pileSize v_planLine v_planWay v_way1 v_bestWay v_order1 v_placeIn v_bodyKind v_trace v_shelf v_many v_items v_carried) (some (.long r)) := by
  refine mm_of (by decide) (Nat.le_of_ble_eq_true rfl) ?_
  intro p e s m args below meth c A H locs ls C0 hP hD hA hS hl
  have C0 : mm_Cx p s m args meth c RX9 cX9_element 3 (some .long) D (mm_T cI cL cS cH) A := C0
  obtain ⟨hx, hb, hml, hown, hts, hr, hlocks, hK, hSt⟩ := id C0
  have hl : lv_has ls 3 [(0, .ref (a 0)), (1, .int x1), (2, .int x2)] := hl
  unfold fX9_element at hf
  refine lv_aload_n hx hb dX9_element_0 rfl (lv_at hl 0 rfl) ?_
  refine lv_iload_n hx hb dX9_element_1 rfl (lv_at hl 1 rfl) ?_
  refine lv_iload_n hx hb dX9_element_2 rfl (lv_at hl 2 rfl) ?_
  obtain ⟨r_1, hc_2, hf⟩ := mm_bd1s hf
  refine mm_callVF (q0 := 0) (ci := 9) (rest := []) C0 lk_X9_427 (ctX9_refusal (a := a) (d := d - 1) (by omega) hc_2) (by omega) rfl hl.1 rfl (mm_cat rfl) dX9_element_3 hP hD hA hS rfl rfl (fun H locs hP hD hS => ?_)
  refine W.eq (g2 := F0 m 6 ls [.int r_1]) rfl ?_
  refine lv_if_eq (tgt := 15) hx hb dX9_element_6 (by decide) (fun c_3 => ?_) (fun c_3 => ?_)
  · have hf := mm_ip hf c_3
    refine lv_aload_n hx hb dX9_element_15 rfl (lv_at hl 0 rfl) ?_
    refine mm_get C0 hP iw_X9 0 rfl rfl 67 (by decide) fl_X9_94 rfl dX9_element_16 ?_
    refine lv_bipush (v := 60) hx hb dX9_element_19 (by decide) ?_
    refine lv_iload_n hx hb dX9_element_21 rfl (lv_at hl 1 rfl) ?_
    refine lv_imul hx hb dX9_element_22 ?_
    refine lv_iload_n hx hb dX9_element_23 rfl (lv_at hl 2 rfl) ?_
    refine lv_iadd hx hb dX9_element_24 ?_
    obtain ⟨h_4, hf⟩ := mm_cks hf
    refine mm_lald C0 hP 29 rfl h_4 dX9_element_25 ?_
    obtain rfl := mm_inj1 hf
    exact mm_lret C0 hP hD hS dX9_element_26
  · have hf := mm_in hf c_3
    refine lv_ldc2 hx hb hown (hts _ kc_X9_436) dX9_element_9 ?_
    refine lv_goto (tgt := 26) hx hb dX9_element_12 (by decide) ?_
    obtain rfl := mm_inj1 hf
    exact mm_lret C0 hP hD hS dX9_element_26

theorem dX9_shift_0 : decode cX9_shift 0 = .ok (.iload_n 1, 1) := by decide +kernel
theorem dX9_shift_1 : decode cX9_shift 1 = .ok (.invokestatic 274, 3) := by decide +kernel
theorem dX9_shift_4 : decode cX9_shift 4 = .ok (.ifCond .eq 10, 3) := by decide +kernel
theorem dX9_shift_7 : decode cX9_shift 7 = .ok (.iload_n 3, 1) := by decide +kernel
theorem dX9_shift_8 : decode cX9_shift 8 = .ok (.invokestatic 274, 3) := by decide +kernel
theorem dX9_shift_11 : decode cX9_shift 11 = .ok (.ifCond .ne 5, 3) := by decide +kernel
theorem dX9_shift_14 : decode cX9_shift 14 = .ok (.iconst (-1), 1) := by decide +kernel
theorem dX9_shift_15 : decode cX9_shift 15 = .ok (.ireturn, 1) := by decide +kernel
theorem dX9_shift_16 : decode cX9_shift 16 = .ok (.aload_n 0, 1) := by decide +kernel
theorem dX9_shift_17 : decode cX9_shift 17 = .ok (.getfield 88, 3) := by decide +kernel
theorem dX9_shift_20 : decode cX9_shift 20 = .ok (.iload_n 1, 1) := by decide +kernel
theorem dX9_shift_21 : decode cX9_shift 21 = .ok (.iaload, 1) := by decide +kernel
theorem dX9_shift_22 : decode cX9_shift 22 = .ok (.ifCond .lt 12, 3) := by decide +kernel
theorem dX9_shift_25 : decode cX9_shift 25 = .ok (.aload_n 0, 1) := by decide +kernel
theorem dX9_shift_26 : decode cX9_shift 26 = .ok (.getfield 88, 3) := by decide +kernel
theorem dX9_shift_29 : decode cX9_shift 29 = .ok (.iload_n 3, 1) := by decide +kernel
theorem dX9_shift_30 : decode cX9_shift 30 = .ok (.iaload, 1) := by decide +kernel
theorem dX9_shift_31 : decode cX9_shift 31 = .ok (.ifCond .ge 6, 3) := by decide +kernel
theorem dX9_shift_34 : decode cX9_shift 34 = .ok (.bipush (-11), 2) := by decide +kernel
theorem dX9_shift_36 : decode cX9_shift 36 = .ok (.ireturn, 1) := by decide +kernel
theorem dX9_shift_37 : decode cX9_shift 37 = .ok (.aload_n 0, 1) := by decide +kernel
theorem dX9_shift_38 : decode cX9_shift 38 = .ok (.getfield 88, 3) := by decide +kernel
theorem dX9_shift_41 : decode cX9_shift 41 = .ok (.iload_n 1, 1) := by decide +kernel
theorem dX9_shift_42 : decode cX9_shift 42 = .ok (.iaload, 1) := by decide +kernel
theorem dX9_shift_43 : decode cX9_shift 43 = .ok (.bipush 50, 2) := by decide +kernel
theorem dX9_shift_45 : decode cX9_shift 45 = .ok (.if_icmp .lt 18, 3) := by decide +kernel
theorem dX9_shift_48 : decode cX9_shift 48 = .ok (.aload_n 0, 1) := by decide +kernel
theorem dX9_shift_49 : decode cX9_shift 49 = .ok (.getfield 88, 3) := by decide +kernel
theorem dX9_shift_52 : decode cX9_shift 52 = .ok (.iload_n 1, 1) := by decide +kernel
theorem dX9_shift_53 : decode cX9_shift 53 = .ok (.iaload, 1) := by decide +kernel
theorem dX9_shift_54 : decode cX9_shift 54 = .ok (.aload_n 0, 1) := by decide +kernel
theorem dX9_shift_55 : decode cX9_shift 55 = .ok (.getfield 88, 3) := by decide +kernel
theorem dX9_shift_58 : decode cX9_shift 58 = .ok (.iload_n 3, 1) := by decide +kernel
theorem dX9_shift_59 : decode cX9_shift 59 = .ok (.iaload, 1) := by decide +kernel
theorem dX9_shift_60 : decode cX9_shift 60 = .ok (.if_icmp .eq 6, 3) := by decide +kernel
theorem dX9_shift_63 : decode cX9_shift 63 = .ok (.bipush (-12), 2) := by decide +kernel
theorem dX9_shift_65 : decode cX9_shift 65 = .ok (.ireturn, 1) := by decide +kernel
theorem dX9_shift_66 : decode cX9_shift 66 = .ok (.iload 5, 2) := by decide +kernel
theorem dX9_shift_68 : decode cX9_shift 68 = .ok (.ifCond .lt 39, 3) := by decide +kernel
theorem dX9_shift_71 : decode cX9_shift 71 = .ok (.iload_n 2, 1) := by decide +kernel
theorem dX9_shift_72 : decode cX9_shift 72 = .ok (.ifCond .lt 35, 3) := by decide +kernel
theorem dX9_shift_75 : decode cX9_shift 75 = .ok (.iload 4, 2) := by decide +kernel
theorem dX9_shift_77 : decode cX9_shift 77 = .ok (.ifCond .lt 30, 3) := by decide +kernel
theorem dX9_shift_80 : decode cX9_shift 80 = .ok (.iload_n 2, 1) := by decide +kernel
theorem dX9_shift_81 : decode cX9_shift 81 = .ok (.aload_n 0, 1) := by decide +kernel
theorem dX9_shift_82 : decode cX9_shift 82 = .ok (.getfield 91, 3) := by decide +kernel
theorem dX9_shift_85 : decode cX9_shift 85 = .ok (.iload_n 1, 1) := by decide +kernel
theorem dX9_shift_86 : decode cX9_shift 86 = .ok (.iaload, 1) := by decide +kernel
theorem dX9_shift_87 : decode cX9_shift 87 = .ok (.iload 5, 2) := by decide +kernel
theorem dX9_shift_89 : decode cX9_shift 89 = .ok (.isub, 1) := by decide +kernel
theorem dX9_shift_90 : decode cX9_shift 90 = .ok (.if_icmp .gt 17, 3) := by decide +kernel
theorem dX9_shift_93 : decode cX9_shift 93 = .ok (.iload 4, 2) := by decide +kernel
theorem dX9_shift_95 : decode cX9_shift 95 = .ok (.aload_n 0, 1) := by decide +kernel
theorem dX9_shift_96 : decode cX9_shift 96 = .ok (.getfield 91, 3) := by decide +kernel
theorem dX9_shift_99 : decode cX9_shift 99 = .ok (.iload_n 3, 1) := by decide +kernel
theorem dX9_shift_100 : decode cX9_shift 100 = .ok (.iaload, 1) := by decide +kernel
theorem dX9_shift_101 : decode cX9_shift 101 = .ok (.iload 5, 2) := by decide +kernel
theorem dX9_shift_103 : decode cX9_shift 103 = .ok (.isub, 1) := by decide +kernel
theorem dX9_shift_104 : decode cX9_shift 104 = .ok (.if_icmp .le 6, 3) := by decide +kernel
theorem dX9_shift_107 : decode cX9_shift 107 = .ok (.bipush (-13), 2) := by decide +kernel
theorem dX9_shift_109 : decode cX9_shift 109 = .ok (.ireturn, 1) := by decide +kernel
theorem dX9_shift_110 : decode cX9_shift 110 = .ok (.iconst 0, 1) := by decide +kernel
theorem dX9_shift_111 : decode cX9_shift 111 = .ok (.istore 6, 2) := by decide +kernel
theorem dX9_shift_113 : decode cX9_shift 113 = .ok (.iload 6, 2) := by decide +kernel
theorem dX9_shift_115 : decode cX9_shift 115 = .ok (.iload 5, 2) := by decide +kernel
theorem dX9_shift_117 : decode cX9_shift 117 = .ok (.if_icmp .ge 30, 3) := by decide +kernel
theorem dX9_shift_120 : decode cX9_shift 120 = .ok (.aload_n 0, 1) := by decide +kernel
theorem dX9_shift_121 : decode cX9_shift 121 = .ok (.getfield 98, 3) := by decide +kernel
theorem dX9_shift_124 : decode cX9_shift 124 = .ok (.iload 6, 2) := by decide +kernel
theorem dX9_shift_126 : decode cX9_shift 126 = .ok (.aload_n 0, 1) := by decide +kernel
theorem dX9_shift_127 : decode cX9_shift 127 = .ok (.getfield 94, 3) := by decide +kernel
theorem dX9_shift_130 : decode cX9_shift 130 = .ok (.bipush 60, 2) := by decide +kernel
theorem dX9_shift_132 : decode cX9_shift 132 = .ok (.iload_n 1, 1) := by decide +kernel
theorem dX9_shift_133 : decode cX9_shift 133 = .ok (.imul, 1) := by decide +kernel
theorem dX9_shift_134 : decode cX9_shift 134 = .ok (.iload_n 2, 1) := by decide +kernel
theorem dX9_shift_135 : decode cX9_shift 135 = .ok (.iadd, 1) := by decide +kernel
theorem dX9_shift_136 : decode cX9_shift 136 = .ok (.iload 6, 2) := by decide +kernel
theorem dX9_shift_138 : decode cX9_shift 138 = .ok (.iadd, 1) := by decide +kernel
theorem dX9_shift_139 : decode cX9_shift 139 = .ok (.laload, 1) := by decide +kernel
theorem dX9_shift_140 : decode cX9_shift 140 = .ok (.lastore, 1) := by decide +kernel
theorem dX9_shift_141 : decode cX9_shift 141 = .ok (.iinc 6 1, 3) := by decide +kernel
theorem dX9_shift_144 : decode cX9_shift 144 = .ok (.goto (-31), 3) := by decide +kernel
theorem dX9_shift_147 : decode cX9_shift 147 = .ok (.iconst 0, 1) := by decide +kernel
theorem dX9_shift_148 : decode cX9_shift 148 = .ok (.istore 6, 2) := by decide +kernel
theorem dX9_shift_150 : decode cX9_shift 150 = .ok (.iload 6, 2) := by decide +kernel
theorem dX9_shift_152 : decode cX9_shift 152 = .ok (.iload 5, 2) := by decide +kernel
theorem dX9_shift_154 : decode cX9_shift 154 = .ok (.if_icmp .ge 31, 3) := by decide +kernel
theorem dX9_shift_157 : decode cX9_shift 157 = .ok (.aload_n 0, 1) := by decide +kernel
theorem dX9_shift_158 : decode cX9_shift 158 = .ok (.getfield 94, 3) := by decide +kernel
theorem dX9_shift_161 : decode cX9_shift 161 = .ok (.bipush 60, 2) := by decide +kernel
theorem dX9_shift_163 : decode cX9_shift 163 = .ok (.iload_n 3, 1) := by decide +kernel
theorem dX9_shift_164 : decode cX9_shift 164 = .ok (.imul, 1) := by decide +kernel
theorem dX9_shift_165 : decode cX9_shift 165 = .ok (.iload 4, 2) := by decide +kernel
theorem dX9_shift_167 : decode cX9_shift 167 = .ok (.iadd, 1) := by decide +kernel
theorem dX9_shift_168 : decode cX9_shift 168 = .ok (.iload 6, 2) := by decide +kernel
theorem dX9_shift_170 : decode cX9_shift 170 = .ok (.iadd, 1) := by decide +kernel
theorem dX9_shift_171 : decode cX9_shift 171 = .ok (.aload_n 0, 1) := by decide +kernel
theorem dX9_shift_172 : decode cX9_shift 172 = .ok (.getfield 98, 3) := by decide +kernel
theorem dX9_shift_175 : decode cX9_shift 175 = .ok (.iload 6, 2) := by decide +kernel
theorem dX9_shift_177 : decode cX9_shift 177 = .ok (.laload, 1) := by decide +kernel
theorem dX9_shift_178 : decode cX9_shift 178 = .ok (.lastore, 1) := by decide +kernel
theorem dX9_shift_179 : decode cX9_shift 179 = .ok (.iinc 6 1, 3) := by decide +kernel
theorem dX9_shift_182 : decode cX9_shift 182 = .ok (.goto (-32), 3) := by decide +kernel
theorem dX9_shift_185 : decode cX9_shift 185 = .ok (.iload 5, 2) := by decide +kernel
theorem dX9_shift_187 : decode cX9_shift 187 = .ok (.ireturn, 1) := by decide +kernel
def fX9_shift_150 (N : Nat)  : Nat → Int32 → Int32 → Int32 → Int32 → List Int32 → List Int32 → List Int64 → List Int64 → Option (Int32 × List Int64 × List Int64)
  | 0 => fun _ _ _ _ _ _ _ _ => none
  | n + 1 => fun x3 x4 x5 x6 v_shelf v_many v_items v_carried =>
    if x5 ≤ x6 then
    (some (x5, v_items, v_carried))
    else (mm_ck (mm_inb x6 v_carried.length) (mm_nm ((mm_lg v_carried x6)) (fun (y_31 : Int64) =>
    mm_ck (mm_inb ((((60 : Int32) * x3) + x4) + x6) v_items.length) (mm_nm (mm_ls v_items ((((60 : Int32) * x3) + x4) + x6) y_31) (fun (l_33 : List Int64) =>
    mm_nm (x6 + (1 : Int32)) (fun (y_34 : Int32) =>
    fX9_shift_150 N n x3 x4 x5 y_34 v_shelf v_many l_33 v_carried))))))

set_option maxHeartbeats 4000000 in
set_option maxRecDepth 100000 in
theorem tX9_shift_150 {p : Program} {l : Launch} {e : Env} {s : State} {m : MethodId} {args : Array Value} {below : List Frame} {meth : Method} {c : Code} {D : va_G} {cI cL cS cH : ClassId} {A : Nat → Prop} {d : Nat} {a : Nat → Nat} (hd : 3 ≤ d) (C0 : mm_Cx p s m args meth c RX9 cX9_shift 7 (some .int) D (mm_T cI cL cS cH) A) (hA : ∀ q, s.heap.size ≤ q → A q) {v_keptMany : Int32} {v_done : Int32} {v_rowsOf : Int32} {v_columnsOf : Int32} {v_folded : Int32} {v_wronged : Int32} {v_tapeMany : Int32} {v_textMany : Int32} {v_base : Int32} {v_at : Int32} {v_ends : Int32} {v_fault : Int32} {v_opened : Int32} {v_bentMany : Int32} {v_bentWrong : Int32} {v_moreWorn : Int32} {v_planned : Int32} {v_allWrong : Int32} {v_allWorn : Int32} {v_z : Int32} {v_wishedField : Int32} {v_isFound : Bool} {v_bestWrong : Int32} {v_bestWorn : Int32} {v_bestMany : Int32} {v_soughtBy : Int32} {v_sought : Int32} {v_soughtAt : Int32} {v_foundMany : Int32} {v_foundOrder : Int32} {v_isKept : Bool} {v_imageRows : Int32} {v_imageColumns : Int32} {v_imageFolded : Int32} {v_imageWronged : Int32} {v_bodies : Int32} {v_ran : Int32} {v_ownKind : Int32} {v_ownNumber : Int32} {v_limit : List Int32} {v_changeWas : List Int32} {v_changeIs : List Int32} {v_shapeRows : List Int32} {v_shapeColumns : List Int32} {v_row : List Int32} {v_column : List Int32} {v_below : List Int32} {v_face : List Int32} {v_worn : List Int32} {v_lastBend : List Int32} {v_tape : List Int32} {v_text : List Int32} {v_names : List Int32} {v_bends : List Int32} {v_high : List Int32} {v_to : List Int32} {v_pileSize : List Int32} {v_planLine : List Int32} {v_planWay : List Int32} {v_way1 : List Int32} {v_bestWay : List Int32} {v_order1 : List Int32} {v_placeIn : List Int32} {v_bodyKind : List Int32} {v_trace : List Int32} {r : Int32} {w_items : List Int64} {w_carried : List Int64} (N : Nat)  : ∀ (n : Nat), ∀ (x3 : Int32) (x4 : Int32) (x5 : Int32) (x6 : Int32) (v_shelf : List Int32) (v_many : List Int32) (v_items : List Int64) (v_carried : List Int64) (H : Heap) (locs : List Loc) (ls : Array Slot), fX9_shift_150 N n x3 x4 x5 x6 v_shelf v_many v_items v_carried = some (r, w_items, w_carried) → va_P D mm_cl (wd_X9 cI cL cS cH a v_keptMany v_done v_rowsOf v_columnsOf v_folded v_wronged v_tapeMany v_textMany v_base v_at v_ends v_fault v_opened v_bentMany v_bentWrong v_moreWorn v_planned v_allWrong v_allWorn v_z v_wishedField v_isFound v_bestWrong v_bestWorn v_bestMany v_soughtBy v_sought v_soughtAt v_foundMany v_foundOrder v_isKept v_imageRows v_imageColumns v_imageFolded v_imageWronged v_bodies v_ran v_ownKind v_ownNumber v_limit v_changeWas v_changeIs v_shapeRows v_shapeColumns v_row v_column v_below v_face v_worn v_lastBend v_tape v_text v_names v_bends v_high v_to v_pileSize v_planLine v_planWay v_way1 v_bestWay v_order1 v_placeIn v_bodyKind v_trace v_shelf v_many v_items v_carried) H → va_D A (wd_X9 cI cL cS cH a v_keptMany v_done v_rowsOf v_columnsOf v_folded v_wronged v_tapeMany v_textMany v_base v_at v_ends v_fault v_opened v_bentMany v_bentWrong v_moreWorn v_planned v_allWrong v_allWorn v_z v_wishedField v_isFound v_bestWrong v_bestWorn v_bestMany v_soughtBy v_sought v_soughtAt v_foundMany v_foundOrder v_isKept v_imageRows v_imageColumns v_imageFolded v_imageWronged v_bodies v_ran v_ownKind v_ownNumber v_limit v_changeWas v_changeIs v_shapeRows v_shapeColumns v_row v_column v_below v_face v_worn v_lastBend v_tape v_text v_names v_bends v_high v_to v_pileSize v_planLine v_planWay v_way1 v_bestWay v_order1 v_placeIn v_bodyKind v_trace v_shelf v_many v_items v_carried) → va_S A s.heap H locs → lv_has ls 7 [(0, .ref (a 0)), (3, .int x3), (4, .int x4), (5, .int x5), (6, .int x6)] → W p l e (mm_rr d) s m args below meth c H locs 0 0 (mm_Z below D A (wd_X9 cI cL cS cH a v_keptMany v_done v_rowsOf v_columnsOf v_folded v_wronged v_tapeMany v_textMany v_base v_at v_ends v_fault v_opened v_bentMany v_bentWrong v_moreWorn v_planned v_allWrong v_allWorn v_z v_wishedField v_isFound v_bestWrong v_bestWorn v_bestMany v_soughtBy v_sought v_soughtAt v_foundMany v_foundOrder v_isKept v_imageRows v_imageColumns v_imageFolded v_imageWronged v_bodies v_ran v_ownKind v_ownNumber v_limit v_changeWas v_changeIs v_shapeRows v_shapeColumns v_row v_column v_below v_face v_worn v_lastBend v_tape v_text v_names v_bends v_high v_to v_pileSize v_planLine v_planWay v_way1 v_bestWay v_order1 v_placeIn v_bodyKind v_trace v_shelf v_many w_items w_carried) (some (.int r)) args s) (F0 m 150 ls []) := by
  obtain ⟨hx, hb, hml, hown, hts, hr, hlocks, hK, hSt⟩ := id C0
  intro n
  induction n with
  | zero =>
    intro x3 x4 x5 x6 v_shelf v_many v_items v_carried H locs ls hf
    cases (show none = some _ from hf)
  | succ n ih =>
    intro x3 x4 x5 x6 v_shelf v_many v_items v_carried H locs ls hf hP hD hS hl
    unfold fX9_shift_150 at hf
    refine lv_iload hx hb dX9_shift_150 (lv_at hl 4 rfl) ?_
    refine lv_iload hx hb dX9_shift_152 (lv_at hl 3 rfl) ?_
    refine lv_icmp_ge (tgt := 185) hx hb dX9_shift_154 (by decide) (fun c_29 => ?_) (fun c_29 => ?_)
    · have hf := mm_ip hf c_29
      refine lv_iload hx hb dX9_shift_185 (lv_at hl 3 rfl) ?_
      apply mm_sub3 hf
      exact mm_iret C0 hP hD hS dX9_shift_187
    · have hf := mm_in hf c_29
      refine lv_aload_n hx hb dX9_shift_157 rfl (lv_at hl 0 rfl) ?_
      refine mm_get C0 hP iw_X9 0 rfl rfl 67 (by decide) fl_X9_94 rfl dX9_shift_158 ?_
      refine lv_bipush (v := 60) hx hb dX9_shift_161 (by decide) ?_
      refine lv_iload_n hx hb dX9_shift_163 rfl (lv_at hl 1 rfl) ?_
      refine lv_imul hx hb dX9_shift_164 ?_
      refine lv_iload hx hb dX9_shift_165 (lv_at hl 2 rfl) ?_
      refine lv_iadd hx hb dX9_shift_167 ?_
      refine lv_iload hx hb dX9_shift_168 (lv_at hl 4 rfl) ?_
      refine lv_iadd hx hb dX9_shift_170 ?_
      refine lv_aload_n hx hb dX9_shift_171 rfl (lv_at hl 0 rfl) ?_
      refine mm_get C0 hP iw_X9 0 rfl rfl 68 (by decide) fl_X9_98 rfl dX9_shift_172 ?_
      refine lv_iload hx hb dX9_shift_175 (lv_at hl 4 rfl) ?_
      obtain ⟨h_30, hf⟩ := mm_cks hf
      refine mm_lald C0 hP 30 rfl h_30 dX9_shift_177 ?_
      refine lv_topl (fun y_31 ey_31 => ?_)
      have hf := mm_nms hf ey_31
      obtain ⟨h_32, hf⟩ := mm_cks hf
      refine mm_last C0 hP hD hS 29 rfl h_32 dX9_shift_178 (w2 := (wd_X9 cI cL cS cH a v_keptMany v_done v_rowsOf v_columnsOf v_folded v_wronged v_tapeMany v_textMany v_base v_at v_ends v_fault v_opened v_bentMany v_bentWrong v_moreWorn v_planned v_allWrong v_allWorn v_z v_wishedField v_isFound v_bestWrong v_bestWorn v_bestMany v_soughtBy v_sought v_soughtAt v_foundMany v_foundOrder v_isKept v_imageRows v_imageColumns v_imageFolded v_imageWronged v_bodies v_ran v_ownKind v_ownNumber v_limit v_changeWas v_changeIs v_shapeRows v_shapeColumns v_row v_column v_below v_face v_worn v_lastBend v_tape v_text v_names v_bends v_high v_to v_pileSize v_planLine v_planWay v_way1 v_bestWay v_order1 v_placeIn v_bodyKind v_trace v_shelf v_many (mm_ls v_items ((((60 : Int32) * x3) + x4) + x6) y_31) v_carried)) rfl (fun H locs hP hD hS => ?_)
      generalize el_33 : (mm_ls v_items ((((60 : Int32) * x3) + x4) + x6) y_31) = l_33 at hP hD
      have hf := mm_nms hf el_33.symm
      obtain ⟨y_34, ey_34⟩ : ∃ z : Int32, z = x6 + (1 : Int32) := ⟨_, rfl⟩
      have hf := mm_nms hf ey_34
      refine lv_iinc (v := y_34) (lv' := [(6, .int y_34), (0, .ref (a 0)), (3, .int x3), (4, .int x4), (5, .int x5)]) hx hb dX9_shift_179 hl (k := 4) rfl (by rw [ey_34]; rfl) (by decide) rfl (fun ls hl => ?_)
      refine lv_goto (tgt := 150) hx hb dX9_shift_182 (by decide) ?_
      exact ih _ _ _ _ _ _ _ _ H locs ls hf hP hD hS (lv_sub hl [1, 2, 3, 4, 0] rfl)

def fX9_shift_113 (N : Nat)  : Nat → Int32 → Int32 → Int32 → Int32 → Int32 → Int32 → List Int32 → List Int32 → List Int64 → List Int64 → Option (Int32 × List Int64 × List Int64)
  | 0 => fun _ _ _ _ _ _ _ _ _ _ => none
  | n + 1 => fun x1 x2 x3 x4 x5 x6 v_shelf v_many v_items v_carried =>
    if x5 ≤ x6 then
    (fX9_shift_150 N N x3 x4 x5 (0 : Int32) v_shelf v_many v_items v_carried)
    else (mm_ck (mm_inb ((((60 : Int32) * x1) + x2) + x6) v_items.length) (mm_nm ((mm_lg v_items ((((60 : Int32) * x1) + x2) + x6))) (fun (y_25 : Int64) =>
    mm_ck (mm_inb x6 v_carried.length) (mm_nm (mm_ls v_carried x6 y_25) (fun (l_27 : List Int64) =>
    mm_nm (x6 + (1 : Int32)) (fun (y_28 : Int32) =>
    fX9_shift_113 N n x1 x2 x3 x4 x5 y_28 v_shelf v_many v_items l_27))))))

set_option maxHeartbeats 4000000 in
set_option maxRecDepth 100000 in
theorem tX9_shift_113 {p : Program} {l : Launch} {e : Env} {s : State} {m : MethodId} {args : Array Value} {below : List Frame} {meth : Method} {c : Code} {D : va_G} {cI cL cS cH : ClassId} {A : Nat → Prop} {d : Nat} {a : Nat → Nat} (hd : 3 ≤ d) (C0 : mm_Cx p s m args meth c RX9 cX9_shift 7 (some .int) D (mm_T cI cL cS cH) A) (hA : ∀ q, s.heap.size ≤ q → A q) {v_keptMany : Int32} {v_done : Int32} {v_rowsOf : Int32} {v_columnsOf : Int32} {v_folded : Int32} {v_wronged : Int32} {v_tapeMany : Int32} {v_textMany : Int32} {v_base : Int32} {v_at : Int32} {v_ends : Int32} {v_fault : Int32} {v_opened : Int32} {v_bentMany : Int32} {v_bentWrong : Int32} {v_moreWorn : Int32} {v_planned : Int32} {v_allWrong : Int32} {v_allWorn : Int32} {v_z : Int32} {v_wishedField : Int32} {v_isFound : Bool} {v_bestWrong : Int32} {v_bestWorn : Int32} {v_bestMany : Int32} {v_soughtBy : Int32} {v_sought : Int32} {v_soughtAt : Int32} {v_foundMany : Int32} {v_foundOrder : Int32} {v_isKept : Bool} {v_imageRows : Int32} {v_imageColumns : Int32} {v_imageFolded : Int32} {v_imageWronged : Int32} {v_bodies : Int32} {v_ran : Int32} {v_ownKind : Int32} {v_ownNumber : Int32} {v_limit : List Int32} {v_changeWas : List Int32} {v_changeIs : List Int32} {v_shapeRows : List Int32} {v_shapeColumns : List Int32} {v_row : List Int32} {v_column : List Int32} {v_below : List Int32} {v_face : List Int32} {v_worn : List Int32} {v_lastBend : List Int32} {v_tape : List Int32} {v_text : List Int32} {v_names : List Int32} {v_bends : List Int32} {v_high : List Int32} {v_to : List Int32} {v_pileSize : List Int32} {v_planLine : List Int32} {v_planWay : List Int32} {v_way1 : List Int32} {v_bestWay : List Int32} {v_order1 : List Int32} {v_placeIn : List Int32} {v_bodyKind : List Int32} {v_trace : List Int32} {r : Int32} {w_items : List Int64} {w_carried : List Int64} (N : Nat)  : ∀ (n : Nat), ∀ (x1 : Int32) (x2 : Int32) (x3 : Int32) (x4 : Int32) (x5 : Int32) (x6 : Int32) (v_shelf : List Int32) (v_many : List Int32) (v_items : List Int64) (v_carried : List Int64) (H : Heap) (locs : List Loc) (ls : Array Slot), fX9_shift_113 N n x1 x2 x3 x4 x5 x6 v_shelf v_many v_items v_carried = some (r, w_items, w_carried) → va_P D mm_cl (wd_X9 cI cL cS cH a v_keptMany v_done v_rowsOf v_columnsOf v_folded v_wronged v_tapeMany v_textMany v_base v_at v_ends v_fault v_opened v_bentMany v_bentWrong v_moreWorn v_planned v_allWrong v_allWorn v_z v_wishedField v_isFound v_bestWrong v_bestWorn v_bestMany v_soughtBy v_sought v_soughtAt v_foundMany v_foundOrder v_isKept v_imageRows v_imageColumns v_imageFolded v_imageWronged v_bodies v_ran v_ownKind v_ownNumber v_limit v_changeWas v_changeIs v_shapeRows v_shapeColumns v_row v_column v_below v_face v_worn v_lastBend v_tape v_text v_names v_bends v_high v_to v_pileSize v_planLine v_planWay v_way1 v_bestWay v_order1 v_placeIn v_bodyKind v_trace v_shelf v_many v_items v_carried) H → va_D A (wd_X9 cI cL cS cH a v_keptMany v_done v_rowsOf v_columnsOf v_folded v_wronged v_tapeMany v_textMany v_base v_at v_ends v_fault v_opened v_bentMany v_bentWrong v_moreWorn v_planned v_allWrong v_allWorn v_z v_wishedField v_isFound v_bestWrong v_bestWorn v_bestMany v_soughtBy v_sought v_soughtAt v_foundMany v_foundOrder v_isKept v_imageRows v_imageColumns v_imageFolded v_imageWronged v_bodies v_ran v_ownKind v_ownNumber v_limit v_changeWas v_changeIs v_shapeRows v_shapeColumns v_row v_column v_below v_face v_worn v_lastBend v_tape v_text v_names v_bends v_high v_to v_pileSize v_planLine v_planWay v_way1 v_bestWay v_order1 v_placeIn v_bodyKind v_trace v_shelf v_many v_items v_carried) → va_S A s.heap H locs → lv_has ls 7 [(0, .ref (a 0)), (1, .int x1), (2, .int x2), (3, .int x3), (4, .int x4), (5, .int x5), (6, .int x6)] → W p l e (mm_rr d) s m args below meth c H locs 0 0 (mm_Z below D A (wd_X9 cI cL cS cH a v_keptMany v_done v_rowsOf v_columnsOf v_folded v_wronged v_tapeMany v_textMany v_base v_at v_ends v_fault v_opened v_bentMany v_bentWrong v_moreWorn v_planned v_allWrong v_allWorn v_z v_wishedField v_isFound v_bestWrong v_bestWorn v_bestMany v_soughtBy v_sought v_soughtAt v_foundMany v_foundOrder v_isKept v_imageRows v_imageColumns v_imageFolded v_imageWronged v_bodies v_ran v_ownKind v_ownNumber v_limit v_changeWas v_changeIs v_shapeRows v_shapeColumns v_row v_column v_below v_face v_worn v_lastBend v_tape v_text v_names v_bends v_high v_to v_pileSize v_planLine v_planWay v_way1 v_bestWay v_order1 v_placeIn v_bodyKind v_trace v_shelf v_many w_items w_carried) (some (.int r)) args s) (F0 m 113 ls []) := by
  obtain ⟨hx, hb, hml, hown, hts, hr, hlocks, hK, hSt⟩ := id C0
  intro n
  induction n with
  | zero =>
    intro x1 x2 x3 x4 x5 x6 v_shelf v_many v_items v_carried H locs ls hf
    cases (show none = some _ from hf)
  | succ n ih =>
    intro x1 x2 x3 x4 x5 x6 v_shelf v_many v_items v_carried H locs ls hf hP hD hS hl
    unfold fX9_shift_113 at hf
    refine lv_iload hx hb dX9_shift_113 (lv_at hl 6 rfl) ?_
    refine lv_iload hx hb dX9_shift_115 (lv_at hl 5 rfl) ?_
    refine lv_icmp_ge (tgt := 147) hx hb dX9_shift_117 (by decide) (fun c_23 => ?_) (fun c_23 => ?_)
    · have hf := mm_ip hf c_23
      refine lv_iconst (v := 0) hx hb dX9_shift_147 (by decide) ?_
      refine lv_istore (lv' := [(6, .int (0 : Int32)), (0, .ref (a 0)), (1, .int x1), (2, .int x2), (3, .int x3), (4, .int x4), (5, .int x5)]) hx hb dX9_shift_148 hl (by decide) rfl (fun ls hl => ?_)
      exact tX9_shift_150 hd C0 hA N  N _ _ _ _ _ _ _ _ H locs ls hf hP hD hS (lv_sub hl [1, 4, 5, 6, 0] rfl)
    · have hf := mm_in hf c_23
      refine lv_aload_n hx hb dX9_shift_120 rfl (lv_at hl 0 rfl) ?_
      refine mm_get C0 hP iw_X9 0 rfl rfl 68 (by decide) fl_X9_98 rfl dX9_shift_121 ?_
      refine lv_iload hx hb dX9_shift_124 (lv_at hl 6 rfl) ?_
      refine lv_aload_n hx hb dX9_shift_126 rfl (lv_at hl 0 rfl) ?_
      refine mm_get C0 hP iw_X9 0 rfl rfl 67 (by decide) fl_X9_94 rfl dX9_shift_127 ?_
      refine lv_bipush (v := 60) hx hb dX9_shift_130 (by decide) ?_
      refine lv_iload_n hx hb dX9_shift_132 rfl (lv_at hl 1 rfl) ?_
      refine lv_imul hx hb dX9_shift_133 ?_
      refine lv_iload_n hx hb dX9_shift_134 rfl (lv_at hl 2 rfl) ?_
      refine lv_iadd hx hb dX9_shift_135 ?_
      refine lv_iload hx hb dX9_shift_136 (lv_at hl 6 rfl) ?_
      refine lv_iadd hx hb dX9_shift_138 ?_
      obtain ⟨h_24, hf⟩ := mm_cks hf
      refine mm_lald C0 hP 29 rfl h_24 dX9_shift_139 ?_
      refine lv_topl (fun y_25 ey_25 => ?_)
      have hf := mm_nms hf ey_25
      obtain ⟨h_26, hf⟩ := mm_cks hf
      refine mm_last C0 hP hD hS 30 rfl h_26 dX9_shift_140 (w2 := (wd_X9 cI cL cS cH a v_keptMany v_done v_rowsOf v_columnsOf v_folded v_wronged v_tapeMany v_textMany v_base v_at v_ends v_fault v_opened v_bentMany v_bentWrong v_moreWorn v_planned v_allWrong v_allWorn v_z v_wishedField v_isFound v_bestWrong v_bestWorn v_bestMany v_soughtBy v_sought v_soughtAt v_foundMany v_foundOrder v_isKept v_imageRows v_imageColumns v_imageFolded v_imageWronged v_bodies v_ran v_ownKind v_ownNumber v_limit v_changeWas v_changeIs v_shapeRows v_shapeColumns v_row v_column v_below v_face v_worn v_lastBend v_tape v_text v_names v_bends v_high v_to v_pileSize v_planLine v_planWay v_way1 v_bestWay v_order1 v_placeIn v_bodyKind v_trace v_shelf v_many v_items (mm_ls v_carried x6 y_25))) rfl (fun H locs hP hD hS => ?_)
      generalize el_27 : (mm_ls v_carried x6 y_25) = l_27 at hP hD
      have hf := mm_nms hf el_27.symm
      obtain ⟨y_28, ey_28⟩ : ∃ z : Int32, z = x6 + (1 : Int32) := ⟨_, rfl⟩
      have hf := mm_nms hf ey_28
      refine lv_iinc (v := y_28) (lv' := [(6, .int y_28), (0, .ref (a 0)), (1, .int x1), (2, .int x2), (3, .int x3), (4, .int x4), (5, .int x5)]) hx hb dX9_shift_141 hl (k := 6) rfl (by rw [ey_28]; rfl) (by decide) rfl (fun ls hl => ?_)
      refine lv_goto (tgt := 113) hx hb dX9_shift_144 (by decide) ?_
      exact ih _ _ _ _ _ _ _ _ _ _ H locs ls hf hP hD hS (lv_sub hl [1, 2, 3, 4, 5, 6, 0] rfl)

def fX9_shift (N : Nat) (x1 : Int32) (x2 : Int32) (x3 : Int32) (x4 : Int32) (x5 : Int32) (v_shelf : List Int32) (v_many : List Int32) (v_items : List Int64) (v_carried : List Int64) : Option (Int32 × List Int64 × List Int64) :=
    mm_bd1 (fX9_isShelf N x1) (fun (r_1 : Bool) =>
    if r_1 = false then
    (some ((-1 : Int32), v_items, v_carried))
    else (mm_bd1 (fX9_isShelf N x3) (fun (r_4 : Bool) =>
    if r_4 = false then
    (some ((-1 : Int32), v_items, v_carried))
    else (mm_ck (mm_inb x1 v_shelf.length) (if (mm_ig v_shelf x1) < 0 then
    (some ((-11 : Int32), v_items, v_carried))
    else (mm_ck (mm_inb x3 v_shelf.length) (if 0 ≤ (mm_ig v_shelf x3) then
    (mm_ck (mm_inb x1 v_shelf.length) (if (mm_ig v_shelf x1) < (50 : Int32) then
    (some ((-12 : Int32), v_items, v_carried))
    else (mm_ck (mm_inb x1 v_shelf.length) (mm_ck (mm_inb x3 v_shelf.length) (if (mm_ig v_shelf x1) = (mm_ig v_shelf x3) then
    (if x5 < 0 then
    (some ((-13 : Int32), v_items, v_carried))
    else (if x2 < 0 then
    (some ((-13 : Int32), v_items, v_carried))
    else (if x4 < 0 then
    (some ((-13 : Int32), v_items, v_carried))
    else (mm_ck (mm_inb x1 v_many.length) (if ((mm_ig v_many x1) - x5) < x2 then
    (some ((-13 : Int32), v_items, v_carried))
    else (mm_ck (mm_inb x3 v_many.length) (if x4 ≤ ((mm_ig v_many x3) - x5) then
    (fX9_shift_113 N N x1 x2 x3 x4 x5 (0 : Int32) v_shelf v_many v_items v_carried)
    else (some ((-13 : Int32), v_items, v_carried)))))))))
    else (some ((-12 : Int32), v_items, v_carried)))))))
    else (some ((-11 : Int32), v_items, v_carried)))))))))

set_option maxHeartbeats 4000000 in
set_option maxRecDepth 100000 in
theorem ctX9_shift {l : Launch} {D : va_G} {cI cL cS cH : ClassId} {a : Nat → Nat} {x1 : Int32} {x2 : Int32} {x3 : Int32} {x4 : Int32} {x5 : Int32} {v_keptMany : Int32} {v_done : Int32} {v_rowsOf : Int32} {v_columnsOf : Int32} {v_folded : Int32} {v_wronged : Int32} {v_tapeMany : Int32} {v_textMany : Int32} {v_base : Int32} {v_at : Int32} {v_ends : Int32} {v_fault : Int32} {v_opened : Int32} {v_bentMany : Int32} {v_bentWrong : Int32} {v_moreWorn : Int32} {v_planned : Int32} {v_allWrong : Int32} {v_allWorn : Int32} {v_z : Int32} {v_wishedField : Int32} {v_isFound : Bool} {v_bestWrong : Int32} {v_bestWorn : Int32} {v_bestMany : Int32} {v_soughtBy : Int32} {v_sought : Int32} {v_soughtAt : Int32} {v_foundMany : Int32} {v_foundOrder : Int32} {v_isKept : Bool} {v_imageRows : Int32} {v_imageColumns : Int32} {v_imageFolded : Int32} {v_imageWronged : Int32} {v_bodies : Int32} {v_ran : Int32} {v_ownKind : Int32} {v_ownNumber : Int32} {v_limit : List Int32} {v_changeWas : List Int32} {v_changeIs : List Int32} {v_shapeRows : List Int32} {v_shapeColumns : List Int32} {v_row : List Int32} {v_column : List Int32} {v_below : List Int32} {v_face : List Int32} {v_worn : List Int32} {v_lastBend : List Int32} {v_tape : List Int32} {v_text : List Int32} {v_names : List Int32} {v_bends : List Int32} {v_high : List Int32} {v_to : List Int32} {v_pileSize : List Int32} {v_planLine : List Int32} {v_planWay : List Int32} {v_way1 : List Int32} {v_bestWay : List Int32} {v_order1 : List Int32} {v_placeIn : List Int32} {v_bodyKind : List Int32} {v_trace : List Int32} {v_shelf : List Int32} {v_many : List Int32} {v_items : List Int64} {v_carried : List Int64} {r : Int32} {w_items : List Int64} {w_carried : List Int64} {N d : Nat} (hd : 3 ≤ d) (hf : fX9_shift N x1 x2 x3 x4 x5 v_shelf v_many v_items v_carried = some (r, w_items, w_carried)) : mm_Ct l yX9_shift cX9_shift 7 (some .int) d D (mm_T cI cL cS cH) [.ref (a 0), .int x1, .int x2, .int x3, .int x4, .int x5] (wd_X9 cI cL cS cH a v_keptMany v_done v_rowsOf v_columnsOf v_folded v_wronged v_tapeMany v_textMany v_base v_at v_ends v_fault v_opened v_bentMany v_bentWrong v_moreWorn v_planned v_allWrong v_allWorn v_z v_wishedField v_isFound v_bestWrong v_bestWorn v_bestMany v_soughtBy v_sought v_soughtAt v_foundMany v_foundOrder v_isKept v_imageRows v_imageColumns v_imageFolded v_imageWronged v_bodies v_ran v_ownKind v_ownNumber v_limit v_changeWas v_changeIs v_shapeRows v_shapeColumns v_row v_column v_below v_face v_worn v_lastBend v_tape v_text v_names v_bends v_high v_to v_pileSize v_planLine v_planWay v_way1 v_bestWay v_order1 v_placeIn v_bodyKind v_trace v_shelf v_many v_items v_carried) (wd_X9 cI cL cS cH a v_keptMany v_done v_rowsOf v_columnsOf v_folded v_wronged v_tapeMany v_textMany v_base v_at v_ends v_fault v_opened v_bentMany v_bentWrong v_moreWorn v_planned v_allWrong v_allWorn v_z v_wishedField v_isFound v_bestWrong v_bestWorn v_bestMany v_soughtBy v_sought v_soughtAt v_foundMany v_foundOrder v_isKept v_imageRows v_imageColumns v_imageFolded v_imageWronged v_bodies v_ran v_ownKind v_ownNumber v_limit v_changeWas v_changeIs v_shapeRows v_shapeColumns v_row v_column v_below v_face v_worn v_lastBend v_tape v_text v_names v_bends v_high v_to v_pileSize v_planLine v_planWay v_way1 v_bestWay v_order1 v_placeIn v_bodyKind v_trace v_shelf v_many w_items w_carried) (some (.int r)) := by
  refine mm_of (by decide) (Nat.le_of_ble_eq_true rfl) ?_
  intro p e s m args below meth c A H locs ls C0 hP hD hA hS hl
  have C0 : mm_Cx p s m args meth c RX9 cX9_shift 7 (some .int) D (mm_T cI cL cS cH) A := C0
  obtain ⟨hx, hb, hml, hown, hts, hr, hlocks, hK, hSt⟩ := id C0
  have hl : lv_has ls 7 [(0, .ref (a 0)), (1, .int x1), (2, .int x2), (3, .int x3), (4, .int x4), (5, .int x5)] := hl
  unfold fX9_shift at hf
  refine lv_iload_n hx hb dX9_shift_0 rfl (lv_at hl 1 rfl) ?_
  obtain ⟨r_1, hc_2, hf⟩ := mm_bd1s hf
  refine mm_callS0 (rest := []) C0 lk_X9_274 (ctX9_isShelf (d := d - 1) (by omega) hc_2) (by omega) rfl hl.1 rfl (mm_cat rfl) dX9_shift_1 hP hD hA hS (fun H locs hP hS => ?_)
  refine W.eq (g2 := F0 m 4 ls [.int (mm_b r_1)]) rfl ?_
  refine lv_if_eq (tgt := 14) hx hb dX9_shift_4 (by decide) (fun c_3 => ?_) (fun c_3 => ?_)
  · have hf := mm_ip hf (mm_b0 c_3)
    refine lv_iconst (v := -1) hx hb dX9_shift_14 (by decide) ?_
    apply mm_sub3 hf
    exact mm_iret C0 hP hD hS dX9_shift_15
  · have hf := mm_in hf (mm_b1 c_3)
    refine lv_iload_n hx hb dX9_shift_7 rfl (lv_at hl 3 rfl) ?_
    obtain ⟨r_4, hc_5, hf⟩ := mm_bd1s hf
    refine mm_callS0 (rest := []) C0 lk_X9_274 (ctX9_isShelf (d := d - 1) (by omega) hc_5) (by omega) rfl hl.1 rfl (mm_cat rfl) dX9_shift_8 hP hD hA hS (fun H locs hP hS => ?_)
    refine W.eq (g2 := F0 m 11 ls [.int (mm_b r_4)]) rfl ?_
    refine lv_if_ne (tgt := 16) hx hb dX9_shift_11 (by decide) (fun c_6 => ?_) (fun c_6 => ?_)
    · have hf := mm_in hf (mm_b1 c_6)
      refine lv_aload_n hx hb dX9_shift_16 rfl (lv_at hl 0 rfl) ?_
      refine mm_get C0 hP iw_X9 0 rfl rfl 65 (by decide) fl_X9_88 rfl dX9_shift_17 ?_
      refine lv_iload_n hx hb dX9_shift_20 rfl (lv_at hl 1 rfl) ?_
      obtain ⟨h_7, hf⟩ := mm_cks hf
      refine mm_iald C0 hP 27 rfl h_7 dX9_shift_21 ?_
      refine lv_if_lt (tgt := 34) hx hb dX9_shift_22 (by decide) (fun c_8 => ?_) (fun c_8 => ?_)
      · have hf := mm_ip hf c_8
        refine lv_bipush (v := -11) hx hb dX9_shift_34 (by decide) ?_
        apply mm_sub3 hf
        exact mm_iret C0 hP hD hS dX9_shift_36
      · have hf := mm_in hf c_8
        refine lv_aload_n hx hb dX9_shift_25 rfl (lv_at hl 0 rfl) ?_
        refine mm_get C0 hP iw_X9 0 rfl rfl 65 (by decide) fl_X9_88 rfl dX9_shift_26 ?_
        refine lv_iload_n hx hb dX9_shift_29 rfl (lv_at hl 3 rfl) ?_
        obtain ⟨h_9, hf⟩ := mm_cks hf
        refine mm_iald C0 hP 27 rfl h_9 dX9_shift_30 ?_
        refine lv_if_ge (tgt := 37) hx hb dX9_shift_31 (by decide) (fun c_10 => ?_) (fun c_10 => ?_)
        · have hf := mm_ip hf c_10
          refine lv_aload_n hx hb dX9_shift_37 rfl (lv_at hl 0 rfl) ?_
          refine mm_get C0 hP iw_X9 0 rfl rfl 65 (by decide) fl_X9_88 rfl dX9_shift_38 ?_
          refine lv_iload_n hx hb dX9_shift_41 rfl (lv_at hl 1 rfl) ?_
          obtain ⟨h_11, hf⟩ := mm_cks hf
          refine mm_iald C0 hP 27 rfl h_11 dX9_shift_42 ?_
          refine lv_bipush (v := 50) hx hb dX9_shift_43 (by decide) ?_
          refine lv_icmp_lt (tgt := 63) hx hb dX9_shift_45 (by decide) (fun c_12 => ?_) (fun c_12 => ?_)
          · have hf := mm_ip hf c_12
            refine lv_bipush (v := -12) hx hb dX9_shift_63 (by decide) ?_
            apply mm_sub3 hf
            exact mm_iret C0 hP hD hS dX9_shift_65
          · have hf := mm_in hf c_12
            refine lv_aload_n hx hb dX9_shift_48 rfl (lv_at hl 0 rfl) ?_
            refine mm_get C0 hP iw_X9 0 rfl rfl 65 (by decide) fl_X9_88 rfl dX9_shift_49 ?_
            refine lv_iload_n hx hb dX9_shift_52 rfl (lv_at hl 1 rfl) ?_
            obtain ⟨h_13, hf⟩ := mm_cks hf
            refine mm_iald C0 hP 27 rfl h_13 dX9_shift_53 ?_
            refine lv_aload_n hx hb dX9_shift_54 rfl (lv_at hl 0 rfl) ?_
            refine mm_get C0 hP iw_X9 0 rfl rfl 65 (by decide) fl_X9_88 rfl dX9_shift_55 ?_
            refine lv_iload_n hx hb dX9_shift_58 rfl (lv_at hl 3 rfl) ?_
            obtain ⟨h_14, hf⟩ := mm_cks hf
            refine mm_iald C0 hP 27 rfl h_14 dX9_shift_59 ?_
            refine lv_icmp_eq (tgt := 66) hx hb dX9_shift_60 (by decide) (fun c_15 => ?_) (fun c_15 => ?_)
            · have hf := mm_ip hf c_15
              refine lv_iload hx hb dX9_shift_66 (lv_at hl 5 rfl) ?_
              refine lv_if_lt (tgt := 107) hx hb dX9_shift_68 (by decide) (fun c_16 => ?_) (fun c_16 => ?_)
              · have hf := mm_ip hf c_16
                refine lv_bipush (v := -13) hx hb dX9_shift_107 (by decide) ?_
                apply mm_sub3 hf
                exact mm_iret C0 hP hD hS dX9_shift_109
              · have hf := mm_in hf c_16
                refine lv_iload_n hx hb dX9_shift_71 rfl (lv_at hl 2 rfl) ?_
                refine lv_if_lt (tgt := 107) hx hb dX9_shift_72 (by decide) (fun c_17 => ?_) (fun c_17 => ?_)
                · have hf := mm_ip hf c_17
                  refine lv_bipush (v := -13) hx hb dX9_shift_107 (by decide) ?_
                  apply mm_sub3 hf
                  exact mm_iret C0 hP hD hS dX9_shift_109
                · have hf := mm_in hf c_17
                  refine lv_iload hx hb dX9_shift_75 (lv_at hl 4 rfl) ?_
                  refine lv_if_lt (tgt := 107) hx hb dX9_shift_77 (by decide) (fun c_18 => ?_) (fun c_18 => ?_)
                  · have hf := mm_ip hf c_18
                    refine lv_bipush (v := -13) hx hb dX9_shift_107 (by decide) ?_
                    apply mm_sub3 hf
                    exact mm_iret C0 hP hD hS dX9_shift_109
                  · have hf := mm_in hf c_18
                    refine lv_iload_n hx hb dX9_shift_80 rfl (lv_at hl 2 rfl) ?_
                    refine lv_aload_n hx hb dX9_shift_81 rfl (lv_at hl 0 rfl) ?_
                    refine mm_get C0 hP iw_X9 0 rfl rfl 66 (by decide) fl_X9_91 rfl dX9_shift_82 ?_
                    refine lv_iload_n hx hb dX9_shift_85 rfl (lv_at hl 1 rfl) ?_
                    obtain ⟨h_19, hf⟩ := mm_cks hf
                    refine mm_iald C0 hP 28 rfl h_19 dX9_shift_86 ?_
                    refine lv_iload hx hb dX9_shift_87 (lv_at hl 5 rfl) ?_
                    refine lv_isub hx hb dX9_shift_89 ?_
                    refine lv_icmp_gt (tgt := 107) hx hb dX9_shift_90 (by decide) (fun c_20 => ?_) (fun c_20 => ?_)
                    · have hf := mm_ip hf c_20
                      refine lv_bipush (v := -13) hx hb dX9_shift_107 (by decide) ?_
                      apply mm_sub3 hf
                      exact mm_iret C0 hP hD hS dX9_shift_109
                    · have hf := mm_in hf c_20
                      refine lv_iload hx hb dX9_shift_93 (lv_at hl 4 rfl) ?_
                      refine lv_aload_n hx hb dX9_shift_95 rfl (lv_at hl 0 rfl) ?_
                      refine mm_get C0 hP iw_X9 0 rfl rfl 66 (by decide) fl_X9_91 rfl dX9_shift_96 ?_
                      refine lv_iload_n hx hb dX9_shift_99 rfl (lv_at hl 3 rfl) ?_
                      obtain ⟨h_21, hf⟩ := mm_cks hf
                      refine mm_iald C0 hP 28 rfl h_21 dX9_shift_100 ?_
                      refine lv_iload hx hb dX9_shift_101 (lv_at hl 5 rfl) ?_
                      refine lv_isub hx hb dX9_shift_103 ?_
                      refine lv_icmp_le (tgt := 110) hx hb dX9_shift_104 (by decide) (fun c_22 => ?_) (fun c_22 => ?_)
                      · have hf := mm_ip hf c_22
                        refine lv_iconst (v := 0) hx hb dX9_shift_110 (by decide) ?_
                        refine lv_istore (lv' := [(6, .int (0 : Int32)), (0, .ref (a 0)), (1, .int x1), (2, .int x2), (3, .int x3), (4, .int x4), (5, .int x5)]) hx hb dX9_shift_111 hl (by decide) rfl (fun ls hl => ?_)
                        exact tX9_shift_113 hd C0 hA N  N _ _ _ _ _ _ _ _ _ _ H locs ls hf hP hD hS (lv_sub hl [1, 2, 3, 4, 5, 6, 0] rfl)
                      · have hf := mm_in hf c_22
                        refine lv_bipush (v := -13) hx hb dX9_shift_107 (by decide) ?_
                        apply mm_sub3 hf
                        exact mm_iret C0 hP hD hS dX9_shift_109
            · have hf := mm_in hf c_15
              refine lv_bipush (v := -12) hx hb dX9_shift_63 (by decide) ?_
              apply mm_sub3 hf
              exact mm_iret C0 hP hD hS dX9_shift_65
        · have hf := mm_in hf c_10
          refine lv_bipush (v := -11) hx hb dX9_shift_34 (by decide) ?_
          apply mm_sub3 hf
          exact mm_iret C0 hP hD hS dX9_shift_36
    · have hf := mm_ip hf (mm_b0 c_6)
      refine lv_iconst (v := -1) hx hb dX9_shift_14 (by decide) ?_
      apply mm_sub3 hf
      exact mm_iret C0 hP hD hS dX9_shift_15

